theorem dr_cJ5_length_8abf5_0 : decode cJ5_length_8abf5 0 = .ok (.aload_n 0, 1) := by decide +kernel
theorem dr_cJ5_length_8abf5_1 : decode cJ5_length_8abf5 1 = .ok (.getfield 79, 3) := by decide +kernel
theorem wr_7_64 : (Jvm.Cond.fieldLink "java/lang/AbstractStringBuilder" (79 : Nat) "java/lang/AbstractStringBuilder" "count" "I") ∈ gw := gw_7 64 rfl rfl
theorem dr_cJ5_length_8abf5_4 : decode cJ5_length_8abf5 4 = .ok (.ireturn, 1) := by decide +kernel
theorem dr_cJ4_length_8abf5_0 : decode cJ4_length_8abf5 0 = .ok (.aload_n 0, 1) := by decide +kernel
theorem dr_cJ4_length_8abf5_1 : decode cJ4_length_8abf5 1 = .ok (.invokespecial 343, 3) := by decide +kernel
theorem wr_8_90 : (Jvm.Cond.methodLink "java/lang/StringBuilder" (343 : Nat) ({ cls := "java/lang/AbstractStringBuilder", name := "length", desc := "()I" } : Jvm.MethodName)) ∈ gw := gw_8 90 rfl rfl
theorem wr_1_19 : (Jvm.Cond.initialized "java/lang/AbstractStringBuilder") ∈ gw := gw_1 19 rfl rfl
theorem wr_8_91 : (Jvm.Cond.code ({ cls := "java/lang/AbstractStringBuilder", name := "length", desc := "()I" } : Jvm.MethodName) prog_21_method_6_code (1 : Nat) (Option.some Jvm.ClassFile.FieldType.int)) ∈ gw := gw_8 91 rfl rfl
theorem wr_8_85 : (Jvm.Cond.instanceMethod ({ cls := "java/lang/AbstractStringBuilder", name := "length", desc := "()I" } : Jvm.MethodName)) ∈ gw := gw_8 85 rfl rfl
theorem wr_8_86 : (Jvm.Cond.sameMethod "java/lang/AbstractStringBuilder" "java/lang/AbstractStringBuilder" "length" "()I") ∈ gw := gw_8 86 rfl rfl
theorem wr_7_73 : (Jvm.Cond.superclass "java/lang/StringBuilder" "java/lang/AbstractStringBuilder") ∈ gw := gw_7 73 rfl rfl
theorem wr_7_44 : (Jvm.Cond.instantiable "java/lang/StringBuilder" (4 : Nat)) ∈ gw := gw_7 44 rfl rfl
theorem dr_cJ4_length_8abf5_4 : decode cJ4_length_8abf5 4 = .ok (.ireturn, 1) := by decide +kernel
theorem dr_cJ0_checkIndex_df160_0 : decode cJ0_checkIndex_df160 0 = .ok (.iload_n 0, 1) := by decide +kernel
theorem dr_cJ0_checkIndex_df160_1 : decode cJ0_checkIndex_df160 1 = .ok (.iload_n 1, 1) := by decide +kernel
theorem dr_cJ0_checkIndex_df160_2 : decode cJ0_checkIndex_df160 2 = .ok (.getstatic 1053, 3) := by decide +kernel
theorem wr_3_81 : (Jvm.Cond.fieldLink "java/lang/String" (1053 : Nat) "jdk/internal/util/Preconditions" "SIOOBE_FORMATTER" "Ljava/util/function/BiFunction;") ∈ gw := gw_3 81 rfl rfl
theorem dr_cJ0_checkIndex_df160_5 : decode cJ0_checkIndex_df160 5 = .ok (.invokestatic 1059, 3) := by decide +kernel
theorem wr_3_83 : (Jvm.Cond.methodLink "java/lang/String" (1059 : Nat) ({ cls := "jdk/internal/util/Preconditions", name := "checkIndex", desc := "(IILjava/util/function/BiFunction;)I" } : Jvm.MethodName)) ∈ gw := gw_3 83 rfl rfl
theorem dr_cJ0_checkIndex_df160_8 : decode cJ0_checkIndex_df160 8 = .ok (.pop, 1) := by decide +kernel
theorem dr_cJ0_checkIndex_df160_9 : decode cJ0_checkIndex_df160 9 = .ok (.return_, 1) := by decide +kernel
theorem dr_cJ5_charAt_5068e_0 : decode cJ5_charAt_5068e 0 = .ok (.aload_n 0, 1) := by decide +kernel
theorem dr_cJ5_charAt_5068e_1 : decode cJ5_charAt_5068e 1 = .ok (.getfield 22, 3) := by decide +kernel
theorem wr_7_61 : (Jvm.Cond.fieldLink "java/lang/AbstractStringBuilder" (22 : Nat) "java/lang/AbstractStringBuilder" "coder" "B") ∈ gw := gw_7 61 rfl rfl
theorem dr_cJ5_charAt_5068e_4 : decode cJ5_charAt_5068e 4 = .ok (.istore_n 2, 1) := by decide +kernel
theorem dr_cJ5_charAt_5068e_5 : decode cJ5_charAt_5068e 5 = .ok (.aload_n 0, 1) := by decide +kernel
theorem dr_cJ5_charAt_5068e_6 : decode cJ5_charAt_5068e 6 = .ok (.getfield 15, 3) := by decide +kernel
theorem wr_7_60 : (Jvm.Cond.fieldLink "java/lang/AbstractStringBuilder" (15 : Nat) "java/lang/AbstractStringBuilder" "value" "[B") ∈ gw := gw_7 60 rfl rfl
theorem dr_cJ5_charAt_5068e_9 : decode cJ5_charAt_5068e 9 = .ok (.astore_n 3, 1) := by decide +kernel
theorem dr_cJ5_charAt_5068e_10 : decode cJ5_charAt_5068e 10 = .ok (.aload_n 0, 1) := by decide +kernel
theorem dr_cJ5_charAt_5068e_11 : decode cJ5_charAt_5068e 11 = .ok (.getfield 79, 3) := by decide +kernel
theorem dr_cJ5_charAt_5068e_14 : decode cJ5_charAt_5068e 14 = .ok (.aload_n 3, 1) := by decide +kernel
theorem dr_cJ5_charAt_5068e_15 : decode cJ5_charAt_5068e 15 = .ok (.arraylength, 1) := by decide +kernel
theorem dr_cJ5_charAt_5068e_16 : decode cJ5_charAt_5068e 16 = .ok (.iload_n 2, 1) := by decide +kernel
theorem dr_cJ5_charAt_5068e_17 : decode cJ5_charAt_5068e 17 = .ok (.ishr, 1) := by decide +kernel
theorem dr_cJ5_charAt_5068e_18 : decode cJ5_charAt_5068e 18 = .ok (.invokestatic 138, 3) := by decide +kernel
theorem wr_11_216 : (Jvm.Cond.methodLink "java/lang/AbstractStringBuilder" (138 : Nat) ({ cls := "java/lang/Math", name := "min", desc := "(II)I" } : Jvm.MethodName)) ∈ gw := gw_11 216 rfl rfl
theorem dr_cJ5_charAt_5068e_21 : decode cJ5_charAt_5068e 21 = .ok (.istore 4, 2) := by decide +kernel
theorem dr_cJ5_charAt_5068e_23 : decode cJ5_charAt_5068e 23 = .ok (.iload_n 1, 1) := by decide +kernel
theorem dr_cJ5_charAt_5068e_24 : decode cJ5_charAt_5068e 24 = .ok (.iload 4, 2) := by decide +kernel
theorem dr_cJ5_charAt_5068e_26 : decode cJ5_charAt_5068e 26 = .ok (.invokestatic 144, 3) := by decide +kernel
theorem wr_11_217 : (Jvm.Cond.methodLink "java/lang/AbstractStringBuilder" (144 : Nat) ({ cls := "java/lang/String", name := "checkIndex", desc := "(II)V" } : Jvm.MethodName)) ∈ gw := gw_11 217 rfl rfl
theorem wr_1_21 : (Jvm.Cond.initialized "java/lang/String") ∈ gw := gw_1 21 rfl rfl
theorem wr_3_80 : (Jvm.Cond.code ({ cls := "java/lang/String", name := "checkIndex", desc := "(II)V" } : Jvm.MethodName) prog_34_method_155_code (2 : Nat) (Option.none : Option Jvm.ClassFile.FieldType)) ∈ gw := gw_3 80 rfl rfl
theorem wr_3_79 : (Jvm.Cond.static ({ cls := "java/lang/String", name := "checkIndex", desc := "(II)V" } : Jvm.MethodName)) ∈ gw := gw_3 79 rfl rfl
theorem dr_cJ5_charAt_5068e_29 : decode cJ5_charAt_5068e 29 = .ok (.iload_n 2, 1) := by decide +kernel
theorem dr_cJ5_charAt_5068e_30 : decode cJ5_charAt_5068e 30 = .ok (.ifCond .ne 12, 3) := by decide +kernel
theorem dr_cJ5_charAt_5068e_33 : decode cJ5_charAt_5068e 33 = .ok (.aload_n 3, 1) := by decide +kernel
theorem dr_cJ5_charAt_5068e_34 : decode cJ5_charAt_5068e 34 = .ok (.iload_n 1, 1) := by decide +kernel
theorem dr_cJ5_charAt_5068e_35 : decode cJ5_charAt_5068e 35 = .ok (.baload, 1) := by decide +kernel
theorem dr_cJ5_charAt_5068e_36 : decode cJ5_charAt_5068e 36 = .ok (.sipush 255, 3) := by decide +kernel
theorem dr_cJ5_charAt_5068e_39 : decode cJ5_charAt_5068e 39 = .ok (.iand, 1) := by decide +kernel
theorem dr_cJ5_charAt_5068e_40 : decode cJ5_charAt_5068e 40 = .ok (.i2c, 1) := by decide +kernel
theorem dr_cJ5_charAt_5068e_41 : decode cJ5_charAt_5068e 41 = .ok (.ireturn, 1) := by decide +kernel
theorem dr_cJ4_charAt_5068e_0 : decode cJ4_charAt_5068e 0 = .ok (.aload_n 0, 1) := by decide +kernel
theorem dr_cJ4_charAt_5068e_1 : decode cJ4_charAt_5068e 1 = .ok (.iload_n 1, 1) := by decide +kernel
theorem dr_cJ4_charAt_5068e_2 : decode cJ4_charAt_5068e 2 = .ok (.invokespecial 329, 3) := by decide +kernel
theorem wr_11_213 : (Jvm.Cond.methodLink "java/lang/StringBuilder" (329 : Nat) ({ cls := "java/lang/AbstractStringBuilder", name := "charAt", desc := "(I)C" } : Jvm.MethodName)) ∈ gw := gw_11 213 rfl rfl
theorem wr_11_215 : (Jvm.Cond.code ({ cls := "java/lang/AbstractStringBuilder", name := "charAt", desc := "(I)C" } : Jvm.MethodName) prog_21_method_14_code (5 : Nat) (Option.some Jvm.ClassFile.FieldType.char)) ∈ gw := gw_11 215 rfl rfl
theorem wr_11_214 : (Jvm.Cond.instanceMethod ({ cls := "java/lang/AbstractStringBuilder", name := "charAt", desc := "(I)C" } : Jvm.MethodName)) ∈ gw := gw_11 214 rfl rfl
theorem wr_11_235 : (Jvm.Cond.sameMethod "java/lang/AbstractStringBuilder" "java/lang/AbstractStringBuilder" "charAt" "(I)C") ∈ gw := gw_11 235 rfl rfl
theorem dr_cJ4_charAt_5068e_5 : decode cJ4_charAt_5068e 5 = .ok (.ireturn, 1) := by decide +kernel
theorem dr_cJ5_ensureCapacityInternal_d00df_0 : decode cJ5_ensureCapacityInternal_d00df 0 = .ok (.aload_n 0, 1) := by decide +kernel
theorem dr_cJ5_ensureCapacityInternal_d00df_1 : decode cJ5_ensureCapacityInternal_d00df 1 = .ok (.getfield 15, 3) := by decide +kernel
theorem dr_cJ5_ensureCapacityInternal_d00df_4 : decode cJ5_ensureCapacityInternal_d00df 4 = .ok (.arraylength, 1) := by decide +kernel
theorem dr_cJ5_ensureCapacityInternal_d00df_5 : decode cJ5_ensureCapacityInternal_d00df 5 = .ok (.aload_n 0, 1) := by decide +kernel
theorem dr_cJ5_ensureCapacityInternal_d00df_6 : decode cJ5_ensureCapacityInternal_d00df 6 = .ok (.getfield 22, 3) := by decide +kernel
theorem dr_cJ5_ensureCapacityInternal_d00df_9 : decode cJ5_ensureCapacityInternal_d00df 9 = .ok (.ishr, 1) := by decide +kernel
theorem dr_cJ5_ensureCapacityInternal_d00df_10 : decode cJ5_ensureCapacityInternal_d00df 10 = .ok (.istore_n 2, 1) := by decide +kernel
theorem dr_cJ5_ensureCapacityInternal_d00df_11 : decode cJ5_ensureCapacityInternal_d00df 11 = .ok (.iload_n 1, 1) := by decide +kernel
theorem dr_cJ5_ensureCapacityInternal_d00df_12 : decode cJ5_ensureCapacityInternal_d00df 12 = .ok (.iload_n 2, 1) := by decide +kernel
theorem dr_cJ5_ensureCapacityInternal_d00df_13 : decode cJ5_ensureCapacityInternal_d00df 13 = .ok (.isub, 1) := by decide +kernel
theorem dr_cJ5_ensureCapacityInternal_d00df_14 : decode cJ5_ensureCapacityInternal_d00df 14 = .ok (.ifCond .le 24, 3) := by decide +kernel
theorem dr_cJ5_ensureCapacityInternal_d00df_38 : decode cJ5_ensureCapacityInternal_d00df 38 = .ok (.return_, 1) := by decide +kernel
theorem dr_cJ5_isLatin1_aae02_0 : decode cJ5_isLatin1_aae02 0 = .ok (.getstatic 18, 3) := by decide +kernel
theorem wr_7_52 : (Jvm.Cond.fieldLink "java/lang/AbstractStringBuilder" (18 : Nat) "java/lang/String" "COMPACT_STRINGS" "Z") ∈ gw := gw_7 52 rfl rfl
theorem dr_cJ5_isLatin1_aae02_3 : decode cJ5_isLatin1_aae02 3 = .ok (.ifCond .eq 14, 3) := by decide +kernel
theorem dr_cJ5_isLatin1_aae02_6 : decode cJ5_isLatin1_aae02 6 = .ok (.aload_n 0, 1) := by decide +kernel
theorem dr_cJ5_isLatin1_aae02_7 : decode cJ5_isLatin1_aae02 7 = .ok (.getfield 22, 3) := by decide +kernel
theorem dr_cJ5_isLatin1_aae02_10 : decode cJ5_isLatin1_aae02 10 = .ok (.ifCond .ne 7, 3) := by decide +kernel
theorem dr_cJ5_isLatin1_aae02_13 : decode cJ5_isLatin1_aae02 13 = .ok (.iconst 1, 1) := by decide +kernel
theorem dr_cJ5_isLatin1_aae02_14 : decode cJ5_isLatin1_aae02 14 = .ok (.goto 4, 3) := by decide +kernel
theorem dr_cJ5_isLatin1_aae02_18 : decode cJ5_isLatin1_aae02 18 = .ok (.ireturn, 1) := by decide +kernel
theorem dr_cJ1_canEncode_fc78d_0 : decode cJ1_canEncode_fc78d 0 = .ok (.iload_n 0, 1) := by decide +kernel
theorem dr_cJ1_canEncode_fc78d_1 : decode cJ1_canEncode_fc78d 1 = .ok (.sipush 255, 3) := by decide +kernel
theorem dr_cJ1_canEncode_fc78d_4 : decode cJ1_canEncode_fc78d 4 = .ok (.if_icmp .gt 7, 3) := by decide +kernel
theorem dr_cJ1_canEncode_fc78d_11 : decode cJ1_canEncode_fc78d 11 = .ok (.iconst 0, 1) := by decide +kernel
theorem dr_cJ1_canEncode_fc78d_12 : decode cJ1_canEncode_fc78d 12 = .ok (.ireturn, 1) := by decide +kernel
theorem dr_cJ1_canEncode_fc78d_7 : decode cJ1_canEncode_fc78d 7 = .ok (.iconst 1, 1) := by decide +kernel
theorem dr_cJ1_canEncode_fc78d_8 : decode cJ1_canEncode_fc78d 8 = .ok (.goto 4, 3) := by decide +kernel
theorem dr_cJ5_append_3fe6f_0 : decode cJ5_append_3fe6f 0 = .ok (.aload_n 0, 1) := by decide +kernel
theorem dr_cJ5_append_3fe6f_1 : decode cJ5_append_3fe6f 1 = .ok (.aload_n 0, 1) := by decide +kernel
theorem dr_cJ5_append_3fe6f_2 : decode cJ5_append_3fe6f 2 = .ok (.getfield 79, 3) := by decide +kernel
theorem dr_cJ5_append_3fe6f_5 : decode cJ5_append_3fe6f 5 = .ok (.iconst 1, 1) := by decide +kernel
theorem dr_cJ5_append_3fe6f_6 : decode cJ5_append_3fe6f 6 = .ok (.iadd, 1) := by decide +kernel
theorem dr_cJ5_append_3fe6f_7 : decode cJ5_append_3fe6f 7 = .ok (.invokevirtual 100, 3) := by decide +kernel
theorem wr_8_4 : (Jvm.Cond.methodLink "java/lang/AbstractStringBuilder" (100 : Nat) ({ cls := "java/lang/AbstractStringBuilder", name := "ensureCapacityInternal", desc := "(I)V" } : Jvm.MethodName)) ∈ gw := gw_8 4 rfl rfl
theorem wr_8_7 : (Jvm.Cond.code ({ cls := "java/lang/AbstractStringBuilder", name := "ensureCapacityInternal", desc := "(I)V" } : Jvm.MethodName) prog_21_method_9_code (3 : Nat) (Option.none : Option Jvm.ClassFile.FieldType)) ∈ gw := gw_8 7 rfl rfl
theorem wr_8_6 : (Jvm.Cond.instanceMethod ({ cls := "java/lang/AbstractStringBuilder", name := "ensureCapacityInternal", desc := "(I)V" } : Jvm.MethodName)) ∈ gw := gw_8 6 rfl rfl
theorem wr_s_0 : Cond.selects "java/lang/StringBuilder" ⟨"java/lang/AbstractStringBuilder", "ensureCapacityInternal", "(I)V"⟩ ⟨"java/lang/AbstractStringBuilder", "ensureCapacityInternal", "(I)V"⟩ ∈ gw := gw_s _ 0 rfl rfl rfl
theorem dr_cJ5_append_3fe6f_10 : decode cJ5_append_3fe6f 10 = .ok (.aload_n 0, 1) := by decide +kernel
theorem dr_cJ5_append_3fe6f_11 : decode cJ5_append_3fe6f 11 = .ok (.invokevirtual 83, 3) := by decide +kernel
theorem wr_8_33 : (Jvm.Cond.methodLink "java/lang/AbstractStringBuilder" (83 : Nat) ({ cls := "java/lang/AbstractStringBuilder", name := "isLatin1", desc := "()Z" } : Jvm.MethodName)) ∈ gw := gw_8 33 rfl rfl
theorem wr_8_37 : (Jvm.Cond.code ({ cls := "java/lang/AbstractStringBuilder", name := "isLatin1", desc := "()Z" } : Jvm.MethodName) prog_21_method_68_code (1 : Nat) (Option.some Jvm.ClassFile.FieldType.boolean)) ∈ gw := gw_8 37 rfl rfl
theorem wr_8_34 : (Jvm.Cond.instanceMethod ({ cls := "java/lang/AbstractStringBuilder", name := "isLatin1", desc := "()Z" } : Jvm.MethodName)) ∈ gw := gw_8 34 rfl rfl
theorem wr_8_36 : (Jvm.Cond.selects "java/lang/StringBuilder" ({ cls := "java/lang/AbstractStringBuilder", name := "isLatin1", desc := "()Z" } : Jvm.MethodName) ({ cls := "java/lang/AbstractStringBuilder", name := "isLatin1", desc := "()Z" } : Jvm.MethodName)) ∈ gw := gw_8 36 rfl rfl
theorem dr_cJ5_append_3fe6f_14 : decode cJ5_append_3fe6f 14 = .ok (.ifCond .eq 31, 3) := by decide +kernel
theorem dr_cJ5_append_3fe6f_17 : decode cJ5_append_3fe6f 17 = .ok (.iload_n 1, 1) := by decide +kernel
theorem dr_cJ5_append_3fe6f_18 : decode cJ5_append_3fe6f 18 = .ok (.invokestatic 191, 3) := by decide +kernel
theorem wr_8_38 : (Jvm.Cond.methodLink "java/lang/AbstractStringBuilder" (191 : Nat) ({ cls := "java/lang/StringLatin1", name := "canEncode", desc := "(C)Z" } : Jvm.MethodName)) ∈ gw := gw_8 38 rfl rfl
theorem wr_1_28 : (Jvm.Cond.initialized "java/lang/StringLatin1") ∈ gw := gw_1 28 rfl rfl
theorem wr_8_40 : (Jvm.Cond.code ({ cls := "java/lang/StringLatin1", name := "canEncode", desc := "(C)Z" } : Jvm.MethodName) prog_37_method_3_code (1 : Nat) (Option.some Jvm.ClassFile.FieldType.boolean)) ∈ gw := gw_8 40 rfl rfl
theorem wr_8_39 : (Jvm.Cond.static ({ cls := "java/lang/StringLatin1", name := "canEncode", desc := "(C)Z" } : Jvm.MethodName)) ∈ gw := gw_8 39 rfl rfl
theorem dr_cJ5_append_3fe6f_21 : decode cJ5_append_3fe6f 21 = .ok (.ifCond .eq 24, 3) := by decide +kernel
theorem dr_cJ5_append_3fe6f_24 : decode cJ5_append_3fe6f 24 = .ok (.aload_n 0, 1) := by decide +kernel
theorem dr_cJ5_append_3fe6f_25 : decode cJ5_append_3fe6f 25 = .ok (.getfield 15, 3) := by decide +kernel
theorem dr_cJ5_append_3fe6f_28 : decode cJ5_append_3fe6f 28 = .ok (.aload_n 0, 1) := by decide +kernel
theorem dr_cJ5_append_3fe6f_29 : decode cJ5_append_3fe6f 29 = .ok (.dup, 1) := by decide +kernel
theorem dr_cJ5_append_3fe6f_30 : decode cJ5_append_3fe6f 30 = .ok (.getfield 79, 3) := by decide +kernel
theorem dr_cJ5_append_3fe6f_33 : decode cJ5_append_3fe6f 33 = .ok (.dup_x1, 1) := by decide +kernel
theorem dr_cJ5_append_3fe6f_34 : decode cJ5_append_3fe6f 34 = .ok (.iconst 1, 1) := by decide +kernel
theorem dr_cJ5_append_3fe6f_35 : decode cJ5_append_3fe6f 35 = .ok (.iadd, 1) := by decide +kernel
theorem dr_cJ5_append_3fe6f_36 : decode cJ5_append_3fe6f 36 = .ok (.putfield 79, 3) := by decide +kernel
theorem dr_cJ5_append_3fe6f_39 : decode cJ5_append_3fe6f 39 = .ok (.iload_n 1, 1) := by decide +kernel
theorem dr_cJ5_append_3fe6f_40 : decode cJ5_append_3fe6f 40 = .ok (.i2b, 1) := by decide +kernel
theorem dr_cJ5_append_3fe6f_41 : decode cJ5_append_3fe6f 41 = .ok (.bastore, 1) := by decide +kernel
theorem dr_cJ5_append_3fe6f_42 : decode cJ5_append_3fe6f 42 = .ok (.goto 33, 3) := by decide +kernel
theorem dr_cJ5_append_3fe6f_75 : decode cJ5_append_3fe6f 75 = .ok (.aload_n 0, 1) := by decide +kernel
theorem dr_cJ5_append_3fe6f_76 : decode cJ5_append_3fe6f 76 = .ok (.areturn, 1) := by decide +kernel
theorem dr_cJ4_append_cf468_0 : decode cJ4_append_cf468 0 = .ok (.aload_n 0, 1) := by decide +kernel
theorem dr_cJ4_append_cf468_1 : decode cJ4_append_cf468 1 = .ok (.iload_n 1, 1) := by decide +kernel
theorem dr_cJ4_append_cf468_2 : decode cJ4_append_cf468 2 = .ok (.invokespecial 50, 3) := by decide +kernel
theorem wr_8_1 : (Jvm.Cond.methodLink "java/lang/StringBuilder" (50 : Nat) ({ cls := "java/lang/AbstractStringBuilder", name := "append", desc := "(C)Ljava/lang/AbstractStringBuilder;" } : Jvm.MethodName)) ∈ gw := gw_8 1 rfl rfl
theorem wr_8_3 : (Jvm.Cond.code ({ cls := "java/lang/AbstractStringBuilder", name := "append", desc := "(C)Ljava/lang/AbstractStringBuilder;" } : Jvm.MethodName) prog_21_method_31_code (2 : Nat) (Option.some (Jvm.ClassFile.FieldType.object "java/lang/AbstractStringBuilder"))) ∈ gw := gw_8 3 rfl rfl
theorem wr_8_2 : (Jvm.Cond.instanceMethod ({ cls := "java/lang/AbstractStringBuilder", name := "append", desc := "(C)Ljava/lang/AbstractStringBuilder;" } : Jvm.MethodName)) ∈ gw := gw_8 2 rfl rfl
theorem wr_11_224 : (Jvm.Cond.sameMethod "java/lang/AbstractStringBuilder" "java/lang/AbstractStringBuilder" "append" "(C)Ljava/lang/AbstractStringBuilder;") ∈ gw := gw_11 224 rfl rfl
theorem dr_cJ4_append_cf468_5 : decode cJ4_append_cf468 5 = .ok (.pop, 1) := by decide +kernel
theorem dr_cJ4_append_cf468_6 : decode cJ4_append_cf468 6 = .ok (.aload_n 0, 1) := by decide +kernel
theorem dr_cJ4_append_cf468_7 : decode cJ4_append_cf468 7 = .ok (.areturn, 1) := by decide +kernel
theorem dr_cJ5_newCapacity_0f7a4_0 : decode cJ5_newCapacity_0f7a4 0 = .ok (.aload_n 0, 1) := by decide +kernel
theorem dr_cJ5_newCapacity_0f7a4_1 : decode cJ5_newCapacity_0f7a4 1 = .ok (.getfield 15, 3) := by decide +kernel
theorem dr_cJ5_newCapacity_0f7a4_4 : decode cJ5_newCapacity_0f7a4 4 = .ok (.arraylength, 1) := by decide +kernel
theorem dr_cJ5_newCapacity_0f7a4_5 : decode cJ5_newCapacity_0f7a4 5 = .ok (.istore_n 2, 1) := by decide +kernel
theorem dr_cJ5_newCapacity_0f7a4_6 : decode cJ5_newCapacity_0f7a4 6 = .ok (.iload_n 1, 1) := by decide +kernel
theorem dr_cJ5_newCapacity_0f7a4_7 : decode cJ5_newCapacity_0f7a4 7 = .ok (.aload_n 0, 1) := by decide +kernel
theorem dr_cJ5_newCapacity_0f7a4_8 : decode cJ5_newCapacity_0f7a4 8 = .ok (.getfield 22, 3) := by decide +kernel
theorem dr_cJ5_newCapacity_0f7a4_11 : decode cJ5_newCapacity_0f7a4 11 = .ok (.ishl, 1) := by decide +kernel
theorem dr_cJ5_newCapacity_0f7a4_12 : decode cJ5_newCapacity_0f7a4 12 = .ok (.istore_n 3, 1) := by decide +kernel
theorem dr_cJ5_newCapacity_0f7a4_13 : decode cJ5_newCapacity_0f7a4 13 = .ok (.iload_n 3, 1) := by decide +kernel
theorem dr_cJ5_newCapacity_0f7a4_14 : decode cJ5_newCapacity_0f7a4 14 = .ok (.iload_n 2, 1) := by decide +kernel
theorem dr_cJ5_newCapacity_0f7a4_15 : decode cJ5_newCapacity_0f7a4 15 = .ok (.isub, 1) := by decide +kernel
theorem dr_cJ5_newCapacity_0f7a4_16 : decode cJ5_newCapacity_0f7a4 16 = .ok (.istore 4, 2) := by decide +kernel
theorem dr_cJ5_newCapacity_0f7a4_18 : decode cJ5_newCapacity_0f7a4 18 = .ok (.iload_n 2, 1) := by decide +kernel
theorem dr_cJ5_newCapacity_0f7a4_19 : decode cJ5_newCapacity_0f7a4 19 = .ok (.iload 4, 2) := by decide +kernel
theorem dr_cJ5_newCapacity_0f7a4_21 : decode cJ5_newCapacity_0f7a4 21 = .ok (.iload_n 2, 1) := by decide +kernel
theorem dr_cJ5_newCapacity_0f7a4_22 : decode cJ5_newCapacity_0f7a4 22 = .ok (.iconst 2, 1) := by decide +kernel
theorem dr_cJ5_newCapacity_0f7a4_23 : decode cJ5_newCapacity_0f7a4 23 = .ok (.aload_n 0, 1) := by decide +kernel
theorem dr_cJ5_newCapacity_0f7a4_24 : decode cJ5_newCapacity_0f7a4 24 = .ok (.getfield 22, 3) := by decide +kernel
theorem dr_cJ5_newCapacity_0f7a4_27 : decode cJ5_newCapacity_0f7a4 27 = .ok (.ishl, 1) := by decide +kernel
theorem dr_cJ5_newCapacity_0f7a4_28 : decode cJ5_newCapacity_0f7a4 28 = .ok (.iadd, 1) := by decide +kernel
theorem dr_cJ5_newCapacity_0f7a4_29 : decode cJ5_newCapacity_0f7a4 29 = .ok (.invokestatic 114, 3) := by decide +kernel
theorem wr_8_12 : (Jvm.Cond.methodLink "java/lang/AbstractStringBuilder" (114 : Nat) ({ cls := "jdk/internal/util/ArraysSupport", name := "newLength", desc := "(III)I" } : Jvm.MethodName)) ∈ gw := gw_8 12 rfl rfl
theorem dr_cJ5_newCapacity_0f7a4_32 : decode cJ5_newCapacity_0f7a4 32 = .ok (.istore 5, 2) := by decide +kernel
theorem dr_cJ5_newCapacity_0f7a4_34 : decode cJ5_newCapacity_0f7a4 34 = .ok (.iload 5, 2) := by decide +kernel
theorem dr_cJ5_newCapacity_0f7a4_36 : decode cJ5_newCapacity_0f7a4 36 = .ok (.ldc 39, 2) := by decide +kernel
theorem wr_8_20 : (Jvm.Cond.constant "java/lang/AbstractStringBuilder" (39 : Nat) (2147483647 : Int32)) ∈ gw := gw_8 20 rfl rfl
theorem dr_cJ5_newCapacity_0f7a4_38 : decode cJ5_newCapacity_0f7a4 38 = .ok (.if_icmp .ne 13, 3) := by decide +kernel
theorem dr_cJ5_newCapacity_0f7a4_51 : decode cJ5_newCapacity_0f7a4 51 = .ok (.iload 5, 2) := by decide +kernel
theorem dr_cJ5_newCapacity_0f7a4_53 : decode cJ5_newCapacity_0f7a4 53 = .ok (.aload_n 0, 1) := by decide +kernel
theorem dr_cJ5_newCapacity_0f7a4_54 : decode cJ5_newCapacity_0f7a4 54 = .ok (.getfield 22, 3) := by decide +kernel
theorem dr_cJ5_newCapacity_0f7a4_57 : decode cJ5_newCapacity_0f7a4 57 = .ok (.ishr, 1) := by decide +kernel
theorem dr_cJ5_newCapacity_0f7a4_58 : decode cJ5_newCapacity_0f7a4 58 = .ok (.ireturn, 1) := by decide +kernel
theorem dr_cJ7_copyOf_9075b_0 : decode cJ7_copyOf_9075b 0 = .ok (.iload_n 1, 1) := by decide +kernel
theorem dr_cJ7_copyOf_9075b_1 : decode cJ7_copyOf_9075b 1 = .ok (.aload_n 0, 1) := by decide +kernel
theorem dr_cJ7_copyOf_9075b_2 : decode cJ7_copyOf_9075b 2 = .ok (.arraylength, 1) := by decide +kernel
theorem dr_cJ7_copyOf_9075b_3 : decode cJ7_copyOf_9075b 3 = .ok (.if_icmp .ne 11, 3) := by decide +kernel
theorem dr_cJ7_copyOf_9075b_14 : decode cJ7_copyOf_9075b 14 = .ok (.iload_n 1, 1) := by decide +kernel
theorem dr_cJ7_copyOf_9075b_15 : decode cJ7_copyOf_9075b 15 = .ok (.newarray .byte, 2) := by decide +kernel
theorem wr_1_66 : (Jvm.Cond.arrayClass Jvm.ClassFile.FieldType.byte) ∈ gw := gw_1 66 rfl rfl
theorem dr_cJ7_copyOf_9075b_17 : decode cJ7_copyOf_9075b 17 = .ok (.astore_n 2, 1) := by decide +kernel
theorem dr_cJ7_copyOf_9075b_18 : decode cJ7_copyOf_9075b 18 = .ok (.aload_n 0, 1) := by decide +kernel
theorem dr_cJ7_copyOf_9075b_19 : decode cJ7_copyOf_9075b 19 = .ok (.iconst 0, 1) := by decide +kernel
theorem dr_cJ7_copyOf_9075b_20 : decode cJ7_copyOf_9075b 20 = .ok (.aload_n 2, 1) := by decide +kernel
theorem dr_cJ7_copyOf_9075b_21 : decode cJ7_copyOf_9075b 21 = .ok (.iconst 0, 1) := by decide +kernel
theorem dr_cJ7_copyOf_9075b_22 : decode cJ7_copyOf_9075b 22 = .ok (.aload_n 0, 1) := by decide +kernel
theorem dr_cJ7_copyOf_9075b_23 : decode cJ7_copyOf_9075b 23 = .ok (.arraylength, 1) := by decide +kernel
theorem dr_cJ7_copyOf_9075b_24 : decode cJ7_copyOf_9075b 24 = .ok (.iload_n 1, 1) := by decide +kernel
theorem dr_cJ7_copyOf_9075b_25 : decode cJ7_copyOf_9075b 25 = .ok (.invokestatic 304, 3) := by decide +kernel
theorem dr_cJ7_copyOf_9075b_28 : decode cJ7_copyOf_9075b 28 = .ok (.invokestatic 150, 3) := by decide +kernel
theorem dr_cJ7_copyOf_9075b_31 : decode cJ7_copyOf_9075b 31 = .ok (.aload_n 2, 1) := by decide +kernel
theorem dr_cJ7_copyOf_9075b_32 : decode cJ7_copyOf_9075b 32 = .ok (.areturn, 1) := by decide +kernel
theorem dr_cJ5_ensureCapacityInternal_d00df_17 : decode cJ5_ensureCapacityInternal_d00df 17 = .ok (.aload_n 0, 1) := by decide +kernel
theorem dr_cJ5_ensureCapacityInternal_d00df_18 : decode cJ5_ensureCapacityInternal_d00df 18 = .ok (.aload_n 0, 1) := by decide +kernel
theorem dr_cJ5_ensureCapacityInternal_d00df_19 : decode cJ5_ensureCapacityInternal_d00df 19 = .ok (.getfield 15, 3) := by decide +kernel
theorem dr_cJ5_ensureCapacityInternal_d00df_22 : decode cJ5_ensureCapacityInternal_d00df 22 = .ok (.aload_n 0, 1) := by decide +kernel
theorem dr_cJ5_ensureCapacityInternal_d00df_23 : decode cJ5_ensureCapacityInternal_d00df 23 = .ok (.iload_n 1, 1) := by decide +kernel
theorem dr_cJ5_ensureCapacityInternal_d00df_24 : decode cJ5_ensureCapacityInternal_d00df 24 = .ok (.invokevirtual 104, 3) := by decide +kernel
theorem wr_8_8 : (Jvm.Cond.methodLink "java/lang/AbstractStringBuilder" (104 : Nat) ({ cls := "java/lang/AbstractStringBuilder", name := "newCapacity", desc := "(I)I" } : Jvm.MethodName)) ∈ gw := gw_8 8 rfl rfl
theorem wr_8_11 : (Jvm.Cond.code ({ cls := "java/lang/AbstractStringBuilder", name := "newCapacity", desc := "(I)I" } : Jvm.MethodName) prog_21_method_10_code (6 : Nat) (Option.some Jvm.ClassFile.FieldType.int)) ∈ gw := gw_8 11 rfl rfl
theorem wr_8_10 : (Jvm.Cond.instanceMethod ({ cls := "java/lang/AbstractStringBuilder", name := "newCapacity", desc := "(I)I" } : Jvm.MethodName)) ∈ gw := gw_8 10 rfl rfl
theorem wr_s_1 : Cond.selects "java/lang/StringBuilder" ⟨"java/lang/AbstractStringBuilder", "newCapacity", "(I)I"⟩ ⟨"java/lang/AbstractStringBuilder", "newCapacity", "(I)I"⟩ ∈ gw := gw_s _ 1 rfl rfl rfl
theorem dr_cJ5_ensureCapacityInternal_d00df_27 : decode cJ5_ensureCapacityInternal_d00df 27 = .ok (.aload_n 0, 1) := by decide +kernel
theorem dr_cJ5_ensureCapacityInternal_d00df_28 : decode cJ5_ensureCapacityInternal_d00df 28 = .ok (.getfield 22, 3) := by decide +kernel
theorem dr_cJ5_ensureCapacityInternal_d00df_31 : decode cJ5_ensureCapacityInternal_d00df 31 = .ok (.ishl, 1) := by decide +kernel
theorem dr_cJ5_ensureCapacityInternal_d00df_32 : decode cJ5_ensureCapacityInternal_d00df 32 = .ok (.invokestatic 108, 3) := by decide +kernel
theorem wr_8_21 : (Jvm.Cond.methodLink "java/lang/AbstractStringBuilder" (108 : Nat) ({ cls := "java/util/Arrays", name := "copyOf", desc := "([BI)[B" } : Jvm.MethodName)) ∈ gw := gw_8 21 rfl rfl
theorem wr_8_23 : (Jvm.Cond.code ({ cls := "java/util/Arrays", name := "copyOf", desc := "([BI)[B" } : Jvm.MethodName) prog_44_method_121_code (3 : Nat) (Option.some (Jvm.ClassFile.FieldType.array Jvm.ClassFile.FieldType.byte))) ∈ gw := gw_8 23 rfl rfl
theorem wr_8_22 : (Jvm.Cond.static ({ cls := "java/util/Arrays", name := "copyOf", desc := "([BI)[B" } : Jvm.MethodName)) ∈ gw := gw_8 22 rfl rfl
theorem dr_cJ5_ensureCapacityInternal_d00df_35 : decode cJ5_ensureCapacityInternal_d00df 35 = .ok (.putfield 15, 3) := by decide +kernel
abbrev ky_655349_AbstractStringBuilder_length : gKey := (cJ5_length_8abf5, 1, "java/lang/AbstractStringBuilder", (some FieldType.int), [], "length", fun _ _ => True)
def pp_655349_AbstractStringBuilder_length (D : va_G) (I : FieldType → ClassId) (P655340 : List Nat) (F655341 : Nat → va_E) (q655342 : Nat) (q655343 : Nat) (p655344 : Int32) (p655345 : Int32) (f655346 : Nat → Int32) (n655347 : Nat) : Option Value → va_W → Nat → Nat → Prop := fun r w dc ds => r = some (.int p655345) ∧ w = va_pl P655340 F655341 ∧ dc ≤ 0 ∧ ds ≤ 0
set_option maxRecDepth 100000 in
set_option maxHeartbeats 4000000 in
theorem cp_655349_AbstractStringBuilder_length (l : Launch) (hl0 : l.stackTraces = false) (D : va_G) (I : FieldType → ClassId) (P655340 : List Nat) (F655341 : Nat → va_E) (q655342 : Nat) (q655343 : Nat) (p655344 : Int32) (p655345 : Int32) (f655346 : Nat → Int32) (n655347 : Nat) (hmq655342 : q655342 ∈ P655340) (hmq655343 : q655343 ∈ P655340) (heq655342 : F655341 q655342 = .inr (1, [.ref q655343, .int 0, .int p655344, .int p655345])) (heq655343 : F655341 q655343 = .inl (I .byte, n655347, .inl f655346)) (bp655344 : gB p655344 0 1) (bp655345 : gB p655345 0 16777216) (bf655346 : gF f655346 (-128) 127) (x655348 : ((n655347 : Int) ≤ 16777216)) : CtA (gV D I) l yJ5_length_8abf5 cJ5_length_8abf5 1 (some FieldType.int) 0 0 0 0 [.ref q655342] (va_pl P655340 F655341) (pp_655349_AbstractStringBuilder_length D I P655340 F655341 q655342 q655343 p655344 p655345 f655346 n655347) gNA := by
  refine CtA_ofF hl0 (by decide +kernel) (Nat.le_of_ble_eq_true rfl) ?_
  refine G_aload_n 0 dr_cJ5_length_8abf5_0 rfl ?_
  refine Gp_get 3 hmq655342 heq655342 dr_cJ5_length_8abf5_1 (gk_J4 D I) (Nat.le_of_ble_eq_true rfl) wr_7_64 rfl ?_
  exact G_iretA dr_cJ5_length_8abf5_4 rfl (Nat.le_of_ble_eq_true rfl) (Nat.le_of_ble_eq_true rfl) ⟨rfl, rfl, (Nat.le_of_ble_eq_true rfl), (Nat.le_of_ble_eq_true rfl)⟩
abbrev ky_655339_StringBuilder_length : gKey := (cJ4_length_8abf5, 1, "java/lang/StringBuilder", (some FieldType.int), [], "length", fun _ _ => True)
def pp_655339_StringBuilder_length (D : va_G) (I : FieldType → ClassId) (P655330 : List Nat) (F655331 : Nat → va_E) (q655332 : Nat) (q655333 : Nat) (p655334 : Int32) (p655335 : Int32) (f655336 : Nat → Int32) (n655337 : Nat) : Option Value → va_W → Nat → Nat → Prop := fun r w dc ds => r = some (.int p655335) ∧ w = va_pl P655330 F655331 ∧ dc ≤ 0 ∧ ds ≤ 0
set_option maxRecDepth 100000 in
set_option maxHeartbeats 4000000 in
theorem cp_655339_StringBuilder_length (l : Launch) (hl0 : l.stackTraces = false) (D : va_G) (I : FieldType → ClassId) (P655330 : List Nat) (F655331 : Nat → va_E) (q655332 : Nat) (q655333 : Nat) (p655334 : Int32) (p655335 : Int32) (f655336 : Nat → Int32) (n655337 : Nat) (hmq655332 : q655332 ∈ P655330) (hmq655333 : q655333 ∈ P655330) (heq655332 : F655331 q655332 = .inr (1, [.ref q655333, .int 0, .int p655334, .int p655335])) (heq655333 : F655331 q655333 = .inl (I .byte, n655337, .inl f655336)) (bp655334 : gB p655334 0 1) (bp655335 : gB p655335 0 16777216) (bf655336 : gF f655336 (-128) 127) (x655338 : ((n655337 : Int) ≤ 16777216)) : CtA (gV D I) l yJ4_length_8abf5 cJ4_length_8abf5 1 (some FieldType.int) 1 20 0 0 [.ref q655332] (va_pl P655330 F655331) (pp_655339_StringBuilder_length D I P655330 F655331 q655332 q655333 p655334 p655335 f655336 n655337) gNA := by
  refine CtA_ofF hl0 (by decide +kernel) (Nat.le_of_ble_eq_true rfl) ?_
  refine G_aload_n 0 dr_cJ4_length_8abf5_0 rfl ?_
  refine Gw_callSU (As := []) (gV_ok D I) (cp_655349_AbstractStringBuilder_length l hl0 D I P655330 F655331 q655332 q655333 p655334 p655335 f655336 n655337 hmq655332 hmq655333 heq655332 heq655333 bp655334 bp655335 bf655336 (by have qa0 : Int32.toInt 0 = 0 := (by decide); omega)) dr_cJ4_length_8abf5_1 ⟨wr_8_90, wr_1_19, wr_8_91, by decide, rfl, (Nat.le_of_ble_eq_true rfl), (Nat.le_of_ble_eq_true rfl)⟩ wr_8_85 wr_8_86 wr_7_73 wr_7_44 (by decide) hmq655332 heq655332 rfl (show 0 + 0 ≤ 0 by first | omega | decide) (show 0 + 0 ≤ 0 by first | omega | decide) (Nat.le_of_ble_eq_true rfl) (fun r655353 w655354 dc655350 ds655351 hp655352 => ?_)
  obtain ⟨rfl, rfl, hdc, hds⟩ := hp655352
  change G _ _ _ _ _ _ _ (.int p655335 :: _) _ _ _
  refine G_widen (cs' := 0) (sl' := 0) (by omega) (by omega) ?_
  exact G_iretA dr_cJ4_length_8abf5_4 rfl (Nat.le_of_ble_eq_true rfl) (Nat.le_of_ble_eq_true rfl) ⟨rfl, rfl, (Nat.le_of_ble_eq_true rfl), (Nat.le_of_ble_eq_true rfl)⟩
/- tr_RPreconditions_checkIndex2:  -/
def tr_RPreconditions_checkIndex2 (a0 : Int32) (a1 : Int32) : Prop := ∀ R : Prop,
  (a0.toInt < a1.toInt → R) →
  R
abbrev ky_655403_Preconditions_checkIndex : gKey := (cJ3_checkIndex_8e157, 3, "jdk/internal/util/Preconditions", (some FieldType.int), [], "checkIndex", fun _ _ => True)
def pp_655403_Preconditions_checkIndex (D : va_G) (I : FieldType → ClassId) (P655397 : List Nat) (F655398 : Nat → va_E) (p655399 : Int32) (p655400 : Int32) (qo655401 : Nat) : Option Value → va_W → Nat → Nat → Prop := fun r w dc ds => r = some (.int p655399) ∧ w = va_pl P655397 F655398 ∧ dc ≤ 0 ∧ ds ≤ 0 ∧ tr_RPreconditions_checkIndex2 p655399 p655400
set_option maxRecDepth 100000 in
set_option maxHeartbeats 4000000 in
theorem cp_655403_Preconditions_checkIndex (l : Launch) (hl0 : l.stackTraces = false) (D : va_G) (I : FieldType → ClassId) (P655397 : List Nat) (F655398 : Nat → va_E) (p655399 : Int32) (p655400 : Int32) (qo655401 : Nat) (bp655399 : gB p655399 0 16777216) (bp655400 : gB p655400 0 16777216) (x655402 : p655399.toInt < p655400.toInt) : CtA (gV D I) l yJ3_checkIndex_8e157 cJ3_checkIndex_8e157 3 (some FieldType.int) 0 0 0 0 [.int p655399, .int p655400, .ref qo655401] (va_pl P655397 F655398) (pp_655403_Preconditions_checkIndex D I P655397 F655398 p655399 p655400 qo655401) gNA := by
  refine CtA_ofF hl0 (by decide +kernel) (Nat.le_of_ble_eq_true rfl) ?_
  refine G_iload_n 0 dr_cJ3_checkIndex_8e157_0 rfl ?_
  refine G_if_lt 9 dr_cJ3_checkIndex_8e157_1 (by decide +kernel) (fun hc => absurd (show False by have := gj_lt hc (show Int32.toInt 0 = 0 by decide); omega) not_false) (fun _ => ?_)
  refine G_iload_n 0 dr_cJ3_checkIndex_8e157_4 rfl ?_
  refine G_iload_n 1 dr_cJ3_checkIndex_8e157_5 rfl ?_
  refine G_icmp_lt 16 dr_cJ3_checkIndex_8e157_6 (by decide +kernel) (fun hc655404 => ?_) (fun hc655404 => ?_)
  · have r655405 : p655399.toInt < p655400.toInt := gC_lt hc655404
    have bp655399' : gB p655399 0 16777215 := ⟨by omega, by omega⟩
    have bp655400' : gB p655400 1 16777216 := ⟨by omega, by omega⟩
    refine G_iload_n 0 dr_cJ3_checkIndex_8e157_16 rfl ?_
    exact G_iretA dr_cJ3_checkIndex_8e157_17 rfl (Nat.le_of_ble_eq_true rfl) (Nat.le_of_ble_eq_true rfl) ⟨rfl, rfl, (Nat.le_of_ble_eq_true rfl), (Nat.le_of_ble_eq_true rfl), (fun R c1 => c1 r655405)⟩
  · have r655406 : p655400.toInt ≤ p655399.toInt := gC_nlt hc655404
    exact absurd (show False by omega) not_false
/- tr_RString_checkIndex:  -/
def tr_RString_checkIndex (a0 : Int32) (a1 : Int32) : Prop := ∀ R : Prop,
  (tr_RPreconditions_checkIndex a0 a1 → R) →
  (tr_RPreconditions_checkIndex2 a0 a1 → R) →
  R
abbrev ky_655389_String_checkIndex : gKey := (cJ0_checkIndex_df160, 2, "java/lang/String", none, [], "checkIndex", fun _ _ => True)
def pp_655389_String_checkIndex (D : va_G) (I : FieldType → ClassId) (P655384 : List Nat) (F655385 : Nat → va_E) (p655386 : Int32) (p655387 : Int32) : Option Value → va_W → Nat → Nat → Prop := fun r w dc ds => r = none ∧ w = va_pl P655384 F655385 ∧ dc ≤ 0 ∧ ds ≤ 0 ∧ tr_RString_checkIndex p655386 p655387
set_option maxRecDepth 100000 in
set_option maxHeartbeats 4000000 in
theorem cp_655389_String_checkIndex (l : Launch) (hl0 : l.stackTraces = false) (D : va_G) (I : FieldType → ClassId) (P655384 : List Nat) (F655385 : Nat → va_E) (p655386 : Int32) (p655387 : Int32) (bp655386 : gB p655386 0 16777216) (bp655387 : gB p655387 0 16777216) (x655388 : p655386.toInt < p655387.toInt) : CtA (gV D I) l yJ0_checkIndex_df160 cJ0_checkIndex_df160 2 none 1 22 0 0 [.int p655386, .int p655387] (va_pl P655384 F655385) (pp_655389_String_checkIndex D I P655384 F655385 p655386 p655387) gNA := by
  refine CtA_ofF hl0 (by decide +kernel) (Nat.le_of_ble_eq_true rfl) ?_
  refine G_iload_n 0 dr_cJ0_checkIndex_df160_0 rfl ?_
  refine G_iload_n 1 dr_cJ0_checkIndex_df160_1 rfl ?_
  refine G_gets dr_cJ0_checkIndex_df160_2 wr_3_81 gz_pf (fun x hx => ?_)
  rcases hx with rfl | ⟨t655390, rfl⟩
  · refine Gw_callS (As := [.int p655386, .int p655387, .null]) (gV_ok D I) (cp_34_Preconditions_checkIndex l hl0 D I P655384 F655385 p655386 p655387 bp655386 bp655387 (by omega)) dr_cJ0_checkIndex_df160_5 ⟨wr_3_83, wr_1_29, wr_3_85, by decide, rfl, (Nat.le_of_ble_eq_true rfl), (Nat.le_of_ble_eq_true rfl)⟩ wr_3_84 (show 0 + 0 ≤ 0 by first | omega | decide) (show 0 + 0 ≤ 0 by first | omega | decide) (Nat.le_of_ble_eq_true rfl) (fun r655394 w655395 dc655391 ds655392 hp655393 => ?_) (fun _ _ _ _ _ z => z.elim)
    obtain ⟨rfl, rfl, hdc, hds, ht655396⟩ := hp655393
    change G _ _ _ _ _ _ _ (.int p655386 :: _) _ _ _
    refine G_widen (cs' := 0) (sl' := 0) (by omega) (by omega) ?_
    refine G_pop dr_cJ0_checkIndex_df160_8 rfl ?_
    exact G_vretA dr_cJ0_checkIndex_df160_9 rfl (Nat.le_of_ble_eq_true rfl) (Nat.le_of_ble_eq_true rfl) ⟨rfl, rfl, (Nat.le_of_ble_eq_true rfl), (Nat.le_of_ble_eq_true rfl), (fun R c1 c2 => c1 ht655396)⟩
  · refine Gw_callS (As := [.int p655386, .int p655387, .ref t655390]) (gV_ok D I) (cp_655403_Preconditions_checkIndex l hl0 D I P655384 F655385 p655386 p655387 t655390 bp655386 bp655387 (by omega)) dr_cJ0_checkIndex_df160_5 ⟨wr_3_83, wr_1_29, wr_3_85, by decide, rfl, (Nat.le_of_ble_eq_true rfl), (Nat.le_of_ble_eq_true rfl)⟩ wr_3_84 (show 0 + 0 ≤ 0 by first | omega | decide) (show 0 + 0 ≤ 0 by first | omega | decide) (Nat.le_of_ble_eq_true rfl) (fun r655410 w655411 dc655407 ds655408 hp655409 => ?_) (fun _ _ _ _ _ z => z.elim)
    obtain ⟨rfl, rfl, hdc, hds, ht655412⟩ := hp655409
    change G _ _ _ _ _ _ _ (.int p655386 :: _) _ _ _
    refine G_widen (cs' := 0) (sl' := 0) (by omega) (by omega) ?_
    refine G_pop dr_cJ0_checkIndex_df160_8 rfl ?_
    exact G_vretA dr_cJ0_checkIndex_df160_9 rfl (Nat.le_of_ble_eq_true rfl) (Nat.le_of_ble_eq_true rfl) ⟨rfl, rfl, (Nat.le_of_ble_eq_true rfl), (Nat.le_of_ble_eq_true rfl), (fun R c1 c2 => c2 ht655412)⟩
/- tr_RAbstractStringBuilder_charAt: result -/
def tr_RAbstractStringBuilder_charAt (a1 : Int32) (a0_count : Int32) (a0_value_v : Nat → Int32) (a0_value_n : Nat) (o1 : Int32) : Prop := ∀ R : (Int32) → Prop,
  (∀ (x1 : Int32) (x2 : Int32) (x3 : Int32) (x4 : Int32) (x5 : Int32) (x6 : Int32), x1.toInt = (a0_value_n : Nat) → x2.toInt = x1.toInt / 1 → (a0_count.toInt ≥ x3.toInt ∧ x2.toInt ≥ x3.toInt ∧ (x3.toInt = a0_count.toInt ∨ x3.toInt = x2.toInt)) → tr_RString_checkIndex a1 x3 → x4 = a0_value_v a1.toNatClampNeg → gB x4 (-128) 127 → x5 = x4 &&& (255 : Int32) → x6 = (x5.toUInt32 % 65536).toInt32 → R x6) →
  R o1
abbrev ky_655380_AbstractStringBuilder_charAt : gKey := (cJ5_charAt_5068e, 5, "java/lang/AbstractStringBuilder", (some FieldType.char), [], "charAt", fun _ _ => True)
def pp_655380_AbstractStringBuilder_charAt (D : va_G) (I : FieldType → ClassId) (P655368 : List Nat) (F655369 : Nat → va_E) (q655370 : Nat) (q655371 : Nat) (p655372 : Int32) (p655373 : Int32) (p655374 : Int32) (f655375 : Nat → Int32) (n655376 : Nat) : Option Value → va_W → Nat → Nat → Prop := fun r w dc ds => ∃ (o655422 : Int32), r = some (.int o655422) ∧ w = va_pl P655368 F655369 ∧ dc ≤ 0 ∧ ds ≤ 0 ∧ gB o655422 0 65535 ∧ tr_RAbstractStringBuilder_charAt p655372 p655374 f655375 n655376 o655422
set_option maxRecDepth 100000 in
set_option maxHeartbeats 4000000 in
theorem cp_655380_AbstractStringBuilder_charAt (l : Launch) (hl0 : l.stackTraces = false) (D : va_G) (I : FieldType → ClassId) (P655368 : List Nat) (F655369 : Nat → va_E) (q655370 : Nat) (q655371 : Nat) (p655372 : Int32) (p655373 : Int32) (p655374 : Int32) (f655375 : Nat → Int32) (n655376 : Nat) (hmq655370 : q655370 ∈ P655368) (hmq655371 : q655371 ∈ P655368) (heq655370 : F655369 q655370 = .inr (1, [.ref q655371, .int 0, .int p655373, .int p655374])) (heq655371 : F655369 q655371 = .inl (I .byte, n655376, .inl f655375)) (bp655372 : gB p655372 0 16777215) (bp655373 : gB p655373 0 1) (bp655374 : gB p655374 0 16777216) (bf655375 : gF f655375 (-128) 127) (x655377 : p655372.toInt < p655374.toInt) (x655378 : p655374.toInt ≤ (n655376 : Int)) (x655379 : ((n655376 : Int) ≤ 16777216)) : CtA (gV D I) l yJ5_charAt_5068e cJ5_charAt_5068e 5 (some FieldType.char) 2 43 0 0 [.ref q655370, .int p655372] (va_pl P655368 F655369) (pp_655380_AbstractStringBuilder_charAt D I P655368 F655369 q655370 q655371 p655372 p655373 p655374 f655375 n655376) gNA := by
  refine CtA_ofF hl0 (by decide +kernel) (Nat.le_of_ble_eq_true rfl) ?_
  refine G_aload_n 0 dr_cJ5_charAt_5068e_0 rfl ?_
  refine Gp_get 1 hmq655370 heq655370 dr_cJ5_charAt_5068e_1 (gk_J4 D I) (Nat.le_of_ble_eq_true rfl) wr_7_61 rfl ?_
  refine G_istore_n (L' := [(2, .int 0), (0, .ref q655370), (1, .int p655372)]) dr_cJ5_charAt_5068e_4 (Nat.le_of_ble_eq_true rfl) rfl ?_
  refine G_aload_n 1 dr_cJ5_charAt_5068e_5 rfl ?_
  refine Gp_get 0 hmq655370 heq655370 dr_cJ5_charAt_5068e_6 (gk_J4 D I) (Nat.le_of_ble_eq_true rfl) wr_7_60 rfl ?_
  refine G_astore_n (L' := [(3, .ref q655371), (2, .int 0), (0, .ref q655370), (1, .int p655372)]) dr_cJ5_charAt_5068e_9 (Nat.le_of_ble_eq_true rfl) rfl ?_
  refine G_aload_n 2 dr_cJ5_charAt_5068e_10 rfl ?_
  refine Gp_get 3 hmq655370 heq655370 dr_cJ5_charAt_5068e_11 (gk_J4 D I) (Nat.le_of_ble_eq_true rfl) wr_7_64 rfl ?_
  refine G_aload_n 0 dr_cJ5_charAt_5068e_14 rfl ?_
  refine Gp_alen (Int32.ofNat n655376) 1 hmq655371 heq655371 dr_cJ5_charAt_5068e_15 rfl rfl (G_nam fun z655381 hz655381 => ?_)
  have ez655381 : z655381.toInt = (n655376 : Nat) := gI_ofM hz655381 (by omega)
  have bz655381 : gB z655381 0 16777216 := ⟨by omega, by omega⟩
  refine G_iload_n 1 dr_cJ5_charAt_5068e_16 rfl ?_
  refine G_ishr dr_cJ5_charAt_5068e_17 (G_nam fun z655382 hz655382 => ?_)
  have ez655382 : z655382.toInt = z655381.toInt / 1 := gI_shr (k := 0) hz655382 (by decide)
  have bz655382 : gB z655382 0 16777216 := ⟨by omega, by omega⟩
  refine G_mmin dr_cJ5_charAt_5068e_18 wr_11_216 wr_3_227 wr_1_6 wr_3_228 (Nat.le_of_ble_eq_true rfl) (Nat.le_of_ble_eq_true rfl) (show 0 ≤ 0 by first | omega | decide) (show 0 ≤ 0 by first | omega | decide) (G_nam fun z655383 hz655383 => ?_)
  have ez655383 : p655374.toInt ≥ z655383.toInt ∧ z655382.toInt ≥ z655383.toInt ∧ (z655383.toInt = p655374.toInt ∨ z655383.toInt = z655382.toInt) := by have := gI_min hz655383; omega
  have bz655383 : gB z655383 0 16777216 := ⟨by omega, by omega⟩
  refine G_istore (L' := [(4, .int z655383), (3, .ref q655371), (2, .int 0), (0, .ref q655370), (1, .int p655372)]) dr_cJ5_charAt_5068e_21 (Nat.le_of_ble_eq_true rfl) rfl ?_
  refine G_iload_n 4 dr_cJ5_charAt_5068e_23 rfl ?_
  refine G_iload 0 dr_cJ5_charAt_5068e_24 rfl ?_
  refine Gw_callS (As := [.int p655372, .int z655383]) (gV_ok D I) (cp_655389_String_checkIndex l hl0 D I P655368 F655369 p655372 z655383 (gB_w bp655372 (by decide) (by decide)) bz655383 (by have qa0 : Int32.toInt 0 = 0 := (by decide); omega)) dr_cJ5_charAt_5068e_26 ⟨wr_11_217, wr_1_21, wr_3_80, by decide, rfl, (Nat.le_of_ble_eq_true rfl), (Nat.le_of_ble_eq_true rfl)⟩ wr_3_79 (show 0 + 0 ≤ 0 by first | omega | decide) (show 0 + 0 ≤ 0 by first | omega | decide) (Nat.le_of_ble_eq_true rfl) (fun r655416 w655417 dc655413 ds655414 hp655415 => ?_) (fun _ _ _ _ _ z => z.elim)
  obtain ⟨rfl, rfl, hdc, hds, ht655418⟩ := hp655415
  change G _ _ _ _ _ _ _ _ _ _ _
  refine G_widen (cs' := 0) (sl' := 0) (by omega) (by omega) ?_
  refine G_iload_n 2 dr_cJ5_charAt_5068e_29 rfl ?_
  refine G_if_ne 42 dr_cJ5_charAt_5068e_30 (by decide +kernel) (fun hc => absurd hc (by decide)) (fun _ => ?_)
  refine G_aload_n 1 dr_cJ5_charAt_5068e_33 rfl ?_
  refine G_iload_n 4 dr_cJ5_charAt_5068e_34 rfl ?_
  refine Gp_bald 1 hmq655371 heq655371 dr_cJ5_charAt_5068e_35 rfl (gB_inr (by omega) (by omega)) (G_nam fun z655419 hz655419 => ?_)
  have bz655419 : gB z655419 (-128) 127 := by rw [hz655419]; exact bf655375 _
  refine G_sipush 255 dr_cJ5_charAt_5068e_36 (by decide +kernel) ?_
  refine G_iand dr_cJ5_charAt_5068e_39 (G_nam fun z655420 hz655420 => ?_)
  have bz655420 : gB z655420 0 255 := gB_and hz655420 (gBl (show Int32.toInt 255 = 255 by decide)) (by decide)
  refine G_i2c dr_cJ5_charAt_5068e_40 (G_nam fun z655421 hz655421 => ?_)
  have bz655421 : gB z655421 0 65535 := gB_i2c hz655421
  exact G_zretA FieldType.char dr_cJ5_charAt_5068e_41 rfl (gN_char bz655421) (Nat.le_of_ble_eq_true rfl) (Nat.le_of_ble_eq_true rfl) ⟨z655421, rfl, rfl, (Nat.le_of_ble_eq_true rfl), (Nat.le_of_ble_eq_true rfl), bz655421, (fun R c1 => c1 z655381 z655382 z655383 z655419 z655420 z655421 ez655381 ez655382 ez655383 ht655418 hz655419 bz655419 hz655420 hz655421)⟩
/- tr_RStringBuilder_charAt: result -/
def tr_RStringBuilder_charAt (a1 : Int32) (a0_count : Int32) (a0_value_v : Nat → Int32) (a0_value_n : Nat) (o1 : Int32) : Prop := ∀ R : (Int32) → Prop,
  (∀ (x1 : Int32), gB x1 0 65535 → tr_RAbstractStringBuilder_charAt a1 a0_count a0_value_v a0_value_n x1 → R x1) →
  R o1
abbrev ky_655367_StringBuilder_charAt : gKey := (cJ4_charAt_5068e, 2, "java/lang/StringBuilder", (some FieldType.char), [], "charAt", fun _ _ => True)
def pp_655367_StringBuilder_charAt (D : va_G) (I : FieldType → ClassId) (P655355 : List Nat) (F655356 : Nat → va_E) (q655357 : Nat) (q655358 : Nat) (p655359 : Int32) (p655360 : Int32) (p655361 : Int32) (f655362 : Nat → Int32) (n655363 : Nat) : Option Value → va_W → Nat → Nat → Prop := fun r w dc ds => ∃ (o655430 : Int32), r = some (.int o655430) ∧ w = va_pl P655355 F655356 ∧ dc ≤ 0 ∧ ds ≤ 0 ∧ gB o655430 0 65535 ∧ tr_RStringBuilder_charAt p655359 p655361 f655362 n655363 o655430
set_option maxRecDepth 100000 in
set_option maxHeartbeats 4000000 in
theorem cp_655367_StringBuilder_charAt (l : Launch) (hl0 : l.stackTraces = false) (D : va_G) (I : FieldType → ClassId) (P655355 : List Nat) (F655356 : Nat → va_E) (q655357 : Nat) (q655358 : Nat) (p655359 : Int32) (p655360 : Int32) (p655361 : Int32) (f655362 : Nat → Int32) (n655363 : Nat) (hmq655357 : q655357 ∈ P655355) (hmq655358 : q655358 ∈ P655355) (heq655357 : F655356 q655357 = .inr (1, [.ref q655358, .int 0, .int p655360, .int p655361])) (heq655358 : F655356 q655358 = .inl (I .byte, n655363, .inl f655362)) (bp655359 : gB p655359 0 16777215) (bp655360 : gB p655360 0 1) (bp655361 : gB p655361 0 16777216) (bf655362 : gF f655362 (-128) 127) (x655364 : p655359.toInt < p655361.toInt) (x655365 : p655361.toInt ≤ (n655363 : Int)) (x655366 : ((n655363 : Int) ≤ 16777216)) : CtA (gV D I) l yJ4_charAt_5068e cJ4_charAt_5068e 2 (some FieldType.char) 3 67 0 0 [.ref q655357, .int p655359] (va_pl P655355 F655356) (pp_655367_StringBuilder_charAt D I P655355 F655356 q655357 q655358 p655359 p655360 p655361 f655362 n655363) gNA := by
  refine CtA_ofF hl0 (by decide +kernel) (Nat.le_of_ble_eq_true rfl) ?_
  refine G_aload_n 0 dr_cJ4_charAt_5068e_0 rfl ?_
  refine G_iload_n 1 dr_cJ4_charAt_5068e_1 rfl ?_
  refine Gw_callSU (As := [.int p655359]) (gV_ok D I) (cp_655380_AbstractStringBuilder_charAt l hl0 D I P655355 F655356 q655357 q655358 p655359 p655360 p655361 f655362 n655363 hmq655357 hmq655358 heq655357 heq655358 bp655359 bp655360 bp655361 bf655362 (by have qa0 : Int32.toInt 0 = 0 := (by decide); omega) (by have qa0 : Int32.toInt 0 = 0 := (by decide); omega) (by have qa0 : Int32.toInt 0 = 0 := (by decide); omega)) dr_cJ4_charAt_5068e_2 ⟨wr_11_213, wr_1_19, wr_11_215, by decide, rfl, (Nat.le_of_ble_eq_true rfl), (Nat.le_of_ble_eq_true rfl)⟩ wr_11_214 wr_11_235 wr_7_73 wr_7_44 (by decide) hmq655357 heq655357 rfl (show 0 + 0 ≤ 0 by first | omega | decide) (show 0 + 0 ≤ 0 by first | omega | decide) (Nat.le_of_ble_eq_true rfl) (fun r655426 w655427 dc655423 ds655424 hp655425 => ?_)
  obtain ⟨o655428, rfl, rfl, hdc, hds, bo655428, ht655429⟩ := hp655425
  change G _ _ _ _ _ _ _ (.int o655428 :: _) _ _ _
  refine G_widen (cs' := 0) (sl' := 0) (by omega) (by omega) ?_
  exact G_zretA FieldType.char dr_cJ4_charAt_5068e_5 rfl (gN_char bo655428) (Nat.le_of_ble_eq_true rfl) (Nat.le_of_ble_eq_true rfl) ⟨o655428, rfl, rfl, (Nat.le_of_ble_eq_true rfl), (Nat.le_of_ble_eq_true rfl), bo655428, (fun R c1 => c1 o655428 bo655428 ht655429)⟩
/- tr_RAbstractStringBuilder_ensureCapacityInternal:  -/
def tr_RAbstractStringBuilder_ensureCapacityInternal (a1 : Int32) (a0_value_n : Nat) : Prop := ∀ R : Prop,
  (∀ (x1 : Int32) (x2 : Int32) (x3 : Int32), x1.toInt = (a0_value_n : Nat) → x2.toInt = x1.toInt / 1 → x3.toInt = a1.toInt - x2.toInt → x3.toInt ≤ 0 → R) →
  R
abbrev ky_655467_AbstractStringBuilder_ensureCapacityInternal : gKey := (cJ5_ensureCapacityInternal_d00df, 3, "java/lang/AbstractStringBuilder", none, [], "ensureCapacityInternal", fun _ _ => True)
def pp_655467_AbstractStringBuilder_ensureCapacityInternal (D : va_G) (I : FieldType → ClassId) (P655456 : List Nat) (F655457 : Nat → va_E) (q655458 : Nat) (q655459 : Nat) (p655460 : Int32) (p655461 : Int32) (p655462 : Int32) (f655463 : Nat → Int32) (n655464 : Nat) : Option Value → va_W → Nat → Nat → Prop := fun r w dc ds => r = none ∧ w = va_pl P655456 F655457 ∧ dc ≤ 0 ∧ ds ≤ 0 ∧ tr_RAbstractStringBuilder_ensureCapacityInternal p655460 n655464
set_option maxRecDepth 100000 in
set_option maxHeartbeats 4000000 in
theorem cp_655467_AbstractStringBuilder_ensureCapacityInternal (l : Launch) (hl0 : l.stackTraces = false) (D : va_G) (I : FieldType → ClassId) (P655456 : List Nat) (F655457 : Nat → va_E) (q655458 : Nat) (q655459 : Nat) (p655460 : Int32) (p655461 : Int32) (p655462 : Int32) (f655463 : Nat → Int32) (n655464 : Nat) (hmq655458 : q655458 ∈ P655456) (hmq655459 : q655459 ∈ P655456) (heq655458 : F655457 q655458 = .inr (1, [.ref q655459, .int 0, .int p655461, .int p655462])) (heq655459 : F655457 q655459 = .inl (I .byte, n655464, .inl f655463)) (bp655460 : gB p655460 0 16777216) (bp655461 : gB p655461 0 1) (bp655462 : gB p655462 0 16777216) (bf655463 : gF f655463 (-128) 127) (x655465 : p655460.toInt ≤ (n655464 : Int)) (x655466 : ((n655464 : Int) ≤ 16777216)) : CtA (gV D I) l yJ5_ensureCapacityInternal_d00df cJ5_ensureCapacityInternal_d00df 3 none 0 0 0 0 [.ref q655458, .int p655460] (va_pl P655456 F655457) (pp_655467_AbstractStringBuilder_ensureCapacityInternal D I P655456 F655457 q655458 q655459 p655460 p655461 p655462 f655463 n655464) gNA := by
  refine CtA_ofF hl0 (by decide +kernel) (Nat.le_of_ble_eq_true rfl) ?_
  refine G_aload_n 0 dr_cJ5_ensureCapacityInternal_d00df_0 rfl ?_
  refine Gp_get 0 hmq655458 heq655458 dr_cJ5_ensureCapacityInternal_d00df_1 (gk_J4 D I) (Nat.le_of_ble_eq_true rfl) wr_7_60 rfl ?_
  refine Gp_alen (Int32.ofNat n655464) 1 hmq655459 heq655459 dr_cJ5_ensureCapacityInternal_d00df_4 rfl rfl (G_nam fun z655468 hz655468 => ?_)
  have ez655468 : z655468.toInt = (n655464 : Nat) := gI_ofM hz655468 (by omega)
  have bz655468 : gB z655468 0 16777216 := ⟨by omega, by omega⟩
  refine G_aload_n 0 dr_cJ5_ensureCapacityInternal_d00df_5 rfl ?_
  refine Gp_get 1 hmq655458 heq655458 dr_cJ5_ensureCapacityInternal_d00df_6 (gk_J4 D I) (Nat.le_of_ble_eq_true rfl) wr_7_61 rfl ?_
  refine G_ishr dr_cJ5_ensureCapacityInternal_d00df_9 (G_nam fun z655469 hz655469 => ?_)
  have ez655469 : z655469.toInt = z655468.toInt / 1 := gI_shr (k := 0) hz655469 (by decide)
  have bz655469 : gB z655469 0 16777216 := ⟨by omega, by omega⟩
  refine G_istore_n (L' := [(2, .int z655469), (0, .ref q655458), (1, .int p655460)]) dr_cJ5_ensureCapacityInternal_d00df_10 (Nat.le_of_ble_eq_true rfl) rfl ?_
  refine G_iload_n 2 dr_cJ5_ensureCapacityInternal_d00df_11 rfl ?_
  refine G_iload_n 0 dr_cJ5_ensureCapacityInternal_d00df_12 rfl ?_
  refine G_isub dr_cJ5_ensureCapacityInternal_d00df_13 (G_nam fun z655470 hz655470 => ?_)
  have ez655470 : z655470.toInt = p655460.toInt - z655469.toInt := by rw [gI_sub hz655470 bp655460 bz655469 (by decide) (by decide)]
  have bz655470 : gB z655470 (-16777216) 16777216 := gB_sub (gI_sub hz655470 bp655460 bz655469 (by decide) (by decide)) bp655460 bz655469 (by decide) (by decide)
  refine G_if_le 38 dr_cJ5_ensureCapacityInternal_d00df_14 (by decide +kernel) (fun hc655471 => ?_) (fun hc => absurd (show False by have := gj_nle hc (show Int32.toInt 0 = 0 by decide); omega) not_false)
  have r655473 : z655470.toInt ≤ 0 := gj_le hc655471 (show Int32.toInt 0 = 0 by decide)
  have bz655470' : gB z655470 (-16777216) 0 := ⟨by omega, by omega⟩
  exact G_vretA dr_cJ5_ensureCapacityInternal_d00df_38 rfl (Nat.le_of_ble_eq_true rfl) (Nat.le_of_ble_eq_true rfl) ⟨rfl, rfl, (Nat.le_of_ble_eq_true rfl), (Nat.le_of_ble_eq_true rfl), (fun R c1 => c1 z655468 z655469 z655470 ez655468 ez655469 ez655470 r655473)⟩
abbrev ky_655489_AbstractStringBuilder_isLatin1 : gKey := (cJ5_isLatin1_aae02, 1, "java/lang/AbstractStringBuilder", (some FieldType.boolean), [], "isLatin1", fun _ _ => True)
def pp_655489_AbstractStringBuilder_isLatin1 (D : va_G) (I : FieldType → ClassId) (P655480 : List Nat) (F655481 : Nat → va_E) (q655482 : Nat) (q655483 : Nat) (p655484 : Int32) (p655485 : Int32) (f655486 : Nat → Int32) (n655487 : Nat) : Option Value → va_W → Nat → Nat → Prop := fun r w dc ds => r = some (.int 1) ∧ w = va_pl P655480 F655481 ∧ dc ≤ 0 ∧ ds ≤ 0
set_option maxRecDepth 100000 in
set_option maxHeartbeats 4000000 in
theorem cp_655489_AbstractStringBuilder_isLatin1 (l : Launch) (hl0 : l.stackTraces = false) (D : va_G) (I : FieldType → ClassId) (P655480 : List Nat) (F655481 : Nat → va_E) (q655482 : Nat) (q655483 : Nat) (p655484 : Int32) (p655485 : Int32) (f655486 : Nat → Int32) (n655487 : Nat) (hmq655482 : q655482 ∈ P655480) (hmq655483 : q655483 ∈ P655480) (heq655482 : F655481 q655482 = .inr (1, [.ref q655483, .int 0, .int p655484, .int p655485])) (heq655483 : F655481 q655483 = .inl (I .byte, n655487, .inl f655486)) (bp655484 : gB p655484 0 1) (bp655485 : gB p655485 0 16777216) (bf655486 : gF f655486 (-128) 127) (x655488 : ((n655487 : Int) ≤ 16777216)) : CtA (gV D I) l yJ5_isLatin1_aae02 cJ5_isLatin1_aae02 1 (some FieldType.boolean) 0 0 0 0 [.ref q655482] (va_pl P655480 F655481) (pp_655489_AbstractStringBuilder_isLatin1 D I P655480 F655481 q655482 q655483 p655484 p655485 f655486 n655487) gNA := by
  refine CtA_ofF hl0 (by decide +kernel) (Nat.le_of_ble_eq_true rfl) ?_
  refine G_gets dr_cJ5_isLatin1_aae02_0 wr_7_52 gz_cs (fun x hx => ?_)
  subst hx
  refine G_if_eq 17 dr_cJ5_isLatin1_aae02_3 (by decide +kernel) (fun hc => absurd hc (by decide)) (fun _ => ?_)
  refine G_aload_n 0 dr_cJ5_isLatin1_aae02_6 rfl ?_
  refine Gp_get 1 hmq655482 heq655482 dr_cJ5_isLatin1_aae02_7 (gk_J4 D I) (Nat.le_of_ble_eq_true rfl) wr_7_61 rfl ?_
  refine G_if_ne 17 dr_cJ5_isLatin1_aae02_10 (by decide +kernel) (fun hc => absurd hc (by decide)) (fun _ => ?_)
  refine G_iconst 1 dr_cJ5_isLatin1_aae02_13 (by decide +kernel) ?_
  refine G_goto 18 dr_cJ5_isLatin1_aae02_14 (by decide +kernel) ?_
  exact G_zretA FieldType.boolean dr_cJ5_isLatin1_aae02_18 rfl rfl (Nat.le_of_ble_eq_true rfl) (Nat.le_of_ble_eq_true rfl) ⟨rfl, rfl, (Nat.le_of_ble_eq_true rfl), (Nat.le_of_ble_eq_true rfl)⟩
/- tr_RStringLatin1_canEncode: result -/
def tr_RStringLatin1_canEncode (a0 : Int32) (o1 : Int32) : Prop := ∀ R : (Int32) → Prop,
  (255 < a0.toInt → R (0 : Int32)) →
  (a0.toInt ≤ 255 → R (1 : Int32)) →
  R o1
abbrev ky_655498_StringLatin1_canEncode : gKey := (cJ1_canEncode_fc78d, 1, "java/lang/StringLatin1", (some FieldType.boolean), [], "canEncode", fun _ _ => True)
def pp_655498_StringLatin1_canEncode (D : va_G) (I : FieldType → ClassId) (P655495 : List Nat) (F655496 : Nat → va_E) (p655497 : Int32) : Option Value → va_W → Nat → Nat → Prop := fun r w dc ds => (r = some (.int 0) ∧ w = va_pl P655495 F655496 ∧ dc ≤ 0 ∧ ds ≤ 0 ∧ 255 < p655497.toInt ∧ tr_RStringLatin1_canEncode p655497 (0 : Int32)) ∨ (r = some (.int 1) ∧ w = va_pl P655495 F655496 ∧ dc ≤ 0 ∧ ds ≤ 0 ∧ p655497.toInt ≤ 255 ∧ tr_RStringLatin1_canEncode p655497 (1 : Int32))
set_option maxRecDepth 100000 in
set_option maxHeartbeats 4000000 in
theorem cp_655498_StringLatin1_canEncode (l : Launch) (hl0 : l.stackTraces = false) (D : va_G) (I : FieldType → ClassId) (P655495 : List Nat) (F655496 : Nat → va_E) (p655497 : Int32) (bp655497 : gB p655497 0 65535) : CtA (gV D I) l yJ1_canEncode_fc78d cJ1_canEncode_fc78d 1 (some FieldType.boolean) 0 0 0 0 [.int p655497] (va_pl P655495 F655496) (pp_655498_StringLatin1_canEncode D I P655495 F655496 p655497) gNA := by
  refine CtA_ofF hl0 (by decide +kernel) (Nat.le_of_ble_eq_true rfl) ?_
  refine G_iload_n 0 dr_cJ1_canEncode_fc78d_0 rfl ?_
  refine G_sipush 255 dr_cJ1_canEncode_fc78d_1 (by decide +kernel) ?_
  refine G_icmp_gt 11 dr_cJ1_canEncode_fc78d_4 (by decide +kernel) (fun hc655499 => ?_) (fun hc655499 => ?_)
  · have r655500 : 255 < p655497.toInt := gj_ltL hc655499 (show Int32.toInt 255 = 255 by decide)
    have bp655497' : gB p655497 256 65535 := ⟨by omega, by omega⟩
    refine G_iconst 0 dr_cJ1_canEncode_fc78d_11 (by decide +kernel) ?_
    exact G_zretA FieldType.boolean dr_cJ1_canEncode_fc78d_12 rfl rfl (Nat.le_of_ble_eq_true rfl) (Nat.le_of_ble_eq_true rfl) (Or.inl ⟨rfl, rfl, (Nat.le_of_ble_eq_true rfl), (Nat.le_of_ble_eq_true rfl), r655500, (fun R c1 c2 => c1 r655500)⟩)
  · have r655501 : p655497.toInt ≤ 255 := gj_nltL hc655499 (show Int32.toInt 255 = 255 by decide)
    have bp655497' : gB p655497 0 255 := ⟨by omega, by omega⟩
    refine G_iconst 1 dr_cJ1_canEncode_fc78d_7 (by decide +kernel) ?_
    refine G_goto 12 dr_cJ1_canEncode_fc78d_8 (by decide +kernel) ?_
    exact G_zretA FieldType.boolean dr_cJ1_canEncode_fc78d_12 rfl rfl (Nat.le_of_ble_eq_true rfl) (Nat.le_of_ble_eq_true rfl) (Or.inr (⟨rfl, rfl, (Nat.le_of_ble_eq_true rfl), (Nat.le_of_ble_eq_true rfl), r655501, (fun R c1 c2 => c2 r655501)⟩))
/- tr_RAbstractStringBuilder_append: a.0...count, a.0.value.[] -/
def tr_RAbstractStringBuilder_append (a1 : Int32) (a0_count : Int32) (a0_value_v : Nat → Int32) (a0_value_n : Nat) (o1 : Int32) (o2 : Nat → Int32) : Prop := ∀ R : (Int32) → (Nat → Int32) → Prop,
  (∀ (x1 : Int32) (x2 : Int32) (x3 : Int32) (x4 : Nat → Int32), x1.toInt = a0_count.toInt + 1 → tr_RAbstractStringBuilder_ensureCapacityInternal x1 a0_value_n → tr_RStringLatin1_canEncode a1 (1 : Int32) → x2.toInt = a0_count.toInt + 1 → x3 = a1.toInt8.toInt32 → x4 = upd a0_value_v a0_count.toNatClampNeg (vp_nar .byte x3) → R x2 x4) →
  R o1 o2
abbrev ky_655454_AbstractStringBuilder_append : gKey := (cJ5_append_3fe6f, 2, "java/lang/AbstractStringBuilder", (some (FieldType.object "java/lang/AbstractStringBuilder")), [], "append", fun _ _ => True)
def pp_655454_AbstractStringBuilder_append (D : va_G) (I : FieldType → ClassId) (P655443 : List Nat) (F655444 : Nat → va_E) (q655445 : Nat) (q655446 : Nat) (p655447 : Int32) (p655448 : Int32) (p655449 : Int32) (f655450 : Nat → Int32) (n655451 : Nat) : Option Value → va_W → Nat → Nat → Prop := fun r w dc ds => ∃ (F655530 : Nat → va_E) (o655527 : Int32) (f655528 : Nat → Int32), r = some (.ref q655445) ∧ w = va_pl P655443 F655530 ∧ rFr [q655446, q655445] P655443 F655444 F655530 ∧ F655530 q655445 = .inr (1, [.ref q655446, .int 0, .int p655448, .int o655527]) ∧ F655530 q655446 = .inl (I .byte, n655451, .inl f655528) ∧ dc ≤ 0 ∧ ds ≤ 0 ∧ gB o655527 1 16777216 ∧ gF f655528 (-128) 127 ∧ o655527.toInt = p655449.toInt + 1 ∧ tr_RAbstractStringBuilder_append p655447 p655449 f655450 n655451 o655527 f655528
set_option maxRecDepth 100000 in
set_option maxHeartbeats 4000000 in
theorem cp_655454_AbstractStringBuilder_append (l : Launch) (hl0 : l.stackTraces = false) (D : va_G) (I : FieldType → ClassId) (P655443 : List Nat) (F655444 : Nat → va_E) (q655445 : Nat) (q655446 : Nat) (p655447 : Int32) (p655448 : Int32) (p655449 : Int32) (f655450 : Nat → Int32) (n655451 : Nat) (hmq655445 : q655445 ∈ P655443) (hmq655446 : q655446 ∈ P655443) (heq655445 : F655444 q655445 = .inr (1, [.ref q655446, .int 0, .int p655448, .int p655449])) (heq655446 : F655444 q655446 = .inl (I .byte, n655451, .inl f655450)) (bp655447 : gB p655447 0 255) (bp655448 : gB p655448 0 1) (bp655449 : gB p655449 0 16777216) (bf655450 : gF f655450 (-128) 127) (x655452 : p655449.toInt < (n655451 : Int)) (x655453 : ((n655451 : Int) ≤ 16777216)) : CtA (gV D I) l yJ5_append_3fe6f cJ5_append_3fe6f 2 (some (FieldType.object "java/lang/AbstractStringBuilder")) 1 22 0 0 [.ref q655445, .int p655447] (va_pl P655443 F655444) (pp_655454_AbstractStringBuilder_append D I P655443 F655444 q655445 q655446 p655447 p655448 p655449 f655450 n655451) gNA := by
  refine CtA_ofF hl0 (by decide +kernel) (Nat.le_of_ble_eq_true rfl) ?_
  refine G_aload_n 0 dr_cJ5_append_3fe6f_0 rfl ?_
  refine G_aload_n 0 dr_cJ5_append_3fe6f_1 rfl ?_
  refine Gp_get 3 hmq655445 heq655445 dr_cJ5_append_3fe6f_2 (gk_J4 D I) (Nat.le_of_ble_eq_true rfl) wr_7_64 rfl ?_
  refine G_iconst 1 dr_cJ5_append_3fe6f_5 (by decide +kernel) ?_
  refine G_iadd dr_cJ5_append_3fe6f_6 (G_nam fun z655455 hz655455 => ?_)
  have ez655455 : z655455.toInt = p655449.toInt + 1 := by rw [gI_add hz655455 bp655449 (gBl (show Int32.toInt 1 = 1 by decide)) (by decide) (by decide), show Int32.toInt 1 = 1 from by decide]
  have bz655455 : gB z655455 1 16777217 := gB_add (gI_add hz655455 bp655449 (gBl (show Int32.toInt 1 = 1 by decide)) (by decide) (by decide)) bp655449 (gBl (show Int32.toInt 1 = 1 by decide)) (by decide) (by decide)
  refine Gw_callVB (As := [.int z655455]) (gV_ok D I) (cp_655467_AbstractStringBuilder_ensureCapacityInternal l hl0 D I P655443 F655444 q655445 q655446 z655455 p655448 p655449 f655450 n655451 hmq655445 hmq655446 heq655445 heq655446 ⟨by omega, by omega⟩ bp655448 bp655449 bf655450 (by have qa0 : Int32.toInt 0 = 0 := (by decide); omega) (by have qa0 : Int32.toInt 0 = 0 := (by decide); omega)) dr_cJ5_append_3fe6f_7 ⟨wr_8_4, wr_1_19, wr_8_7, by decide, rfl, (Nat.le_of_ble_eq_true rfl), (Nat.le_of_ble_eq_true rfl)⟩ wr_8_6 wr_s_0 hmq655445 heq655445 rfl (show 0 + 0 ≤ 0 by first | omega | decide) (show 0 + 0 ≤ 0 by first | omega | decide) (Nat.le_of_ble_eq_true rfl) (fun r655477 w655478 dc655474 ds655475 hp655476 => ?_) (fun _ _ _ _ _ z => z.elim)
  obtain ⟨rfl, rfl, hdc, hds, ht655479⟩ := hp655476
  change G _ _ _ _ _ _ _ _ _ _ _
  refine G_widen (cs' := 0) (sl' := 0) (by omega) (by omega) ?_
  refine G_aload_n 0 dr_cJ5_append_3fe6f_10 rfl ?_
  refine Gw_callVB (As := []) (gV_ok D I) (cp_655489_AbstractStringBuilder_isLatin1 l hl0 D I P655443 F655444 q655445 q655446 p655448 p655449 f655450 n655451 hmq655445 hmq655446 heq655445 heq655446 bp655448 bp655449 bf655450 (by have qa0 : Int32.toInt 0 = 0 := (by decide); omega)) dr_cJ5_append_3fe6f_11 ⟨wr_8_33, wr_1_19, wr_8_37, by decide, rfl, (Nat.le_of_ble_eq_true rfl), (Nat.le_of_ble_eq_true rfl)⟩ wr_8_34 wr_8_36 hmq655445 heq655445 rfl (show 0 + 0 ≤ 0 by first | omega | decide) (show 0 + 0 ≤ 0 by first | omega | decide) (Nat.le_of_ble_eq_true rfl) (fun r655493 w655494 dc655490 ds655491 hp655492 => ?_) (fun _ _ _ _ _ z => z.elim)
  obtain ⟨rfl, rfl, hdc, hds⟩ := hp655492
  change G _ _ _ _ _ _ _ (.int 1 :: _) _ _ _
  refine G_widen (cs' := 0) (sl' := 0) (by omega) (by omega) ?_
  refine G_if_eq 45 dr_cJ5_append_3fe6f_14 (by decide +kernel) (fun hc => absurd hc (by decide)) (fun _ => ?_)
  refine G_iload_n 1 dr_cJ5_append_3fe6f_17 rfl ?_
  refine Gw_callS (As := [.int p655447]) (gV_ok D I) (cp_655498_StringLatin1_canEncode l hl0 D I P655443 F655444 p655447 (gB_w bp655447 (by decide) (by decide))) dr_cJ5_append_3fe6f_18 ⟨wr_8_38, wr_1_28, wr_8_40, by decide, rfl, (Nat.le_of_ble_eq_true rfl), (Nat.le_of_ble_eq_true rfl)⟩ wr_8_39 (show 0 + 0 ≤ 0 by first | omega | decide) (show 0 + 0 ≤ 0 by first | omega | decide) (Nat.le_of_ble_eq_true rfl) (fun r655505 w655506 dc655502 ds655503 hp655504 => ?_) (fun _ _ _ _ _ z => z.elim)
  rcases hp655504 with ⟨rfl, rfl, hdc, hds, r655507, r655508⟩ | ⟨rfl, rfl, hdc, hds, r655509, r655510⟩
  · exact absurd (show False by omega) not_false
  · change G _ _ _ _ _ _ _ (.int 1 :: _) _ _ _
    refine G_widen (cs' := 0) (sl' := 0) (by omega) (by omega) ?_
    refine G_if_eq 45 dr_cJ5_append_3fe6f_21 (by decide +kernel) (fun hc => absurd hc (by decide)) (fun _ => ?_)
    refine G_aload_n 0 dr_cJ5_append_3fe6f_24 rfl ?_
    refine Gp_get 0 hmq655445 heq655445 dr_cJ5_append_3fe6f_25 (gk_J4 D I) (Nat.le_of_ble_eq_true rfl) wr_7_60 rfl ?_
    refine G_aload_n 0 dr_cJ5_append_3fe6f_28 rfl ?_
    refine G_dup dr_cJ5_append_3fe6f_29 rfl ?_
    refine Gp_get 3 hmq655445 heq655445 dr_cJ5_append_3fe6f_30 (gk_J4 D I) (Nat.le_of_ble_eq_true rfl) wr_7_64 rfl ?_
    refine G_dup_x1 dr_cJ5_append_3fe6f_33 rfl rfl ?_
    refine G_iconst 1 dr_cJ5_append_3fe6f_34 (by decide +kernel) ?_
    refine G_iadd dr_cJ5_append_3fe6f_35 (G_nam fun z655512 hz655512 => ?_)
    have ez655512 : z655512.toInt = p655449.toInt + 1 := by rw [gI_add hz655512 bp655449 (gBl (show Int32.toInt 1 = 1 by decide)) (by decide) (by decide), show Int32.toInt 1 = 1 from by decide]
    have bz655512 : gB z655512 1 16777217 := gB_add (gI_add hz655512 bp655449 (gBl (show Int32.toInt 1 = 1 by decide)) (by decide) (by decide)) bp655449 (gBl (show Int32.toInt 1 = 1 by decide)) (by decide) (by decide)
    refine Gp_put 3 hmq655445 heq655445 dr_cJ5_append_3fe6f_36 (gk_J4 D I) (Nat.le_of_ble_eq_true rfl) wr_7_64 rfl rfl rfl (Nat.le_of_ble_eq_true rfl) (fun F655513 e655514 n655515 => ?_)
    have he655516 : F655513 q655446 = .inl (I .byte, n655451, .inl f655450) := (n655515 q655446 (rn_ao heq655446 heq655445)).trans heq655446
    have he655517 : F655513 q655445 = .inr (1, [.ref q655446, .int 0, .int p655448, .int z655512]) := e655514
    have hfr655518 : rFr [q655445] P655443 F655444 F655513 := rFr_put (rFr_rf (W := []) (P := P655443) (F := F655444)) n655515
    refine G_iload_n 1 dr_cJ5_append_3fe6f_39 rfl ?_
    refine G_i2b dr_cJ5_append_3fe6f_40 (G_nam fun z655519 hz655519 => ?_)
    have bz655519 : gB z655519 (-128) 127 := gB_i2b hz655519
    refine Gp_bast 1 hmq655446 he655516 dr_cJ5_append_3fe6f_41 rfl (gB_inr (by omega) (by omega)) (fun F655520 e655521 n655522 => ?_)
    obtain ⟨f655523, hf655523⟩ : ∃ z, z = upd f655450 p655449.toNatClampNeg (vp_nar .byte z655519) := ⟨_, rfl⟩
    rw [← hf655523] at e655521
    have he655524 : F655520 q655445 = .inr (1, [.ref q655446, .int 0, .int p655448, .int z655512]) := (n655522 q655445 (rn_oa he655517 he655516)).trans he655517
    have he655525 : F655520 q655446 = .inl (I .byte, n655451, .inl f655523) := e655521
    have hfr655526 : rFr [q655446, q655445] P655443 F655444 F655520 := rFr_put hfr655518 n655522
    have bf655523 : gF f655523 (-128) 127 := gF_upd hf655523 bf655450 gB_byte
    refine G_goto 75 dr_cJ5_append_3fe6f_42 (by decide +kernel) ?_
    refine G_aload_n 0 dr_cJ5_append_3fe6f_75 rfl ?_
    exact G_aretA (FieldType.object "java/lang/AbstractStringBuilder") dr_cJ5_append_3fe6f_76 rfl (by first | exact Or.inl ⟨_, rfl⟩ | exact Or.inr ⟨_, rfl⟩) (Or.inr ⟨_, rfl⟩) (Nat.le_of_ble_eq_true rfl) (Nat.le_of_ble_eq_true rfl) ⟨F655520, z655512, f655523, rfl, rfl, hfr655526, he655524, he655525, (Nat.le_of_ble_eq_true rfl), (Nat.le_of_ble_eq_true rfl), ⟨by omega, by omega⟩, bf655523, (by have qa0 : Int32.toInt 0 = 0 := (by decide); omega), (fun R c1 => c1 z655455 z655512 z655519 f655523 ez655455 ht655479 r655510 ez655512 hz655519 hf655523)⟩
/- tr_RStringBuilder_append: a.0...count, a.0.value.[] -/
def tr_RStringBuilder_append (a1 : Int32) (a0_count : Int32) (a0_value_v : Nat → Int32) (a0_value_n : Nat) (o1 : Int32) (o2 : Nat → Int32) : Prop := ∀ R : (Int32) → (Nat → Int32) → Prop,
  (∀ (x1 : Int32) (x2 : Nat → Int32), gB x1 1 16777216 → tr_RAbstractStringBuilder_append a1 a0_count a0_value_v a0_value_n x1 x2 → R x1 x2) →
  R o1 o2
abbrev ky_655442_StringBuilder_append : gKey := (cJ4_append_cf468, 2, "java/lang/StringBuilder", (some (FieldType.object "java/lang/StringBuilder")), [], "append", fun _ _ => True)
def pp_655442_StringBuilder_append (D : va_G) (I : FieldType → ClassId) (P655431 : List Nat) (F655432 : Nat → va_E) (q655433 : Nat) (q655434 : Nat) (p655435 : Int32) (p655436 : Int32) (p655437 : Int32) (f655438 : Nat → Int32) (n655439 : Nat) : Option Value → va_W → Nat → Nat → Prop := fun r w dc ds => ∃ (F655549 : Nat → va_E) (o655546 : Int32) (f655547 : Nat → Int32), r = some (.ref q655433) ∧ w = va_pl P655431 F655549 ∧ rFr [q655434, q655433] P655431 F655432 F655549 ∧ F655549 q655433 = .inr (1, [.ref q655434, .int 0, .int p655436, .int o655546]) ∧ F655549 q655434 = .inl (I .byte, n655439, .inl f655547) ∧ dc ≤ 0 ∧ ds ≤ 0 ∧ gB o655546 1 16777216 ∧ gF f655547 (-128) 127 ∧ o655546.toInt = p655437.toInt + 1 ∧ tr_RStringBuilder_append p655435 p655437 f655438 n655439 o655546 f655547
set_option maxRecDepth 100000 in
set_option maxHeartbeats 4000000 in
theorem cp_655442_StringBuilder_append (l : Launch) (hl0 : l.stackTraces = false) (D : va_G) (I : FieldType → ClassId) (P655431 : List Nat) (F655432 : Nat → va_E) (q655433 : Nat) (q655434 : Nat) (p655435 : Int32) (p655436 : Int32) (p655437 : Int32) (f655438 : Nat → Int32) (n655439 : Nat) (hmq655433 : q655433 ∈ P655431) (hmq655434 : q655434 ∈ P655431) (heq655433 : F655432 q655433 = .inr (1, [.ref q655434, .int 0, .int p655436, .int p655437])) (heq655434 : F655432 q655434 = .inl (I .byte, n655439, .inl f655438)) (bp655435 : gB p655435 0 255) (bp655436 : gB p655436 0 1) (bp655437 : gB p655437 0 16777216) (bf655438 : gF f655438 (-128) 127) (x655440 : p655437.toInt < (n655439 : Int)) (x655441 : ((n655439 : Int) ≤ 16777216)) : CtA (gV D I) l yJ4_append_cf468 cJ4_append_cf468 2 (some (FieldType.object "java/lang/StringBuilder")) 2 43 0 0 [.ref q655433, .int p655435] (va_pl P655431 F655432) (pp_655442_StringBuilder_append D I P655431 F655432 q655433 q655434 p655435 p655436 p655437 f655438 n655439) gNA := by
  refine CtA_ofF hl0 (by decide +kernel) (Nat.le_of_ble_eq_true rfl) ?_
  refine G_aload_n 0 dr_cJ4_append_cf468_0 rfl ?_
  refine G_iload_n 1 dr_cJ4_append_cf468_1 rfl ?_
  refine Gw_callSU (As := [.int p655435]) (gV_ok D I) (cp_655454_AbstractStringBuilder_append l hl0 D I P655431 F655432 q655433 q655434 p655435 p655436 p655437 f655438 n655439 hmq655433 hmq655434 heq655433 heq655434 bp655435 bp655436 bp655437 bf655438 (by have qa0 : Int32.toInt 0 = 0 := (by decide); omega) (by have qa0 : Int32.toInt 0 = 0 := (by decide); omega)) dr_cJ4_append_cf468_2 ⟨wr_8_1, wr_1_19, wr_8_3, by decide, rfl, (Nat.le_of_ble_eq_true rfl), (Nat.le_of_ble_eq_true rfl)⟩ wr_8_2 wr_11_224 wr_7_73 wr_7_44 (by decide) hmq655433 heq655433 rfl (show 0 + 0 ≤ 0 by first | omega | decide) (show 0 + 0 ≤ 0 by first | omega | decide) (Nat.le_of_ble_eq_true rfl) (fun r655534 w655535 dc655531 ds655532 hp655533 => ?_)
  obtain ⟨F655540, o655536, f655537, rfl, rfl, hfr655542, he655543, he655544, hdc, hds, bo655536, bf655537, x655538, ht655539⟩ := hp655533
  have hfr655545 : rFr [q655434, q655433] P655431 F655432 F655540 := rFr_call (rSub_rf (P := P655431)) (rFr_rf (W := []) (P := P655431) (F := F655432)) hfr655542 (fun b hb hn => ⟨nm_n, (nm_c (fun e => hn (e ▸ List.mem_cons_self)) (nm_c (fun e => hn (e ▸ (List.mem_cons_of_mem _ List.mem_cons_self))) nm_n))⟩)
  change G _ _ _ _ _ _ _ (.ref q655433 :: _) _ _ _
  refine G_widen (cs' := 0) (sl' := 0) (by omega) (by omega) ?_
  refine G_pop dr_cJ4_append_cf468_5 rfl ?_
  refine G_aload_n 0 dr_cJ4_append_cf468_6 rfl ?_
  exact G_aretA (FieldType.object "java/lang/StringBuilder") dr_cJ4_append_cf468_7 rfl (by first | exact Or.inl ⟨_, rfl⟩ | exact Or.inr ⟨_, rfl⟩) (Or.inr ⟨_, rfl⟩) (Nat.le_of_ble_eq_true rfl) (Nat.le_of_ble_eq_true rfl) ⟨F655540, o655536, f655537, rfl, rfl, hfr655545, he655543, he655544, (Nat.le_of_ble_eq_true rfl), (Nat.le_of_ble_eq_true rfl), bo655536, bf655537, (by have qa0 : Int32.toInt 0 = 0 := (by decide); omega), (fun R c1 => c1 o655536 f655537 bo655536 ht655539)⟩
/- tr_RAbstractStringBuilder_newCapacity: result -/
def tr_RAbstractStringBuilder_newCapacity (a1 : Int32) (a0_value_n : Nat) (o1 : Int32) : Prop := ∀ R : (Int32) → Prop,
  (∀ (x1 : Int32) (x2 : Int32) (x3 : Int32) (x4 : Int32) (x5 : Int32) (x6 : Int32) (x7 : Int32), x1.toInt = (a0_value_n : Nat) → x2.toInt = a1.toInt * 1 → x3.toInt = x2.toInt - x1.toInt → x4.toInt = 2 * 1 → x5.toInt = x1.toInt + x4.toInt → gB x6 1 33554432 → tr_RArraysSupport_newLength x1 x3 x5 x6 → x7.toInt = x6.toInt / 1 → R x7) →
  R o1
abbrev ky_655607_AbstractStringBuilder_newCapacity : gKey := (cJ5_newCapacity_0f7a4, 6, "java/lang/AbstractStringBuilder", (some FieldType.int), [], "newCapacity", fun _ _ => True)
def pp_655607_AbstractStringBuilder_newCapacity (D : va_G) (I : FieldType → ClassId) (P655595 : List Nat) (F655596 : Nat → va_E) (q655597 : Nat) (q655598 : Nat) (p655599 : Int32) (p655600 : Int32) (p655601 : Int32) (f655602 : Nat → Int32) (n655603 : Nat) : Option Value → va_W → Nat → Nat → Prop := fun r w dc ds => ∃ (o655622 : Int32), r = some (.int o655622) ∧ w = va_pl P655595 F655596 ∧ dc ≤ 0 ∧ ds ≤ 0 ∧ gB o655622 1 33554432 ∧ p655599.toInt ≤ o655622.toInt ∧ 2 * (n655603 : Int) + 2 ≤ o655622.toInt ∧ (o655622.toInt ≤ 2 * (n655603 : Int) + 2 ∨ o655622.toInt ≤ p655599.toInt) ∧ tr_RAbstractStringBuilder_newCapacity p655599 n655603 o655622
set_option maxRecDepth 100000 in
set_option maxHeartbeats 4000000 in
theorem cp_655607_AbstractStringBuilder_newCapacity (l : Launch) (hl0 : l.stackTraces = false) (D : va_G) (I : FieldType → ClassId) (P655595 : List Nat) (F655596 : Nat → va_E) (q655597 : Nat) (q655598 : Nat) (p655599 : Int32) (p655600 : Int32) (p655601 : Int32) (f655602 : Nat → Int32) (n655603 : Nat) (hmq655597 : q655597 ∈ P655595) (hmq655598 : q655598 ∈ P655595) (heq655597 : F655596 q655597 = .inr (1, [.ref q655598, .int 0, .int p655600, .int p655601])) (heq655598 : F655596 q655598 = .inl (I .byte, n655603, .inl f655602)) (bp655599 : gB p655599 0 8388608) (bp655600 : gB p655600 0 1) (bp655601 : gB p655601 0 16777216) (bf655602 : gF f655602 (-128) 127) (x655604 : (n655603 : Int) < p655599.toInt) (x655605 : (n655603 : Int) ≤ 8388608) (x655606 : ((n655603 : Int) ≤ 16777216)) : CtA (gV D I) l yJ5_newCapacity_0f7a4 cJ5_newCapacity_0f7a4 6 (some FieldType.int) 2 37 0 0 [.ref q655597, .int p655599] (va_pl P655595 F655596) (pp_655607_AbstractStringBuilder_newCapacity D I P655595 F655596 q655597 q655598 p655599 p655600 p655601 f655602 n655603) gNA := by
  refine CtA_ofF hl0 (by decide +kernel) (Nat.le_of_ble_eq_true rfl) ?_
  refine G_aload_n 0 dr_cJ5_newCapacity_0f7a4_0 rfl ?_
  refine Gp_get 0 hmq655597 heq655597 dr_cJ5_newCapacity_0f7a4_1 (gk_J4 D I) (Nat.le_of_ble_eq_true rfl) wr_7_60 rfl ?_
  refine Gp_alen (Int32.ofNat n655603) 1 hmq655598 heq655598 dr_cJ5_newCapacity_0f7a4_4 rfl rfl (G_nam fun z655608 hz655608 => ?_)
  have ez655608 : z655608.toInt = (n655603 : Nat) := gI_ofM hz655608 (by omega)
  have bz655608 : gB z655608 0 16777216 := ⟨by omega, by omega⟩
  refine G_istore_n (L' := [(2, .int z655608), (0, .ref q655597), (1, .int p655599)]) dr_cJ5_newCapacity_0f7a4_5 (Nat.le_of_ble_eq_true rfl) rfl ?_
  refine G_iload_n 2 dr_cJ5_newCapacity_0f7a4_6 rfl ?_
  refine G_aload_n 1 dr_cJ5_newCapacity_0f7a4_7 rfl ?_
  refine Gp_get 1 hmq655597 heq655597 dr_cJ5_newCapacity_0f7a4_8 (gk_J4 D I) (Nat.le_of_ble_eq_true rfl) wr_7_61 rfl ?_
  refine G_ishl dr_cJ5_newCapacity_0f7a4_11 (G_nam fun z655609 hz655609 => ?_)
  have ez655609 : z655609.toInt = p655599.toInt * 1 := gI_shl (k := 0) hz655609 (by decide) bp655599 (by decide) (by decide)
  have bz655609 : gB z655609 0 8388608 := ⟨by omega, by omega⟩
  refine G_istore_n (L' := [(3, .int z655609), (2, .int z655608), (0, .ref q655597), (1, .int p655599)]) dr_cJ5_newCapacity_0f7a4_12 (Nat.le_of_ble_eq_true rfl) rfl ?_
  refine G_iload_n 0 dr_cJ5_newCapacity_0f7a4_13 rfl ?_
  refine G_iload_n 1 dr_cJ5_newCapacity_0f7a4_14 rfl ?_
  refine G_isub dr_cJ5_newCapacity_0f7a4_15 (G_nam fun z655610 hz655610 => ?_)
  have ez655610 : z655610.toInt = z655609.toInt - z655608.toInt := by rw [gI_sub hz655610 bz655609 bz655608 (by decide) (by decide)]
  have bz655610 : gB z655610 (-16777216) 8388608 := gB_sub (gI_sub hz655610 bz655609 bz655608 (by decide) (by decide)) bz655609 bz655608 (by decide) (by decide)
  refine G_istore (L' := [(4, .int z655610), (3, .int z655609), (2, .int z655608), (0, .ref q655597), (1, .int p655599)]) dr_cJ5_newCapacity_0f7a4_16 (Nat.le_of_ble_eq_true rfl) rfl ?_
  refine G_iload_n 2 dr_cJ5_newCapacity_0f7a4_18 rfl ?_
  refine G_iload 0 dr_cJ5_newCapacity_0f7a4_19 rfl ?_
  refine G_iload_n 2 dr_cJ5_newCapacity_0f7a4_21 rfl ?_
  refine G_iconst 2 dr_cJ5_newCapacity_0f7a4_22 (by decide +kernel) ?_
  refine G_aload_n 3 dr_cJ5_newCapacity_0f7a4_23 rfl ?_
  refine Gp_get 1 hmq655597 heq655597 dr_cJ5_newCapacity_0f7a4_24 (gk_J4 D I) (Nat.le_of_ble_eq_true rfl) wr_7_61 rfl ?_
  refine G_ishl dr_cJ5_newCapacity_0f7a4_27 (G_nam fun z655611 hz655611 => ?_)
  have ez655611 : z655611.toInt = 2 * 1 := gI_shl (k := 0) hz655611 (by decide) (gBl (show Int32.toInt 2 = 2 by decide)) (by decide) (by decide)
  have bz655611 : gB z655611 2 2 := ⟨by omega, by omega⟩
  refine G_iadd dr_cJ5_newCapacity_0f7a4_28 (G_nam fun z655612 hz655612 => ?_)
  have ez655612 : z655612.toInt = z655608.toInt + z655611.toInt := by rw [gI_add hz655612 bz655608 bz655611 (by decide) (by decide)]
  have bz655612 : gB z655612 2 16777218 := gB_add (gI_add hz655612 bz655608 bz655611 (by decide) (by decide)) bz655608 bz655611 (by decide) (by decide)
  refine Gw_callS (As := [.int z655608, .int z655610, .int z655612]) (gV_ok D I) (cp_355_ArraysSupport_newLength l hl0 D I P655595 F655596 z655608 z655610 z655612 bz655608 ⟨by omega, by omega⟩ ⟨by omega, by omega⟩) dr_cJ5_newCapacity_0f7a4_29 ⟨wr_8_12, wr_1_33, wr_8_14, by decide, rfl, (Nat.le_of_ble_eq_true rfl), (Nat.le_of_ble_eq_true rfl)⟩ wr_8_13 (show 0 + 0 ≤ 0 by first | omega | decide) (show 0 + 0 ≤ 0 by first | omega | decide) (Nat.le_of_ble_eq_true rfl) (fun r655616 w655617 dc655613 ds655614 hp655615 => ?_) (fun _ _ _ _ _ z => z.elim)
  obtain ⟨o655618, rfl, rfl, hdc, hds, bo655618, x655619, ht655620⟩ := hp655615
  change G _ _ _ _ _ _ _ (.int o655618 :: _) _ _ _
  refine G_widen (cs' := 0) (sl' := 0) (by omega) (by omega) ?_
  refine G_istore (L' := [(5, .int o655618), (4, .int z655610), (3, .int z655609), (2, .int z655608), (0, .ref q655597), (1, .int p655599)]) dr_cJ5_newCapacity_0f7a4_32 (Nat.le_of_ble_eq_true rfl) rfl ?_
  refine G_iload 0 dr_cJ5_newCapacity_0f7a4_34 rfl ?_
  refine G_ldc 2147483647 dr_cJ5_newCapacity_0f7a4_36 wr_8_20 ?_
  refine G_icmp_ne 51 dr_cJ5_newCapacity_0f7a4_38 (by decide +kernel) (fun _ => ?_) (fun hc => absurd (show False by have := gj_eq hc (show Int32.toInt 2147483647 = 2147483647 by decide); omega) not_false)
  refine G_iload 0 dr_cJ5_newCapacity_0f7a4_51 rfl ?_
  refine G_aload_n 4 dr_cJ5_newCapacity_0f7a4_53 rfl ?_
  refine Gp_get 1 hmq655597 heq655597 dr_cJ5_newCapacity_0f7a4_54 (gk_J4 D I) (Nat.le_of_ble_eq_true rfl) wr_7_61 rfl ?_
  refine G_ishr dr_cJ5_newCapacity_0f7a4_57 (G_nam fun z655621 hz655621 => ?_)
  have ez655621 : z655621.toInt = o655618.toInt / 1 := gI_shr (k := 0) hz655621 (by decide)
  have bz655621 : gB z655621 1 33554432 := ⟨by omega, by omega⟩
  exact G_iretA dr_cJ5_newCapacity_0f7a4_58 rfl (Nat.le_of_ble_eq_true rfl) (Nat.le_of_ble_eq_true rfl) ⟨z655621, rfl, rfl, (Nat.le_of_ble_eq_true rfl), (Nat.le_of_ble_eq_true rfl), bz655621, (by have qa0 : Int32.toInt 0 = 0 := (by decide); omega), (by have qa0 : Int32.toInt 0 = 0 := (by decide); omega), (by have qa0 : Int32.toInt 0 = 0 := (by decide); omega), (fun R c1 => c1 z655608 z655609 z655610 z655611 z655612 o655618 z655621 ez655608 ez655609 ez655610 ez655611 ez655612 bo655618 ht655620 ez655621)⟩
/- tr_RArrays_copyOf3: a.2.[] -/
def tr_RArrays_copyOf3 (a1 : Int32) (a0_v : Nat → Int32) (a0_n : Nat) (o1 : Nat → Int32) : Prop := ∀ R : (Nat → Int32) → Prop,
  (∀ (x1 : Int32) (x2 : Int32) (x3 : Int32) (x4 : Nat → Int32), x1.toInt = (a0_n : Nat) → a1.toInt ≠ x1.toInt → x2.toInt = (a0_n : Nat) → (x2.toInt ≥ x3.toInt ∧ a1.toInt ≥ x3.toInt ∧ (x3.toInt = x2.toInt ∨ x3.toInt = a1.toInt)) → (x4 = va_cpy a0_v (fun _ => 0) (0 : Int32).toNatClampNeg (0 : Int32).toNatClampNeg x3.toNatClampNeg) → R x4) →
  R o1
abbrev ky_655642_Arrays_copyOf : gKey := (cJ7_copyOf_9075b, 3, "java/util/Arrays", (some (FieldType.array FieldType.byte)), [], "copyOf", fun _ _ => True)
def pp_655642_Arrays_copyOf (D : va_G) (I : FieldType → ClassId) (P655634 : List Nat) (F655635 : Nat → va_E) (q655636 : Nat) (p655637 : Int32) (f655638 : Nat → Int32) (n655639 : Nat) : Option Value → va_W → Nat → Nat → Prop := fun r w dc ds => ∃ (P655672 : List Nat) (F655673 : Nat → va_E) (q655670 : Nat) (f655671 : Nat → Int32), r = some (.ref q655670) ∧ w = va_pl P655672 F655673 ∧ rSub P655634 P655672 ∧ rFr [] P655634 F655635 F655673 ∧ F655673 q655636 = .inl (I .byte, n655639, .inl f655638) ∧ F655673 q655670 = .inl (I .byte, p655637.toInt.toNat, .inl f655671) ∧ q655670 ∈ P655672 ∧ q655670 ∉ P655634 ∧ dc ≤ 1 ∧ ds ≤ p655637.toInt.toNat ∧ gF f655671 (-128) 127 ∧ tr_RArrays_copyOf3 p655637 f655638 n655639 f655671
set_option maxRecDepth 100000 in
set_option maxHeartbeats 4000000 in
theorem cp_655642_Arrays_copyOf (l : Launch) (hl0 : l.stackTraces = false) (D : va_G) (I : FieldType → ClassId) (P655634 : List Nat) (F655635 : Nat → va_E) (q655636 : Nat) (p655637 : Int32) (f655638 : Nat → Int32) (n655639 : Nat) (hmq655636 : q655636 ∈ P655634) (heq655636 : F655635 q655636 = .inl (I .byte, n655639, .inl f655638)) (bp655637 : gB p655637 0 33554432) (bf655638 : gF f655638 (-128) 127) (x655640 : (n655639 : Int) < p655637.toInt) (x655641 : ((n655639 : Int) ≤ 16777216)) : CtA (gV D I) l yJ7_copyOf_9075b cJ7_copyOf_9075b 3 (some (FieldType.array FieldType.byte)) 1 18 1 p655637.toInt.toNat [.ref q655636, .int p655637] (va_pl P655634 F655635) (pp_655642_Arrays_copyOf D I P655634 F655635 q655636 p655637 f655638 n655639) gNA := by
  refine CtA_ofF hl0 (by decide +kernel) (Nat.le_of_ble_eq_true rfl) ?_
  refine G_iload_n 1 dr_cJ7_copyOf_9075b_0 rfl ?_
  refine G_aload_n 0 dr_cJ7_copyOf_9075b_1 rfl ?_
  refine Gp_alen (Int32.ofNat n655639) 1 hmq655636 heq655636 dr_cJ7_copyOf_9075b_2 rfl rfl (G_nam fun z655643 hz655643 => ?_)
  have ez655643 : z655643.toInt = (n655639 : Nat) := gI_ofM hz655643 (by omega)
  have bz655643 : gB z655643 0 16777216 := ⟨by omega, by omega⟩
  refine G_icmp_ne 14 dr_cJ7_copyOf_9075b_3 (by decide +kernel) (fun hc655644 => ?_) (fun hc => absurd (show False by have := gC_eq hc; omega) not_false)
  have r655646 : p655637.toInt ≠ z655643.toInt := gC_ne hc655644
  refine G_iload_n 1 dr_cJ7_copyOf_9075b_14 rfl ?_
  refine G_newa 1 (p655637.toInt.toNat, .inl (fun _ => 0)) dr_cJ7_copyOf_9075b_15 rfl rfl (by intro C h; cases h) wr_1_66 (fun _ => ga_byte _ _) (g_n0 (by omega)) rfl (show p655637.toInt.toNat * 1 ≤ 536870912 by omega) (show 0 + 1 ≤ 1 by first | omega | decide) (show 0 + p655637.toInt.toNat ≤ p655637.toInt.toNat by first | omega | decide) (fun q655647 => Gp_in (fun P655648 F655649 hq655650 hP655651 e655652 n655653 => ?_))
  refine G_widen (cs' := 1) (sl' := p655637.toInt.toNat) (by omega) (by omega) ?_
  have he655654 : F655649 q655636 = .inl (I .byte, n655639, .inl f655638) := (n655653 q655636 (fun h => hq655650 (h ▸ hmq655636))).trans heq655636
  have he655655 : F655649 q655647 = .inl (I .byte, p655637.toInt.toNat, .inl (fun _ => 0)) := e655652
  have hm655656 : q655636 ∈ P655648 := (hP655651 q655636).mpr (Or.inl hmq655636)
  have hm655657 : q655647 ∈ P655648 := (hP655651 q655647).mpr (Or.inr rfl)
  have hq655658 : q655647 ∉ P655634 := fun z => hq655650 ((rSub_rf (P := P655634)) q655647 z)
  have hfr655659 : rFr [] P655634 F655635 F655649 := rFr_new (rSub_rf (P := P655634)) hq655650 (rFr_rf (W := []) (P := P655634) (F := F655635)) n655653
  have hsb655660 : rSub P655634 P655648 := rSub_new (rSub_rf (P := P655634)) hP655651
  refine G_astore_n (L' := [(2, .ref q655647), (0, .ref q655636), (1, .int p655637)]) dr_cJ7_copyOf_9075b_17 (Nat.le_of_ble_eq_true rfl) rfl ?_
  refine G_aload_n 1 dr_cJ7_copyOf_9075b_18 rfl ?_
  refine G_iconst 0 dr_cJ7_copyOf_9075b_19 (by decide +kernel) ?_
  refine G_aload_n 0 dr_cJ7_copyOf_9075b_20 rfl ?_
  refine G_iconst 0 dr_cJ7_copyOf_9075b_21 (by decide +kernel) ?_
  refine G_aload_n 1 dr_cJ7_copyOf_9075b_22 rfl ?_
  refine Gp_alen (Int32.ofNat n655639) 1 hm655656 he655654 dr_cJ7_copyOf_9075b_23 rfl rfl (G_nam fun z655661 hz655661 => ?_)
  have ez655661 : z655661.toInt = (n655639 : Nat) := gI_ofM hz655661 (by omega)
  have bz655661 : gB z655661 0 16777216 := ⟨by omega, by omega⟩
  refine G_iload_n 2 dr_cJ7_copyOf_9075b_24 rfl ?_
  refine G_mmin dr_cJ7_copyOf_9075b_25 wr_8_31 wr_3_227 wr_1_6 wr_3_228 (Nat.le_of_ble_eq_true rfl) (Nat.le_of_ble_eq_true rfl) (show 1 ≤ 1 by first | omega | decide) (show p655637.toInt.toNat ≤ p655637.toInt.toNat by first | omega | decide) (G_nam fun z655662 hz655662 => ?_)
  have ez655662 : z655661.toInt ≥ z655662.toInt ∧ p655637.toInt ≥ z655662.toInt ∧ (z655662.toInt = z655661.toInt ∨ z655662.toInt = p655637.toInt) := by have := gI_min hz655662; omega
  have bz655662 : gB z655662 0 16777216 := ⟨by omega, by omega⟩
  refine Gp_copyp 1 hm655656 hm655657 he655654 he655655 dr_cJ7_copyOf_9075b_28 wr_8_32 wr_5_113 wr_5_112 wr_1_34 rfl rfl (fun j => gT_byte (bf655638 j)) (by decide) (by decide) (by omega) (by have qa0 : Int32.toInt 0 = 0 := (by decide); omega) (by have qa0 : Int32.toInt 0 = 0 := (by decide); omega) (Nat.le_of_ble_eq_true rfl) (Nat.le_of_ble_eq_true rfl) (fun F655663 e655664 n655665 => ?_)
  obtain ⟨f655666, hf655666⟩ : ∃ z, z = va_cpy f655638 (fun _ => 0) (0 : Int32).toNatClampNeg (0 : Int32).toNatClampNeg z655662.toNatClampNeg := ⟨_, rfl⟩
  rw [← hf655666] at e655664
  have bf655666 : gF f655666 (-128) 127 := gF_cpy hf655666 bf655638 (gF_w gF_0 (by decide) (by decide))
  have he655667 : F655663 q655636 = .inl (I .byte, n655639, .inl f655638) := (n655665 q655636 (fun h => hq655658 (h ▸ hmq655636))).trans he655654
  have he655668 : F655663 q655647 = .inl (I .byte, p655637.toInt.toNat, .inl f655666) := e655664
  have hfr655669 : rFr [] P655634 F655635 F655663 := rFr_newp hq655658 hfr655659 n655665
  refine G_aload_n 0 dr_cJ7_copyOf_9075b_31 rfl ?_
  exact G_aretA (FieldType.array FieldType.byte) dr_cJ7_copyOf_9075b_32 rfl (by first | exact Or.inl ⟨_, rfl⟩ | exact Or.inr ⟨_, rfl⟩) (Or.inr ⟨_, rfl⟩) (Nat.le_of_ble_eq_true rfl) (show p655637.toInt.toNat ≤ p655637.toInt.toNat by omega) ⟨P655648, F655663, q655647, f655666, rfl, rfl, hsb655660, hfr655669, he655667, he655668, hm655657, hq655658, (Nat.le_of_ble_eq_true rfl), (by omega), bf655666, (fun R c1 => c1 z655643 z655661 z655662 f655666 ez655643 r655646 ez655661 ez655662 hf655666)⟩
/- tr_RAbstractStringBuilder_ensureCapacityInternal2: a.0.value.#, a.0.value.[] -/
def tr_RAbstractStringBuilder_ensureCapacityInternal2 (a1 : Int32) (a0_value_v : Nat → Int32) (a0_value_n : Nat) (o1 : Nat) (o2 : Nat → Int32) : Prop := ∀ R : (Nat) → (Nat → Int32) → Prop,
  (∀ (x1 : Int32) (x2 : Int32) (x3 : Int32), x1.toInt = (a0_value_n : Nat) → x2.toInt = x1.toInt / 1 → x3.toInt = a1.toInt - x2.toInt → x3.toInt ≤ 0 → R a0_value_n a0_value_v) →
  (∀ (x1 : Int32) (x2 : Int32) (x3 : Int32) (x4 : Int32) (x5 : Int32) (x6 : Nat → Int32), x1.toInt = (a0_value_n : Nat) → x2.toInt = x1.toInt / 1 → x3.toInt = a1.toInt - x2.toInt → 0 < x3.toInt → gB x4 1 33554432 → tr_RAbstractStringBuilder_newCapacity a1 a0_value_n x4 → x5.toInt = x4.toInt * 1 → tr_RArrays_copyOf3 x5 a0_value_v a0_value_n x6 → R x5.toInt.toNat x6) →
  R o1 o2
abbrev ky_655588_AbstractStringBuilder_ensureCapacityInternal : gKey := (cJ5_ensureCapacityInternal_d00df, 3, "java/lang/AbstractStringBuilder", none, [], "ensureCapacityInternal", fun _ _ => True)
def pp_655588_AbstractStringBuilder_ensureCapacityInternal (D : va_G) (I : FieldType → ClassId) (P655577 : List Nat) (F655578 : Nat → va_E) (q655579 : Nat) (q655580 : Nat) (p655581 : Int32) (p655582 : Int32) (p655583 : Int32) (f655584 : Nat → Int32) (n655585 : Nat) : Option Value → va_W → Nat → Nat → Prop := fun r w dc ds => ∃ (P655706 : List Nat) (F655707 : Nat → va_E) (q655703 : Nat) (n655704 : Nat) (f655705 : Nat → Int32), r = none ∧ w = va_pl P655706 F655707 ∧ rSub P655577 P655706 ∧ rFr [q655579] P655577 F655578 F655707 ∧ F655707 q655579 = .inr (1, [.ref q655703, .int 0, .int p655582, .int p655583]) ∧ F655707 q655703 = .inl (I .byte, n655704, .inl f655705) ∧ q655703 ∈ P655706 ∧ (q655703 = q655580 ∨ q655703 ∉ P655577) ∧ dc ≤ 1 ∧ ds ≤ 2 * (n655704 - n655585) ∧ gF f655705 (-128) 127 ∧ p655581.toInt ≤ (n655704 : Int) ∧ (n655585 : Int) ≤ (n655704 : Int) ∧ ((n655704 : Int) = (n655585 : Int) ∨ (n655585 : Int) < p655581.toInt) ∧ ((n655704 : Int) ≤ 2 * (n655585 : Int) + 2 ∨ (n655704 : Int) ≤ p655581.toInt) ∧ tr_RAbstractStringBuilder_ensureCapacityInternal2 p655581 f655584 n655585 n655704 f655705
set_option maxRecDepth 100000 in
set_option maxHeartbeats 4000000 in
theorem cp_655588_AbstractStringBuilder_ensureCapacityInternal (l : Launch) (hl0 : l.stackTraces = false) (D : va_G) (I : FieldType → ClassId) (P655577 : List Nat) (F655578 : Nat → va_E) (q655579 : Nat) (q655580 : Nat) (p655581 : Int32) (p655582 : Int32) (p655583 : Int32) (f655584 : Nat → Int32) (n655585 : Nat) (hmq655579 : q655579 ∈ P655577) (hmq655580 : q655580 ∈ P655577) (heq655579 : F655578 q655579 = .inr (1, [.ref q655580, .int 0, .int p655582, .int p655583])) (heq655580 : F655578 q655580 = .inl (I .byte, n655585, .inl f655584)) (bp655581 : gB p655581 0 8388608) (bp655582 : gB p655582 0 1) (bp655583 : gB p655583 0 16777216) (bf655584 : gF f655584 (-128) 127) (x655586 : (n655585 : Int) ≤ 8388608) (x655587 : ((n655585 : Int) ≤ 16777216)) : CtA (gV D I) l yJ5_ensureCapacityInternal_d00df cJ5_ensureCapacityInternal_d00df 3 none 3 62 1 (2 * n655585 + 2 + p655581.toInt.toNat) [.ref q655579, .int p655581] (va_pl P655577 F655578) (pp_655588_AbstractStringBuilder_ensureCapacityInternal D I P655577 F655578 q655579 q655580 p655581 p655582 p655583 f655584 n655585) gNA := by
  refine CtA_ofF hl0 (by decide +kernel) (Nat.le_of_ble_eq_true rfl) ?_
  refine G_aload_n 0 dr_cJ5_ensureCapacityInternal_d00df_0 rfl ?_
  refine Gp_get 0 hmq655579 heq655579 dr_cJ5_ensureCapacityInternal_d00df_1 (gk_J4 D I) (Nat.le_of_ble_eq_true rfl) wr_7_60 rfl ?_
  refine Gp_alen (Int32.ofNat n655585) 1 hmq655580 heq655580 dr_cJ5_ensureCapacityInternal_d00df_4 rfl rfl (G_nam fun z655589 hz655589 => ?_)
  have ez655589 : z655589.toInt = (n655585 : Nat) := gI_ofM hz655589 (by omega)
  have bz655589 : gB z655589 0 16777216 := ⟨by omega, by omega⟩
  refine G_aload_n 0 dr_cJ5_ensureCapacityInternal_d00df_5 rfl ?_
  refine Gp_get 1 hmq655579 heq655579 dr_cJ5_ensureCapacityInternal_d00df_6 (gk_J4 D I) (Nat.le_of_ble_eq_true rfl) wr_7_61 rfl ?_
  refine G_ishr dr_cJ5_ensureCapacityInternal_d00df_9 (G_nam fun z655590 hz655590 => ?_)
  have ez655590 : z655590.toInt = z655589.toInt / 1 := gI_shr (k := 0) hz655590 (by decide)
  have bz655590 : gB z655590 0 16777216 := ⟨by omega, by omega⟩
  refine G_istore_n (L' := [(2, .int z655590), (0, .ref q655579), (1, .int p655581)]) dr_cJ5_ensureCapacityInternal_d00df_10 (Nat.le_of_ble_eq_true rfl) rfl ?_
  refine G_iload_n 2 dr_cJ5_ensureCapacityInternal_d00df_11 rfl ?_
  refine G_iload_n 0 dr_cJ5_ensureCapacityInternal_d00df_12 rfl ?_
  refine G_isub dr_cJ5_ensureCapacityInternal_d00df_13 (G_nam fun z655591 hz655591 => ?_)
  have ez655591 : z655591.toInt = p655581.toInt - z655590.toInt := by rw [gI_sub hz655591 bp655581 bz655590 (by decide) (by decide)]
  have bz655591 : gB z655591 (-16777216) 8388608 := gB_sub (gI_sub hz655591 bp655581 bz655590 (by decide) (by decide)) bp655581 bz655590 (by decide) (by decide)
  refine G_if_le 38 dr_cJ5_ensureCapacityInternal_d00df_14 (by decide +kernel) (fun hc655592 => ?_) (fun hc655592 => ?_)
  · have r655593 : z655591.toInt ≤ 0 := gj_le hc655592 (show Int32.toInt 0 = 0 by decide)
    have bz655591' : gB z655591 (-16777216) 0 := ⟨by omega, by omega⟩
    exact G_vretA dr_cJ5_ensureCapacityInternal_d00df_38 rfl (Nat.le_of_ble_eq_true rfl) (Nat.le_of_ble_eq_true rfl) ⟨P655577, F655578, q655580, n655585, f655584, rfl, rfl, (rSub_rf (P := P655577)), (rFr_v (rFr_rf (W := []) (P := P655577) (F := F655578)) (fun b hn => nm_n)), heq655579, heq655580, hmq655580, (Or.inl rfl), (Nat.le_of_ble_eq_true rfl), (by omega), bf655584, (by have qa0 : Int32.toInt 0 = 0 := (by decide); omega), (by have qa0 : Int32.toInt 0 = 0 := (by decide); omega), (by have qa0 : Int32.toInt 0 = 0 := (by decide); omega), (by have qa0 : Int32.toInt 0 = 0 := (by decide); omega), (fun R c1 c2 => c1 z655589 z655590 z655591 ez655589 ez655590 ez655591 r655593)⟩
  · have r655594 : 0 < z655591.toInt := gj_nle hc655592 (show Int32.toInt 0 = 0 by decide)
    have bz655591' : gB z655591 1 8388608 := ⟨by omega, by omega⟩
    refine G_aload_n 1 dr_cJ5_ensureCapacityInternal_d00df_17 rfl ?_
    refine G_aload_n 1 dr_cJ5_ensureCapacityInternal_d00df_18 rfl ?_
    refine Gp_get 0 hmq655579 heq655579 dr_cJ5_ensureCapacityInternal_d00df_19 (gk_J4 D I) (Nat.le_of_ble_eq_true rfl) wr_7_60 rfl ?_
    refine G_aload_n 1 dr_cJ5_ensureCapacityInternal_d00df_22 rfl ?_
    refine G_iload_n 2 dr_cJ5_ensureCapacityInternal_d00df_23 rfl ?_
    refine Gw_callVB (As := [.int p655581]) (gV_ok D I) (cp_655607_AbstractStringBuilder_newCapacity l hl0 D I P655577 F655578 q655579 q655580 p655581 p655582 p655583 f655584 n655585 hmq655579 hmq655580 heq655579 heq655580 bp655581 bp655582 bp655583 bf655584 (by have qa0 : Int32.toInt 0 = 0 := (by decide); omega) (by have qa0 : Int32.toInt 0 = 0 := (by decide); omega) (by have qa0 : Int32.toInt 0 = 0 := (by decide); omega)) dr_cJ5_ensureCapacityInternal_d00df_24 ⟨wr_8_8, wr_1_19, wr_8_11, by decide, rfl, (Nat.le_of_ble_eq_true rfl), (Nat.le_of_ble_eq_true rfl)⟩ wr_8_10 wr_s_1 hmq655579 heq655579 rfl (show 0 + 0 ≤ 1 by first | omega | decide) (show 0 + 0 ≤ (2 * n655585 + 2 + p655581.toInt.toNat) by first | omega | decide) (Nat.le_of_ble_eq_true rfl) (fun r655626 w655627 dc655623 ds655624 hp655625 => ?_) (fun _ _ _ _ _ z => z.elim)
    obtain ⟨o655628, rfl, rfl, hdc, hds, bo655628, x655629, x655630, x655631, ht655632⟩ := hp655625
    change G _ _ _ _ _ _ _ (.int o655628 :: _) _ _ _
    refine G_widen (cs' := 0) (sl' := 0) (by omega) (by omega) ?_
    refine G_aload_n 1 dr_cJ5_ensureCapacityInternal_d00df_27 rfl ?_
    refine Gp_get 1 hmq655579 heq655579 dr_cJ5_ensureCapacityInternal_d00df_28 (gk_J4 D I) (Nat.le_of_ble_eq_true rfl) wr_7_61 rfl ?_
    refine G_ishl dr_cJ5_ensureCapacityInternal_d00df_31 (G_nam fun z655633 hz655633 => ?_)
    have ez655633 : z655633.toInt = o655628.toInt * 1 := gI_shl (k := 0) hz655633 (by decide) bo655628 (by decide) (by decide)
    have bz655633 : gB z655633 1 33554432 := ⟨by omega, by omega⟩
    refine Gw_callS (As := [.ref q655580, .int z655633]) (gV_ok D I) (cp_655642_Arrays_copyOf l hl0 D I P655577 F655578 q655580 z655633 f655584 n655585 hmq655580 heq655580 (gB_w bz655633 (by decide) (by decide)) bf655584 (by have qa0 : Int32.toInt 0 = 0 := (by decide); omega) (by have qa0 : Int32.toInt 0 = 0 := (by decide); omega)) dr_cJ5_ensureCapacityInternal_d00df_32 ⟨wr_8_21, wr_1_30, wr_8_23, by decide, rfl, (Nat.le_of_ble_eq_true rfl), (Nat.le_of_ble_eq_true rfl)⟩ wr_8_22 (show 0 + 1 ≤ 1 by first | omega | decide) (show 0 + z655633.toInt.toNat ≤ (2 * n655585 + 2 + p655581.toInt.toNat) by first | omega | decide) (Nat.le_of_ble_eq_true rfl) (fun r655677 w655678 dc655674 ds655675 hp655676 => ?_) (fun _ _ _ _ _ z => z.elim)
    obtain ⟨P655682, F655683, q655679, f655680, rfl, rfl, hsb655684, hfr655685, he655686, he655687, hm655688, hq655689, hdc, hds, bf655680, ht655681⟩ := hp655676
    have hm655690 : q655579 ∈ P655682 := hsb655684 q655579 hmq655579
    have hm655691 : q655580 ∈ P655682 := hsb655684 q655580 hmq655580
    have hq655692 : q655679 ∉ P655577 := fun z => hq655689 ((rSub_rf (P := P655577)) q655679 z)
    have hsb655693 : rSub P655577 P655682 := rSub_tr (rSub_rf (P := P655577)) hsb655684
    have he655694 : F655683 q655579 = .inr (1, [.ref q655580, .int 0, .int p655582, .int p655583]) := (hfr655685 q655579 hmq655579 nm_n).trans heq655579
    have hfr655695 : rFr [] P655577 F655578 F655683 := rFr_call (rSub_rf (P := P655577)) (rFr_rf (W := []) (P := P655577) (F := F655578)) hfr655685 (fun b hb hn => ⟨nm_n, nm_n⟩)
    change G _ _ _ _ _ _ _ (.ref q655679 :: _) _ _ _
    refine G_widen (cs' := 1) (sl' := z655633.toInt.toNat) (by omega) (by omega) ?_
    refine Gp_put 0 hm655690 he655694 dr_cJ5_ensureCapacityInternal_d00df_35 (gk_J4 D I) (Nat.le_of_ble_eq_true rfl) wr_7_60 rfl rfl rfl (Nat.le_of_ble_eq_true rfl) (fun F655696 e655697 n655698 => ?_)
    have he655699 : F655696 q655580 = .inl (I .byte, n655585, .inl f655584) := (n655698 q655580 (rn_ao he655686 he655694)).trans he655686
    have he655700 : F655696 q655679 = .inl (I .byte, z655633.toInt.toNat, .inl f655680) := (n655698 q655679 (fun h => hq655692 (h ▸ hmq655579))).trans he655687
    have he655701 : F655696 q655579 = .inr (1, [.ref q655679, .int 0, .int p655582, .int p655583]) := e655697
    have hfr655702 : rFr [q655579] P655577 F655578 F655696 := rFr_put hfr655695 n655698
    exact G_vretA dr_cJ5_ensureCapacityInternal_d00df_38 rfl (Nat.le_of_ble_eq_true rfl) (show z655633.toInt.toNat ≤ (2 * n655585 + 2 + p655581.toInt.toNat) by omega) ⟨P655682, F655696, q655679, z655633.toInt.toNat, f655680, rfl, rfl, hsb655693, hfr655702, he655701, he655700, hm655688, (Or.inr hq655692), (Nat.le_of_ble_eq_true rfl), (by omega), bf655680, (by have qa0 : Int32.toInt 0 = 0 := (by decide); omega), (by have qa0 : Int32.toInt 0 = 0 := (by decide); omega), (by have qa0 : Int32.toInt 0 = 0 := (by decide); omega), (by have qa0 : Int32.toInt 0 = 0 := (by decide); omega), (fun R c1 c2 => c2 z655589 z655590 z655591 o655628 z655633 f655680 ez655589 ez655590 ez655591 r655594 bo655628 ht655632 ez655633 ht655681)⟩
/- tr_RAbstractStringBuilder_append2: a.0...count, a.0.value.#, a.0.value.[] -/
def tr_RAbstractStringBuilder_append2 (a1 : Int32) (a0_count : Int32) (a0_value_v : Nat → Int32) (a0_value_n : Nat) (o1 : Int32) (o2 : Nat) (o3 : Nat → Int32) : Prop := ∀ R : (Int32) → (Nat) → (Nat → Int32) → Prop,
  (∀ (x1 : Int32) (x2 : Nat) (x3 : Nat → Int32) (x4 : Int32) (x5 : Int32) (x6 : Nat → Int32), x1.toInt = a0_count.toInt + 1 → tr_RAbstractStringBuilder_ensureCapacityInternal2 x1 a0_value_v a0_value_n x2 x3 → tr_RStringLatin1_canEncode a1 (1 : Int32) → x4.toInt = a0_count.toInt + 1 → x5 = a1.toInt8.toInt32 → x6 = upd x3 a0_count.toNatClampNeg (vp_nar .byte x5) → R x4 x2 x6) →
  R o1 o2 o3
