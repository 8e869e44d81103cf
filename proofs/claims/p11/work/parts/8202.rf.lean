theorem dr_cJ5_setLength_d00df_0 : decode cJ5_setLength_d00df 0 = .ok (.iload_n 1, 1) := by decide +kernel
theorem dr_cJ5_setLength_d00df_1 : decode cJ5_setLength_d00df 1 = .ok (.ifCond .ge 12, 3) := by decide +kernel
theorem dr_cJ5_setLength_d00df_13 : decode cJ5_setLength_d00df 13 = .ok (.aload_n 0, 1) := by decide +kernel
theorem dr_cJ5_setLength_d00df_14 : decode cJ5_setLength_d00df 14 = .ok (.iload_n 1, 1) := by decide +kernel
theorem dr_cJ5_setLength_d00df_15 : decode cJ5_setLength_d00df 15 = .ok (.invokevirtual 100, 3) := by decide +kernel
theorem dr_cJ5_setLength_d00df_18 : decode cJ5_setLength_d00df 18 = .ok (.aload_n 0, 1) := by decide +kernel
theorem dr_cJ5_setLength_d00df_19 : decode cJ5_setLength_d00df 19 = .ok (.getfield 79, 3) := by decide +kernel
theorem dr_cJ5_setLength_d00df_22 : decode cJ5_setLength_d00df 22 = .ok (.iload_n 1, 1) := by decide +kernel
theorem dr_cJ5_setLength_d00df_23 : decode cJ5_setLength_d00df 23 = .ok (.if_icmp .ge 40, 3) := by decide +kernel
theorem dr_cJ5_setLength_d00df_63 : decode cJ5_setLength_d00df 63 = .ok (.aload_n 0, 1) := by decide +kernel
theorem dr_cJ5_setLength_d00df_64 : decode cJ5_setLength_d00df 64 = .ok (.getfield 79, 3) := by decide +kernel
theorem dr_cJ5_setLength_d00df_67 : decode cJ5_setLength_d00df 67 = .ok (.iload_n 1, 1) := by decide +kernel
theorem dr_cJ5_setLength_d00df_68 : decode cJ5_setLength_d00df 68 = .ok (.if_icmp .le 8, 3) := by decide +kernel
theorem dr_cJ5_setLength_d00df_76 : decode cJ5_setLength_d00df 76 = .ok (.aload_n 0, 1) := by decide +kernel
theorem dr_cJ5_setLength_d00df_77 : decode cJ5_setLength_d00df 77 = .ok (.iload_n 1, 1) := by decide +kernel
theorem dr_cJ5_setLength_d00df_78 : decode cJ5_setLength_d00df 78 = .ok (.putfield 79, 3) := by decide +kernel
theorem dr_cJ5_setLength_d00df_81 : decode cJ5_setLength_d00df 81 = .ok (.return_, 1) := by decide +kernel
theorem dr_cJ5_setLength_d00df_71 : decode cJ5_setLength_d00df 71 = .ok (.aload_n 0, 1) := by decide +kernel
theorem dr_cJ5_setLength_d00df_72 : decode cJ5_setLength_d00df 72 = .ok (.iconst 1, 1) := by decide +kernel
theorem dr_cJ5_setLength_d00df_73 : decode cJ5_setLength_d00df 73 = .ok (.putfield 73, 3) := by decide +kernel
theorem wr_7_62 : (Jvm.Cond.fieldLink "java/lang/AbstractStringBuilder" (73 : Nat) "java/lang/AbstractStringBuilder" "maybeLatin1" "Z") ∈ gw := gw_7 62 rfl rfl
theorem dr_cJ4_setLength_d00df_0 : decode cJ4_setLength_d00df 0 = .ok (.aload_n 0, 1) := by decide +kernel
theorem dr_cJ4_setLength_d00df_1 : decode cJ4_setLength_d00df 1 = .ok (.iload_n 1, 1) := by decide +kernel
theorem dr_cJ4_setLength_d00df_2 : decode cJ4_setLength_d00df 2 = .ok (.invokespecial 333, 3) := by decide +kernel
theorem wr_11_129 : (Jvm.Cond.methodLink "java/lang/StringBuilder" (333 : Nat) ({ cls := "java/lang/AbstractStringBuilder", name := "setLength", desc := "(I)V" } : Jvm.MethodName)) ∈ gw := gw_11 129 rfl rfl
theorem wr_11_131 : (Jvm.Cond.code ({ cls := "java/lang/AbstractStringBuilder", name := "setLength", desc := "(I)V" } : Jvm.MethodName) prog_21_method_13_code (2 : Nat) (Option.none : Option Jvm.ClassFile.FieldType)) ∈ gw := gw_11 131 rfl rfl
theorem wr_11_130 : (Jvm.Cond.instanceMethod ({ cls := "java/lang/AbstractStringBuilder", name := "setLength", desc := "(I)V" } : Jvm.MethodName)) ∈ gw := gw_11 130 rfl rfl
theorem wr_11_233 : (Jvm.Cond.sameMethod "java/lang/AbstractStringBuilder" "java/lang/AbstractStringBuilder" "setLength" "(I)V") ∈ gw := gw_11 233 rfl rfl
theorem dr_cJ4_setLength_d00df_5 : decode cJ4_setLength_d00df 5 = .ok (.return_, 1) := by decide +kernel
theorem dr_cJ5_init_d00df_0 : decode cJ5_init_d00df 0 = .ok (.aload_n 0, 1) := by decide +kernel
theorem dr_cJ5_init_d00df_1 : decode cJ5_init_d00df 1 = .ok (.invokespecial 3, 3) := by decide +kernel
theorem wr_7_51 : (Jvm.Cond.methodLink "java/lang/AbstractStringBuilder" (3 : Nat) ({ cls := "java/lang/Object", name := "<init>", desc := "()V" } : Jvm.MethodName)) ∈ gw := gw_7 51 rfl rfl
theorem dr_cJ5_init_d00df_4 : decode cJ5_init_d00df 4 = .ok (.getstatic 18, 3) := by decide +kernel
theorem dr_cJ5_init_d00df_7 : decode cJ5_init_d00df 7 = .ok (.ifCond .eq 18, 3) := by decide +kernel
theorem dr_cJ5_init_d00df_10 : decode cJ5_init_d00df 10 = .ok (.aload_n 0, 1) := by decide +kernel
theorem dr_cJ5_init_d00df_11 : decode cJ5_init_d00df 11 = .ok (.iload_n 1, 1) := by decide +kernel
theorem dr_cJ5_init_d00df_12 : decode cJ5_init_d00df 12 = .ok (.newarray .byte, 2) := by decide +kernel
theorem dr_cJ5_init_d00df_14 : decode cJ5_init_d00df 14 = .ok (.putfield 15, 3) := by decide +kernel
theorem dr_cJ5_init_d00df_17 : decode cJ5_init_d00df 17 = .ok (.aload_n 0, 1) := by decide +kernel
theorem dr_cJ5_init_d00df_18 : decode cJ5_init_d00df 18 = .ok (.iconst 0, 1) := by decide +kernel
theorem dr_cJ5_init_d00df_19 : decode cJ5_init_d00df 19 = .ok (.putfield 22, 3) := by decide +kernel
theorem dr_cJ5_init_d00df_22 : decode cJ5_init_d00df 22 = .ok (.goto 16, 3) := by decide +kernel
theorem dr_cJ5_init_d00df_38 : decode cJ5_init_d00df 38 = .ok (.return_, 1) := by decide +kernel
theorem dr_cJ4_init_da8c8_0 : decode cJ4_init_da8c8 0 = .ok (.aload_n 0, 1) := by decide +kernel
theorem dr_cJ4_init_da8c8_1 : decode cJ4_init_da8c8 1 = .ok (.bipush 16, 2) := by decide +kernel
theorem dr_cJ4_init_da8c8_3 : decode cJ4_init_da8c8 3 = .ok (.invokespecial 1, 3) := by decide +kernel
theorem wr_7_48 : (Jvm.Cond.methodLink "java/lang/StringBuilder" (1 : Nat) ({ cls := "java/lang/AbstractStringBuilder", name := "<init>", desc := "(I)V" } : Jvm.MethodName)) ∈ gw := gw_7 48 rfl rfl
theorem wr_7_50 : (Jvm.Cond.code ({ cls := "java/lang/AbstractStringBuilder", name := "<init>", desc := "(I)V" } : Jvm.MethodName) prog_21_method_2_code (2 : Nat) (Option.none : Option Jvm.ClassFile.FieldType)) ∈ gw := gw_7 50 rfl rfl
theorem wr_7_49 : (Jvm.Cond.instanceMethod ({ cls := "java/lang/AbstractStringBuilder", name := "<init>", desc := "(I)V" } : Jvm.MethodName)) ∈ gw := gw_7 49 rfl rfl
theorem dr_cJ4_init_da8c8_6 : decode cJ4_init_da8c8 6 = .ok (.return_, 1) := by decide +kernel
theorem dr_cJ0_coder_7d493_0 : decode cJ0_coder_7d493 0 = .ok (.getstatic 38, 3) := by decide +kernel
theorem wr_3_65 : (Jvm.Cond.fieldLink "java/lang/String" (38 : Nat) "java/lang/String" "COMPACT_STRINGS" "Z") ∈ gw := gw_3 65 rfl rfl
theorem dr_cJ0_coder_7d493_3 : decode cJ0_coder_7d493 3 = .ok (.ifCond .eq 10, 3) := by decide +kernel
theorem dr_cJ0_coder_7d493_6 : decode cJ0_coder_7d493 6 = .ok (.aload_n 0, 1) := by decide +kernel
theorem dr_cJ0_coder_7d493_7 : decode cJ0_coder_7d493 7 = .ok (.getfield 15, 3) := by decide +kernel
theorem wr_8_183 : (Jvm.Cond.fieldLink "java/lang/String" (15 : Nat) "java/lang/String" "coder" "B") ∈ gw := gw_8 183 rfl rfl
theorem dr_cJ0_coder_7d493_10 : decode cJ0_coder_7d493 10 = .ok (.goto 4, 3) := by decide +kernel
theorem dr_cJ0_coder_7d493_14 : decode cJ0_coder_7d493 14 = .ok (.ireturn, 1) := by decide +kernel
theorem dr_cJ0_length_8abf5_0 : decode cJ0_length_8abf5 0 = .ok (.aload_n 0, 1) := by decide +kernel
theorem dr_cJ0_length_8abf5_1 : decode cJ0_length_8abf5 1 = .ok (.getfield 9, 3) := by decide +kernel
theorem wr_8_182 : (Jvm.Cond.fieldLink "java/lang/String" (9 : Nat) "java/lang/String" "value" "[B") ∈ gw := gw_8 182 rfl rfl
theorem dr_cJ0_length_8abf5_4 : decode cJ0_length_8abf5 4 = .ok (.arraylength, 1) := by decide +kernel
theorem dr_cJ0_length_8abf5_5 : decode cJ0_length_8abf5 5 = .ok (.aload_n 0, 1) := by decide +kernel
theorem dr_cJ0_length_8abf5_6 : decode cJ0_length_8abf5 6 = .ok (.invokevirtual 335, 3) := by decide +kernel
theorem wr_3_61 : (Jvm.Cond.methodLink "java/lang/String" (335 : Nat) ({ cls := "java/lang/String", name := "coder", desc := "()B" } : Jvm.MethodName)) ∈ gw := gw_3 61 rfl rfl
theorem wr_3_64 : (Jvm.Cond.code ({ cls := "java/lang/String", name := "coder", desc := "()B" } : Jvm.MethodName) prog_34_method_152_code (1 : Nat) (Option.some Jvm.ClassFile.FieldType.byte)) ∈ gw := gw_3 64 rfl rfl
theorem wr_3_62 : (Jvm.Cond.instanceMethod ({ cls := "java/lang/String", name := "coder", desc := "()B" } : Jvm.MethodName)) ∈ gw := gw_3 62 rfl rfl
theorem wr_3_63 : (Jvm.Cond.selects "java/lang/String" ({ cls := "java/lang/String", name := "coder", desc := "()B" } : Jvm.MethodName) ({ cls := "java/lang/String", name := "coder", desc := "()B" } : Jvm.MethodName)) ∈ gw := gw_3 63 rfl rfl
theorem dr_cJ0_length_8abf5_9 : decode cJ0_length_8abf5 9 = .ok (.ishr, 1) := by decide +kernel
theorem dr_cJ0_length_8abf5_10 : decode cJ0_length_8abf5 10 = .ok (.ireturn, 1) := by decide +kernel
theorem dr_cJ5_inflateIfNeededFor_a7421_0 : decode cJ5_inflateIfNeededFor_a7421 0 = .ok (.getstatic 18, 3) := by decide +kernel
theorem dr_cJ5_inflateIfNeededFor_a7421_3 : decode cJ5_inflateIfNeededFor_a7421 3 = .ok (.ifCond .eq 18, 3) := by decide +kernel
theorem dr_cJ5_inflateIfNeededFor_a7421_6 : decode cJ5_inflateIfNeededFor_a7421 6 = .ok (.aload_n 0, 1) := by decide +kernel
theorem dr_cJ5_inflateIfNeededFor_a7421_7 : decode cJ5_inflateIfNeededFor_a7421 7 = .ok (.getfield 22, 3) := by decide +kernel
theorem dr_cJ5_inflateIfNeededFor_a7421_10 : decode cJ5_inflateIfNeededFor_a7421 10 = .ok (.aload_n 1, 1) := by decide +kernel
theorem dr_cJ5_inflateIfNeededFor_a7421_11 : decode cJ5_inflateIfNeededFor_a7421 11 = .ok (.invokevirtual 40, 3) := by decide +kernel
theorem wr_8_163 : (Jvm.Cond.methodLink "java/lang/AbstractStringBuilder" (40 : Nat) ({ cls := "java/lang/String", name := "coder", desc := "()B" } : Jvm.MethodName)) ∈ gw := gw_8 163 rfl rfl
theorem dr_cJ5_inflateIfNeededFor_a7421_14 : decode cJ5_inflateIfNeededFor_a7421 14 = .ok (.if_icmp .eq 7, 3) := by decide +kernel
theorem dr_cJ5_inflateIfNeededFor_a7421_21 : decode cJ5_inflateIfNeededFor_a7421 21 = .ok (.return_, 1) := by decide +kernel
theorem dr_cJ0_getBytes_840e7_0 : decode cJ0_getBytes_840e7 0 = .ok (.aload_n 0, 1) := by decide +kernel
theorem dr_cJ0_getBytes_840e7_1 : decode cJ0_getBytes_840e7 1 = .ok (.invokevirtual 335, 3) := by decide +kernel
theorem dr_cJ0_getBytes_840e7_4 : decode cJ0_getBytes_840e7 4 = .ok (.iload_n 3, 1) := by decide +kernel
theorem dr_cJ0_getBytes_840e7_5 : decode cJ0_getBytes_840e7 5 = .ok (.if_icmp .ne 23, 3) := by decide +kernel
theorem dr_cJ0_getBytes_840e7_8 : decode cJ0_getBytes_840e7 8 = .ok (.aload_n 0, 1) := by decide +kernel
theorem dr_cJ0_getBytes_840e7_9 : decode cJ0_getBytes_840e7 9 = .ok (.getfield 9, 3) := by decide +kernel
theorem dr_cJ0_getBytes_840e7_12 : decode cJ0_getBytes_840e7 12 = .ok (.iconst 0, 1) := by decide +kernel
theorem dr_cJ0_getBytes_840e7_13 : decode cJ0_getBytes_840e7 13 = .ok (.aload_n 1, 1) := by decide +kernel
theorem dr_cJ0_getBytes_840e7_14 : decode cJ0_getBytes_840e7 14 = .ok (.iload_n 2, 1) := by decide +kernel
theorem dr_cJ0_getBytes_840e7_15 : decode cJ0_getBytes_840e7 15 = .ok (.iload_n 3, 1) := by decide +kernel
theorem dr_cJ0_getBytes_840e7_16 : decode cJ0_getBytes_840e7 16 = .ok (.ishl, 1) := by decide +kernel
theorem dr_cJ0_getBytes_840e7_17 : decode cJ0_getBytes_840e7 17 = .ok (.aload_n 0, 1) := by decide +kernel
theorem dr_cJ0_getBytes_840e7_18 : decode cJ0_getBytes_840e7 18 = .ok (.getfield 9, 3) := by decide +kernel
theorem dr_cJ0_getBytes_840e7_21 : decode cJ0_getBytes_840e7 21 = .ok (.arraylength, 1) := by decide +kernel
theorem dr_cJ0_getBytes_840e7_22 : decode cJ0_getBytes_840e7 22 = .ok (.invokestatic 212, 3) := by decide +kernel
theorem wr_8_168 : (Jvm.Cond.methodLink "java/lang/String" (212 : Nat) ({ cls := "java/lang/System", name := "arraycopy", desc := "(Ljava/lang/Object;ILjava/lang/Object;II)V" } : Jvm.MethodName)) ∈ gw := gw_8 168 rfl rfl
theorem dr_cJ0_getBytes_840e7_25 : decode cJ0_getBytes_840e7 25 = .ok (.goto 18, 3) := by decide +kernel
theorem dr_cJ0_getBytes_840e7_43 : decode cJ0_getBytes_840e7 43 = .ok (.return_, 1) := by decide +kernel
theorem dr_cJ5_putStringAt_47b60_0 : decode cJ5_putStringAt_47b60 0 = .ok (.aload_n 0, 1) := by decide +kernel
theorem dr_cJ5_putStringAt_47b60_1 : decode cJ5_putStringAt_47b60 1 = .ok (.aload_n 2, 1) := by decide +kernel
theorem dr_cJ5_putStringAt_47b60_2 : decode cJ5_putStringAt_47b60 2 = .ok (.invokevirtual 397, 3) := by decide +kernel
theorem wr_8_159 : (Jvm.Cond.methodLink "java/lang/AbstractStringBuilder" (397 : Nat) ({ cls := "java/lang/AbstractStringBuilder", name := "inflateIfNeededFor", desc := "(Ljava/lang/String;)V" } : Jvm.MethodName)) ∈ gw := gw_8 159 rfl rfl
theorem wr_8_162 : (Jvm.Cond.code ({ cls := "java/lang/AbstractStringBuilder", name := "inflateIfNeededFor", desc := "(Ljava/lang/String;)V" } : Jvm.MethodName) prog_21_method_71_code (2 : Nat) (Option.none : Option Jvm.ClassFile.FieldType)) ∈ gw := gw_8 162 rfl rfl
theorem wr_8_161 : (Jvm.Cond.instanceMethod ({ cls := "java/lang/AbstractStringBuilder", name := "inflateIfNeededFor", desc := "(Ljava/lang/String;)V" } : Jvm.MethodName)) ∈ gw := gw_8 161 rfl rfl
theorem wr_s_5 : Cond.selects "java/lang/StringBuilder" ⟨"java/lang/AbstractStringBuilder", "inflateIfNeededFor", "(Ljava/lang/String;)V"⟩ ⟨"java/lang/AbstractStringBuilder", "inflateIfNeededFor", "(Ljava/lang/String;)V"⟩ ∈ gw := gw_s _ 5 rfl rfl rfl
theorem dr_cJ5_putStringAt_47b60_5 : decode cJ5_putStringAt_47b60 5 = .ok (.aload_n 2, 1) := by decide +kernel
theorem dr_cJ5_putStringAt_47b60_6 : decode cJ5_putStringAt_47b60 6 = .ok (.aload_n 0, 1) := by decide +kernel
theorem dr_cJ5_putStringAt_47b60_7 : decode cJ5_putStringAt_47b60 7 = .ok (.getfield 15, 3) := by decide +kernel
theorem dr_cJ5_putStringAt_47b60_10 : decode cJ5_putStringAt_47b60 10 = .ok (.iload_n 1, 1) := by decide +kernel
theorem dr_cJ5_putStringAt_47b60_11 : decode cJ5_putStringAt_47b60 11 = .ok (.aload_n 0, 1) := by decide +kernel
theorem dr_cJ5_putStringAt_47b60_12 : decode cJ5_putStringAt_47b60 12 = .ok (.getfield 22, 3) := by decide +kernel
theorem dr_cJ5_putStringAt_47b60_15 : decode cJ5_putStringAt_47b60 15 = .ok (.invokevirtual 399, 3) := by decide +kernel
theorem wr_8_164 : (Jvm.Cond.methodLink "java/lang/AbstractStringBuilder" (399 : Nat) ({ cls := "java/lang/String", name := "getBytes", desc := "([BIB)V" } : Jvm.MethodName)) ∈ gw := gw_8 164 rfl rfl
theorem wr_8_167 : (Jvm.Cond.code ({ cls := "java/lang/String", name := "getBytes", desc := "([BIB)V" } : Jvm.MethodName) prog_34_method_147_code (4 : Nat) (Option.none : Option Jvm.ClassFile.FieldType)) ∈ gw := gw_8 167 rfl rfl
theorem wr_8_165 : (Jvm.Cond.instanceMethod ({ cls := "java/lang/String", name := "getBytes", desc := "([BIB)V" } : Jvm.MethodName)) ∈ gw := gw_8 165 rfl rfl
theorem wr_8_166 : (Jvm.Cond.selects "java/lang/String" ({ cls := "java/lang/String", name := "getBytes", desc := "([BIB)V" } : Jvm.MethodName) ({ cls := "java/lang/String", name := "getBytes", desc := "([BIB)V" } : Jvm.MethodName)) ∈ gw := gw_8 166 rfl rfl
theorem dr_cJ5_putStringAt_47b60_18 : decode cJ5_putStringAt_47b60 18 = .ok (.return_, 1) := by decide +kernel
theorem dr_cJ5_append_cf1ce_0 : decode cJ5_append_cf1ce 0 = .ok (.aload_n 1, 1) := by decide +kernel
theorem dr_cJ5_append_cf1ce_1 : decode cJ5_append_cf1ce 1 = .ok (.ifnonnull 8, 3) := by decide +kernel
theorem dr_cJ5_append_cf1ce_9 : decode cJ5_append_cf1ce 9 = .ok (.aload_n 1, 1) := by decide +kernel
theorem dr_cJ5_append_cf1ce_10 : decode cJ5_append_cf1ce 10 = .ok (.invokevirtual 32, 3) := by decide +kernel
theorem wr_8_154 : (Jvm.Cond.methodLink "java/lang/AbstractStringBuilder" (32 : Nat) ({ cls := "java/lang/String", name := "length", desc := "()I" } : Jvm.MethodName)) ∈ gw := gw_8 154 rfl rfl
theorem wr_3_60 : (Jvm.Cond.code ({ cls := "java/lang/String", name := "length", desc := "()I" } : Jvm.MethodName) prog_34_method_54_code (1 : Nat) (Option.some Jvm.ClassFile.FieldType.int)) ∈ gw := gw_3 60 rfl rfl
theorem wr_3_58 : (Jvm.Cond.instanceMethod ({ cls := "java/lang/String", name := "length", desc := "()I" } : Jvm.MethodName)) ∈ gw := gw_3 58 rfl rfl
theorem wr_3_59 : (Jvm.Cond.selects "java/lang/String" ({ cls := "java/lang/String", name := "length", desc := "()I" } : Jvm.MethodName) ({ cls := "java/lang/String", name := "length", desc := "()I" } : Jvm.MethodName)) ∈ gw := gw_3 59 rfl rfl
theorem dr_cJ5_append_cf1ce_13 : decode cJ5_append_cf1ce 13 = .ok (.istore_n 2, 1) := by decide +kernel
theorem dr_cJ5_append_cf1ce_14 : decode cJ5_append_cf1ce 14 = .ok (.aload_n 0, 1) := by decide +kernel
theorem dr_cJ5_append_cf1ce_15 : decode cJ5_append_cf1ce 15 = .ok (.aload_n 0, 1) := by decide +kernel
theorem dr_cJ5_append_cf1ce_16 : decode cJ5_append_cf1ce 16 = .ok (.getfield 79, 3) := by decide +kernel
theorem dr_cJ5_append_cf1ce_19 : decode cJ5_append_cf1ce 19 = .ok (.iload_n 2, 1) := by decide +kernel
theorem dr_cJ5_append_cf1ce_20 : decode cJ5_append_cf1ce 20 = .ok (.iadd, 1) := by decide +kernel
theorem dr_cJ5_append_cf1ce_21 : decode cJ5_append_cf1ce 21 = .ok (.invokevirtual 100, 3) := by decide +kernel
theorem dr_cJ5_append_cf1ce_24 : decode cJ5_append_cf1ce 24 = .ok (.aload_n 0, 1) := by decide +kernel
theorem dr_cJ5_append_cf1ce_25 : decode cJ5_append_cf1ce 25 = .ok (.aload_n 0, 1) := by decide +kernel
theorem dr_cJ5_append_cf1ce_26 : decode cJ5_append_cf1ce 26 = .ok (.getfield 79, 3) := by decide +kernel
theorem dr_cJ5_append_cf1ce_29 : decode cJ5_append_cf1ce 29 = .ok (.aload_n 1, 1) := by decide +kernel
theorem dr_cJ5_append_cf1ce_30 : decode cJ5_append_cf1ce 30 = .ok (.invokevirtual 208, 3) := by decide +kernel
theorem wr_8_155 : (Jvm.Cond.methodLink "java/lang/AbstractStringBuilder" (208 : Nat) ({ cls := "java/lang/AbstractStringBuilder", name := "putStringAt", desc := "(ILjava/lang/String;)V" } : Jvm.MethodName)) ∈ gw := gw_8 155 rfl rfl
theorem wr_8_158 : (Jvm.Cond.code ({ cls := "java/lang/AbstractStringBuilder", name := "putStringAt", desc := "(ILjava/lang/String;)V" } : Jvm.MethodName) prog_21_method_73_code (3 : Nat) (Option.none : Option Jvm.ClassFile.FieldType)) ∈ gw := gw_8 158 rfl rfl
theorem wr_8_157 : (Jvm.Cond.instanceMethod ({ cls := "java/lang/AbstractStringBuilder", name := "putStringAt", desc := "(ILjava/lang/String;)V" } : Jvm.MethodName)) ∈ gw := gw_8 157 rfl rfl
theorem wr_s_4 : Cond.selects "java/lang/StringBuilder" ⟨"java/lang/AbstractStringBuilder", "putStringAt", "(ILjava/lang/String;)V"⟩ ⟨"java/lang/AbstractStringBuilder", "putStringAt", "(ILjava/lang/String;)V"⟩ ∈ gw := gw_s _ 4 rfl rfl rfl
theorem dr_cJ5_append_cf1ce_33 : decode cJ5_append_cf1ce 33 = .ok (.aload_n 0, 1) := by decide +kernel
theorem dr_cJ5_append_cf1ce_34 : decode cJ5_append_cf1ce 34 = .ok (.dup, 1) := by decide +kernel
theorem dr_cJ5_append_cf1ce_35 : decode cJ5_append_cf1ce 35 = .ok (.getfield 79, 3) := by decide +kernel
theorem dr_cJ5_append_cf1ce_38 : decode cJ5_append_cf1ce 38 = .ok (.iload_n 2, 1) := by decide +kernel
theorem dr_cJ5_append_cf1ce_39 : decode cJ5_append_cf1ce 39 = .ok (.iadd, 1) := by decide +kernel
theorem dr_cJ5_append_cf1ce_40 : decode cJ5_append_cf1ce 40 = .ok (.putfield 79, 3) := by decide +kernel
theorem dr_cJ5_append_cf1ce_43 : decode cJ5_append_cf1ce 43 = .ok (.aload_n 0, 1) := by decide +kernel
theorem dr_cJ5_append_cf1ce_44 : decode cJ5_append_cf1ce 44 = .ok (.areturn, 1) := by decide +kernel
abbrev ky_658809_AbstractStringBuilder_append : gKey := (cJ5_append_3fe6f, 2, "java/lang/AbstractStringBuilder", (some (FieldType.object "java/lang/AbstractStringBuilder")), [], "append", fun _ _ => True)
def pp_658809_AbstractStringBuilder_append (D : va_G) (I : FieldType → ClassId) (P658797 : List Nat) (F658798 : Nat → va_E) (q658799 : Nat) (q658800 : Nat) (p658801 : Int32) (p658802 : Int32) (p658803 : Int32) (f658804 : Nat → Int32) (n658805 : Nat) : Option Value → va_W → Nat → Nat → Prop := fun r w dc ds => ∃ (P659005 : List Nat) (F659006 : Nat → va_E) (o659001 : Int32) (q659002 : Nat) (n659003 : Nat) (f659004 : Nat → Int32), r = some (.ref q658799) ∧ w = va_pl P659005 F659006 ∧ rSub P658797 P659005 ∧ rFr [q658800, q658799] P658797 F658798 F659006 ∧ F659006 q658799 = .inr (1, [.ref q659002, .int 0, .int p658802, .int o659001]) ∧ F659006 q659002 = .inl (I .byte, n659003, .inl f659004) ∧ q659002 ∈ P659005 ∧ (q659002 = q658800 ∨ q659002 ∉ P658797) ∧ dc ≤ 1 ∧ ds ≤ 2 * (n659003 - n658805) ∧ gB o659001 1 16777216 ∧ gF f659004 (-128) 127 ∧ o659001.toInt = p658803.toInt + 1 ∧ o659001.toInt ≤ (n659003 : Int) ∧ (n658805 : Int) ≤ (n659003 : Int) ∧ (n659003 : Int) ≤ 2 * (n658805 : Int) + 2 ∧ tr_RAbstractStringBuilder_append2 p658801 p658803 f658804 n658805 o659001 n659003 f659004
set_option maxRecDepth 100000 in
set_option maxHeartbeats 4000000 in
theorem cp_658809_AbstractStringBuilder_append (l : Launch) (hl0 : l.stackTraces = false) (D : va_G) (I : FieldType → ClassId) (P658797 : List Nat) (F658798 : Nat → va_E) (q658799 : Nat) (q658800 : Nat) (p658801 : Int32) (p658802 : Int32) (p658803 : Int32) (f658804 : Nat → Int32) (n658805 : Nat) (hmq658799 : q658799 ∈ P658797) (hmq658800 : q658800 ∈ P658797) (heq658799 : F658798 q658799 = .inr (1, [.ref q658800, .int 0, .int p658802, .int p658803])) (heq658800 : F658798 q658800 = .inl (I .byte, n658805, .inl f658804)) (bp658801 : gB p658801 0 255) (bp658802 : gB p658802 0 1) (bp658803 : gB p658803 0 16777216) (bf658804 : gF f658804 (-128) 127) (x658806 : (n658805 : Int) ≤ 8388608 - 100000) (x658807 : p658803.toInt ≤ (n658805 : Int)) (x658808 : ((n658805 : Int) ≤ 16777216)) : CtA (gV D I) l yJ5_append_3fe6f cJ5_append_3fe6f 2 (some (FieldType.object "java/lang/AbstractStringBuilder")) 4 84 1 (4 * n658805 + 8) [.ref q658799, .int p658801] (va_pl P658797 F658798) (pp_658809_AbstractStringBuilder_append D I P658797 F658798 q658799 q658800 p658801 p658802 p658803 f658804 n658805) gNA := by
  refine CtA_ofF hl0 (by decide +kernel) (Nat.le_of_ble_eq_true rfl) ?_
  refine G_aload_n 0 dr_cJ5_append_3fe6f_0 rfl ?_
  refine G_aload_n 0 dr_cJ5_append_3fe6f_1 rfl ?_
  refine Gp_get 3 hmq658799 heq658799 dr_cJ5_append_3fe6f_2 (gk_J4 D I) (Nat.le_of_ble_eq_true rfl) wr_7_64 rfl ?_
  refine G_iconst 1 dr_cJ5_append_3fe6f_5 (by decide +kernel) ?_
  refine G_iadd dr_cJ5_append_3fe6f_6 (G_nam fun z658810 hz658810 => ?_)
  have ez658810 : z658810.toInt = p658803.toInt + 1 := by rw [gI_add hz658810 bp658803 (gBl (show Int32.toInt 1 = 1 by decide)) (by decide) (by decide), show Int32.toInt 1 = 1 from by decide]
  have bz658810 : gB z658810 1 16777217 := gB_add (gI_add hz658810 bp658803 (gBl (show Int32.toInt 1 = 1 by decide)) (by decide) (by decide)) bp658803 (gBl (show Int32.toInt 1 = 1 by decide)) (by decide) (by decide)
  refine Gw_callVB (As := [.int z658810]) (gV_ok D I) (cp_658822_AbstractStringBuilder_ensureCapacityInternal l hl0 D I P658797 F658798 q658799 q658800 z658810 p658802 p658803 f658804 n658805 hmq658799 hmq658800 heq658799 heq658800 ⟨by omega, by omega⟩ bp658802 bp658803 bf658804 (by have qa0 : Int32.toInt 0 = 0 := (by decide); omega) (by have qa0 : Int32.toInt 0 = 0 := (by decide); omega)) dr_cJ5_append_3fe6f_7 ⟨wr_8_4, wr_1_19, wr_8_7, by decide, rfl, (Nat.le_of_ble_eq_true rfl), (Nat.le_of_ble_eq_true rfl)⟩ wr_8_6 wr_s_0 hmq658799 heq658799 rfl (show 0 + 1 ≤ 1 by first | omega | decide) (show 0 + (2 * n658805 + 2 + z658810.toInt.toNat) ≤ (4 * n658805 + 8) by first | omega | decide) (Nat.le_of_ble_eq_true rfl) (fun r658945 w658946 dc658942 ds658943 hp658944 => ?_) (fun _ _ _ _ _ z => z.elim)
  obtain ⟨P658955, F658956, q658947, n658948, f658949, rfl, rfl, hsb658957, hfr658958, he658959, he658960, hm658961, hq658962, hdc, hds, bf658949, x658950, x658951, x658952, x658953, ht658954⟩ := hp658944
  have hm658963 : q658799 ∈ P658955 := hsb658957 q658799 hmq658799
  have hm658964 : q658800 ∈ P658955 := hsb658957 q658800 hmq658800
  have hor658965 : q658947 = q658800 ∨ q658947 ∉ P658797 := hq658962.elim Or.inl (fun n => Or.inr (fun z => n ((rSub_rf (P := P658797)) _ z)))
  have hsb658966 : rSub P658797 P658955 := rSub_tr (rSub_rf (P := P658797)) hsb658957
  have he658967 : F658956 q658800 = .inl (I .byte, n658805, .inl f658804) := (hfr658958 q658800 hmq658800 (nm_c (rn_ao heq658800 heq658799) nm_n)).trans heq658800
  have hfr658968 : rFr [q658799] P658797 F658798 F658956 := rFr_call (rSub_rf (P := P658797)) (rFr_rf (W := []) (P := P658797) (F := F658798)) hfr658958 (fun b hb hn => ⟨nm_n, (nm_c (fun e => hn (e ▸ List.mem_cons_self)) nm_n)⟩)
  change G _ _ _ _ _ _ _ _ _ _ _
  refine G_widen (cs' := 1) (sl' := 2 * (n658948 - n658805)) (by omega) (by omega) ?_
  refine G_aload_n 0 dr_cJ5_append_3fe6f_10 rfl ?_
  refine Gw_callVB (As := []) (gV_ok D I) (cp_658723_AbstractStringBuilder_isLatin1 l hl0 D I P658955 F658956 q658799 q658947 p658802 p658803 f658949 n658948 hm658963 hm658961 he658959 he658960 bp658802 bp658803 bf658949 (by have qa0 : Int32.toInt 0 = 0 := (by decide); omega)) dr_cJ5_append_3fe6f_11 ⟨wr_8_33, wr_1_19, wr_8_37, by decide, rfl, (Nat.le_of_ble_eq_true rfl), (Nat.le_of_ble_eq_true rfl)⟩ wr_8_34 wr_8_36 hm658963 he658959 rfl (show 1 + 0 ≤ 1 by first | omega | decide) (show 2 * (n658948 - n658805) + 0 ≤ (4 * n658805 + 8) by first | omega | decide) (Nat.le_of_ble_eq_true rfl) (fun r658972 w658973 dc658969 ds658970 hp658971 => ?_) (fun _ _ _ _ _ z => z.elim)
  obtain ⟨rfl, rfl, hdc, hds⟩ := hp658971
  change G _ _ _ _ _ _ _ (.int 1 :: _) _ _ _
  refine G_widen (cs' := 1) (sl' := 2 * (n658948 - n658805) + 0) (by omega) (by omega) ?_
  refine G_if_eq 45 dr_cJ5_append_3fe6f_14 (by decide +kernel) (fun hc => absurd hc (by decide)) (fun _ => ?_)
  refine G_iload_n 1 dr_cJ5_append_3fe6f_17 rfl ?_
  refine Gw_callS (As := [.int p658801]) (gV_ok D I) (cp_658732_StringLatin1_canEncode l hl0 D I P658955 F658956 p658801 (gB_w bp658801 (by decide) (by decide))) dr_cJ5_append_3fe6f_18 ⟨wr_8_38, wr_1_28, wr_8_40, by decide, rfl, (Nat.le_of_ble_eq_true rfl), (Nat.le_of_ble_eq_true rfl)⟩ wr_8_39 (show 1 + 0 ≤ 1 by first | omega | decide) (show 2 * (n658948 - n658805) + 0 + 0 ≤ (4 * n658805 + 8) by first | omega | decide) (Nat.le_of_ble_eq_true rfl) (fun r658977 w658978 dc658974 ds658975 hp658976 => ?_) (fun _ _ _ _ _ z => z.elim)
  rcases hp658976 with ⟨rfl, rfl, hdc, hds, r658979, r658980⟩ | ⟨rfl, rfl, hdc, hds, r658981, r658982⟩
  · exact absurd (show False by omega) not_false
  · change G _ _ _ _ _ _ _ (.int 1 :: _) _ _ _
    refine G_widen (cs' := 1) (sl' := 2 * (n658948 - n658805) + 0 + 0) (by omega) (by omega) ?_
    refine G_if_eq 45 dr_cJ5_append_3fe6f_21 (by decide +kernel) (fun hc => absurd hc (by decide)) (fun _ => ?_)
    refine G_aload_n 0 dr_cJ5_append_3fe6f_24 rfl ?_
    refine Gp_get 0 hm658963 he658959 dr_cJ5_append_3fe6f_25 (gk_J4 D I) (Nat.le_of_ble_eq_true rfl) wr_7_60 rfl ?_
    refine G_aload_n 0 dr_cJ5_append_3fe6f_28 rfl ?_
    refine G_dup dr_cJ5_append_3fe6f_29 rfl ?_
    refine Gp_get 3 hm658963 he658959 dr_cJ5_append_3fe6f_30 (gk_J4 D I) (Nat.le_of_ble_eq_true rfl) wr_7_64 rfl ?_
    refine G_dup_x1 dr_cJ5_append_3fe6f_33 rfl rfl ?_
    refine G_iconst 1 dr_cJ5_append_3fe6f_34 (by decide +kernel) ?_
    refine G_iadd dr_cJ5_append_3fe6f_35 (G_nam fun z658984 hz658984 => ?_)
    have ez658984 : z658984.toInt = p658803.toInt + 1 := by rw [gI_add hz658984 bp658803 (gBl (show Int32.toInt 1 = 1 by decide)) (by decide) (by decide), show Int32.toInt 1 = 1 from by decide]
    have bz658984 : gB z658984 1 16777217 := gB_add (gI_add hz658984 bp658803 (gBl (show Int32.toInt 1 = 1 by decide)) (by decide) (by decide)) bp658803 (gBl (show Int32.toInt 1 = 1 by decide)) (by decide) (by decide)
    refine Gp_put 3 hm658963 he658959 dr_cJ5_append_3fe6f_36 (gk_J4 D I) (Nat.le_of_ble_eq_true rfl) wr_7_64 rfl rfl rfl (Nat.le_of_ble_eq_true rfl) (fun F658985 e658986 n658987 => ?_)
    have he658988 : F658985 q658800 = .inl (I .byte, n658805, .inl f658804) := (n658987 q658800 (rn_ao he658967 he658959)).trans he658967
    have he658989 : F658985 q658947 = .inl (I .byte, n658948, .inl f658949) := (n658987 q658947 (rn_ao he658960 he658959)).trans he658960
    have he658990 : F658985 q658799 = .inr (1, [.ref q658947, .int 0, .int p658802, .int z658984]) := e658986
    have hfr658991 : rFr [q658799] P658797 F658798 F658985 := rFr_put' List.mem_cons_self hfr658968 n658987
    refine G_iload_n 1 dr_cJ5_append_3fe6f_39 rfl ?_
    refine G_i2b dr_cJ5_append_3fe6f_40 (G_nam fun z658992 hz658992 => ?_)
    have bz658992 : gB z658992 (-128) 127 := gB_i2b hz658992
    refine Gp_bast 1 hm658961 he658989 dr_cJ5_append_3fe6f_41 rfl (gB_inr (by omega) (by omega)) (fun F658993 e658994 n658995 => ?_)
    obtain ⟨f658996, hf658996⟩ : ∃ z, z = upd f658949 p658803.toNatClampNeg (vp_nar .byte z658992) := ⟨_, rfl⟩
    rw [← hf658996] at e658994
    have he658998 : F658993 q658799 = .inr (1, [.ref q658947, .int 0, .int p658802, .int z658984]) := (n658995 q658799 (rn_oa he658990 he658989)).trans he658990
    have he658999 : F658993 q658947 = .inl (I .byte, n658948, .inl f658996) := e658994
    have hfr659000 : rFr [q658800, q658799] P658797 F658798 F658993 := rFr_eit hor658965 hfr658991 n658995
    have bf658996 : gF f658996 (-128) 127 := gF_upd hf658996 bf658949 gB_byte
    refine G_goto 75 dr_cJ5_append_3fe6f_42 (by decide +kernel) ?_
    refine G_aload_n 0 dr_cJ5_append_3fe6f_75 rfl ?_
    exact G_aretA (FieldType.object "java/lang/AbstractStringBuilder") dr_cJ5_append_3fe6f_76 rfl (by first | exact Or.inl ⟨_, rfl⟩ | exact Or.inr ⟨_, rfl⟩) (Or.inr ⟨_, rfl⟩) (Nat.le_of_ble_eq_true rfl) (show 2 * (n658948 - n658805) + 0 + 0 ≤ (4 * n658805 + 8) by omega) ⟨P658955, F658993, z658984, q658947, n658948, f658996, rfl, rfl, hsb658966, hfr659000, he658998, he658999, hm658961, hor658965, (Nat.le_of_ble_eq_true rfl), (by omega), ⟨by omega, by omega⟩, bf658996, (by have qa0 : Int32.toInt 0 = 0 := (by decide); omega), (by have qa0 : Int32.toInt 0 = 0 := (by decide); omega), (by have qa0 : Int32.toInt 0 = 0 := (by decide); omega), (by have qa0 : Int32.toInt 0 = 0 := (by decide); omega), (fun R c1 => c1 z658810 n658948 f658949 z658984 z658992 f658996 ez658810 ht658954 r658982 ez658984 hz658992 hf658996)⟩
/- tr_RStringBuilder_append2: a.0...count, a.0.value.#, a.0.value.[] -/
def tr_RStringBuilder_append2 (a1 : Int32) (a0_count : Int32) (a0_value_v : Nat → Int32) (a0_value_n : Nat) (o1 : Int32) (o2 : Nat) (o3 : Nat → Int32) : Prop := ∀ R : (Int32) → (Nat) → (Nat → Int32) → Prop,
  (∀ (x1 : Int32) (x2 : Nat) (x3 : Nat → Int32), gB x1 1 16777216 → tr_RAbstractStringBuilder_append2 a1 a0_count a0_value_v a0_value_n x1 x2 x3 → R x1 x2 x3) →
  R o1 o2 o3
abbrev ky_658796_StringBuilder_append : gKey := (cJ4_append_cf468, 2, "java/lang/StringBuilder", (some (FieldType.object "java/lang/StringBuilder")), [], "append", fun _ _ => True)
def pp_658796_StringBuilder_append (D : va_G) (I : FieldType → ClassId) (P658784 : List Nat) (F658785 : Nat → va_E) (q658786 : Nat) (q658787 : Nat) (p658788 : Int32) (p658789 : Int32) (p658790 : Int32) (f658791 : Nat → Int32) (n658792 : Nat) : Option Value → va_W → Nat → Nat → Prop := fun r w dc ds => ∃ (P659038 : List Nat) (F659039 : Nat → va_E) (o659034 : Int32) (q659035 : Nat) (n659036 : Nat) (f659037 : Nat → Int32), r = some (.ref q658786) ∧ w = va_pl P659038 F659039 ∧ rSub P658784 P659038 ∧ rFr [q658787, q658786] P658784 F658785 F659039 ∧ F659039 q658786 = .inr (1, [.ref q659035, .int 0, .int p658789, .int o659034]) ∧ F659039 q659035 = .inl (I .byte, n659036, .inl f659037) ∧ q659035 ∈ P659038 ∧ (q659035 = q658787 ∨ q659035 ∉ P658784) ∧ dc ≤ 1 ∧ ds ≤ 2 * (n659036 - n658792) ∧ gB o659034 1 16777216 ∧ gF f659037 (-128) 127 ∧ o659034.toInt = p658790.toInt + 1 ∧ o659034.toInt ≤ (n659036 : Int) ∧ (n658792 : Int) ≤ (n659036 : Int) ∧ (n659036 : Int) ≤ 2 * (n658792 : Int) + 2 ∧ tr_RStringBuilder_append2 p658788 p658790 f658791 n658792 o659034 n659036 f659037
set_option maxRecDepth 100000 in
set_option maxHeartbeats 4000000 in
theorem cp_658796_StringBuilder_append (l : Launch) (hl0 : l.stackTraces = false) (D : va_G) (I : FieldType → ClassId) (P658784 : List Nat) (F658785 : Nat → va_E) (q658786 : Nat) (q658787 : Nat) (p658788 : Int32) (p658789 : Int32) (p658790 : Int32) (f658791 : Nat → Int32) (n658792 : Nat) (hmq658786 : q658786 ∈ P658784) (hmq658787 : q658787 ∈ P658784) (heq658786 : F658785 q658786 = .inr (1, [.ref q658787, .int 0, .int p658789, .int p658790])) (heq658787 : F658785 q658787 = .inl (I .byte, n658792, .inl f658791)) (bp658788 : gB p658788 0 255) (bp658789 : gB p658789 0 1) (bp658790 : gB p658790 0 16777216) (bf658791 : gF f658791 (-128) 127) (x658793 : (n658792 : Int) ≤ 8388608 - 100000) (x658794 : p658790.toInt ≤ (n658792 : Int)) (x658795 : ((n658792 : Int) ≤ 16777216)) : CtA (gV D I) l yJ4_append_cf468 cJ4_append_cf468 2 (some (FieldType.object "java/lang/StringBuilder")) 5 105 1 (4 * n658792 + 8) [.ref q658786, .int p658788] (va_pl P658784 F658785) (pp_658796_StringBuilder_append D I P658784 F658785 q658786 q658787 p658788 p658789 p658790 f658791 n658792) gNA := by
  refine CtA_ofF hl0 (by decide +kernel) (Nat.le_of_ble_eq_true rfl) ?_
  refine G_aload_n 0 dr_cJ4_append_cf468_0 rfl ?_
  refine G_iload_n 1 dr_cJ4_append_cf468_1 rfl ?_
  refine Gw_callSU (As := [.int p658788]) (gV_ok D I) (cp_658809_AbstractStringBuilder_append l hl0 D I P658784 F658785 q658786 q658787 p658788 p658789 p658790 f658791 n658792 hmq658786 hmq658787 heq658786 heq658787 bp658788 bp658789 bp658790 bf658791 (by have qa0 : Int32.toInt 0 = 0 := (by decide); omega) (by have qa0 : Int32.toInt 0 = 0 := (by decide); omega) (by have qa0 : Int32.toInt 0 = 0 := (by decide); omega)) dr_cJ4_append_cf468_2 ⟨wr_8_1, wr_1_19, wr_8_3, by decide, rfl, (Nat.le_of_ble_eq_true rfl), (Nat.le_of_ble_eq_true rfl)⟩ wr_8_2 wr_11_224 wr_7_73 wr_7_44 (by decide) hmq658786 heq658786 rfl (show 0 + 1 ≤ 1 by first | omega | decide) (show 0 + (4 * n658792 + 8) ≤ (4 * n658792 + 8) by first | omega | decide) (Nat.le_of_ble_eq_true rfl) (fun r659010 w659011 dc659007 ds659008 hp659009 => ?_)
  obtain ⟨P659021, F659022, o659012, q659013, n659014, f659015, rfl, rfl, hsb659023, hfr659024, he659025, he659026, hm659027, hq659028, hdc, hds, bo659012, bf659015, x659016, x659017, x659018, x659019, ht659020⟩ := hp659009
  have hm659029 : q658786 ∈ P659021 := hsb659023 q658786 hmq658786
  have hm659030 : q658787 ∈ P659021 := hsb659023 q658787 hmq658787
  have hor659031 : q659013 = q658787 ∨ q659013 ∉ P658784 := hq659028.elim Or.inl (fun n => Or.inr (fun z => n ((rSub_rf (P := P658784)) _ z)))
  have hsb659032 : rSub P658784 P659021 := rSub_tr (rSub_rf (P := P658784)) hsb659023
  have hfr659033 : rFr [q658787, q658786] P658784 F658785 F659022 := rFr_call (rSub_rf (P := P658784)) (rFr_rf (W := []) (P := P658784) (F := F658785)) hfr659024 (fun b hb hn => ⟨nm_n, (nm_c (fun e => hn (e ▸ List.mem_cons_self)) (nm_c (fun e => hn (e ▸ (List.mem_cons_of_mem _ List.mem_cons_self))) nm_n))⟩)
  change G _ _ _ _ _ _ _ (.ref q658786 :: _) _ _ _
  refine G_widen (cs' := 1) (sl' := 2 * (n659014 - n658792)) (by omega) (by omega) ?_
  refine G_pop dr_cJ4_append_cf468_5 rfl ?_
  refine G_aload_n 0 dr_cJ4_append_cf468_6 rfl ?_
  exact G_aretA (FieldType.object "java/lang/StringBuilder") dr_cJ4_append_cf468_7 rfl (by first | exact Or.inl ⟨_, rfl⟩ | exact Or.inr ⟨_, rfl⟩) (Or.inr ⟨_, rfl⟩) (Nat.le_of_ble_eq_true rfl) (show 2 * (n659014 - n658792) ≤ (4 * n658792 + 8) by omega) ⟨P659021, F659022, o659012, q659013, n659014, f659015, rfl, rfl, hsb659032, hfr659033, he659025, he659026, hm659027, hor659031, (Nat.le_of_ble_eq_true rfl), (by omega), bo659012, bf659015, (by have qa0 : Int32.toInt 0 = 0 := (by decide); omega), (by have qa0 : Int32.toInt 0 = 0 := (by decide); omega), (by have qa0 : Int32.toInt 0 = 0 := (by decide); omega), (by have qa0 : Int32.toInt 0 = 0 := (by decide); omega), (fun R c1 => c1 o659012 n659014 f659015 bo659012 ht659020)⟩
/- tr_RAbstractStringBuilder_setLength: a.0...maybeLatin1 -/
def tr_RAbstractStringBuilder_setLength (a0_maybeLatin1 : Int32) (a0_count : Int32) (a0_value_n : Nat) (o1 : Int32) : Prop := ∀ R : (Int32) → Prop,
  (tr_RAbstractStringBuilder_ensureCapacityInternal (0 : Int32) a0_value_n → 0 ≤ a0_count.toInt → a0_count.toInt ≤ 0 → R a0_maybeLatin1) →
  (tr_RAbstractStringBuilder_ensureCapacityInternal (0 : Int32) a0_value_n → 0 ≤ a0_count.toInt → 0 < a0_count.toInt → R (1 : Int32)) →
  R o1
abbrev ky_659059_AbstractStringBuilder_setLength : gKey := (cJ5_setLength_d00df, 2, "java/lang/AbstractStringBuilder", none, [], "setLength", fun _ _ => True)
def pp_659059_AbstractStringBuilder_setLength (D : va_G) (I : FieldType → ClassId) (P659050 : List Nat) (F659051 : Nat → va_E) (q659052 : Nat) (q659053 : Nat) (p659054 : Int32) (p659055 : Int32) (f659056 : Nat → Int32) (n659057 : Nat) : Option Value → va_W → Nat → Nat → Prop := fun r w dc ds => ∃ (F659092 : Nat → va_E) (o659090 : Int32), r = none ∧ w = va_pl P659050 F659092 ∧ rFr [q659052] P659050 F659051 F659092 ∧ F659092 q659052 = .inr (1, [.ref q659053, .int 0, .int o659090, .int 0]) ∧ F659092 q659053 = .inl (I .byte, n659057, .inl f659056) ∧ dc ≤ 0 ∧ ds ≤ 0 ∧ gB o659090 0 1 ∧ 0 = 0 ∧ tr_RAbstractStringBuilder_setLength p659054 p659055 n659057 o659090
set_option maxRecDepth 100000 in
set_option maxHeartbeats 4000000 in
theorem cp_659059_AbstractStringBuilder_setLength (l : Launch) (hl0 : l.stackTraces = false) (D : va_G) (I : FieldType → ClassId) (P659050 : List Nat) (F659051 : Nat → va_E) (q659052 : Nat) (q659053 : Nat) (p659054 : Int32) (p659055 : Int32) (f659056 : Nat → Int32) (n659057 : Nat) (hmq659052 : q659052 ∈ P659050) (hmq659053 : q659053 ∈ P659050) (heq659052 : F659051 q659052 = .inr (1, [.ref q659053, .int 0, .int p659054, .int p659055])) (heq659053 : F659051 q659053 = .inl (I .byte, n659057, .inl f659056)) (bp659054 : gB p659054 0 1) (bp659055 : gB p659055 0 16777216) (bf659056 : gF f659056 (-128) 127) (x659058 : ((n659057 : Int) ≤ 16777216)) : CtA (gV D I) l yJ5_setLength_d00df cJ5_setLength_d00df 2 none 1 22 0 0 [.ref q659052, .int 0] (va_pl P659050 F659051) (pp_659059_AbstractStringBuilder_setLength D I P659050 F659051 q659052 q659053 p659054 p659055 f659056 n659057) gNA := by
  refine CtA_ofF hl0 (by decide +kernel) (Nat.le_of_ble_eq_true rfl) ?_
  refine G_iload_n 1 dr_cJ5_setLength_d00df_0 rfl ?_
  refine G_if_ge 13 dr_cJ5_setLength_d00df_1 (by decide +kernel) (fun _ => ?_) (fun hc => absurd hc (by decide))
  refine G_aload_n 0 dr_cJ5_setLength_d00df_13 rfl ?_
  refine G_iload_n 1 dr_cJ5_setLength_d00df_14 rfl ?_
  refine Gw_callVB (As := [.int 0]) (gV_ok D I) (cp_658701_AbstractStringBuilder_ensureCapacityInternal l hl0 D I P659050 F659051 q659052 q659053 0 p659054 p659055 f659056 n659057 hmq659052 hmq659053 heq659052 heq659053 (gB_w (gBl (show Int32.toInt 0 = 0 by decide)) (by decide) (by decide)) bp659054 bp659055 bf659056 (by have qa0 : Int32.toInt 0 = 0 := (by decide); omega) (by have qa0 : Int32.toInt 0 = 0 := (by decide); omega)) dr_cJ5_setLength_d00df_15 ⟨wr_8_4, wr_1_19, wr_8_7, by decide, rfl, (Nat.le_of_ble_eq_true rfl), (Nat.le_of_ble_eq_true rfl)⟩ wr_8_6 wr_s_0 hmq659052 heq659052 rfl (show 0 + 0 ≤ 0 by first | omega | decide) (show 0 + 0 ≤ 0 by first | omega | decide) (Nat.le_of_ble_eq_true rfl) (fun r659063 w659064 dc659060 ds659061 hp659062 => ?_) (fun _ _ _ _ _ z => z.elim)
  obtain ⟨rfl, rfl, hdc, hds, ht659065⟩ := hp659062
  change G _ _ _ _ _ _ _ _ _ _ _
  refine G_widen (cs' := 0) (sl' := 0) (by omega) (by omega) ?_
  refine G_aload_n 0 dr_cJ5_setLength_d00df_18 rfl ?_
  refine Gp_get 3 hmq659052 heq659052 dr_cJ5_setLength_d00df_19 (gk_J4 D I) (Nat.le_of_ble_eq_true rfl) wr_7_64 rfl ?_
  refine G_iload_n 1 dr_cJ5_setLength_d00df_22 rfl ?_
  refine G_icmp_ge 63 dr_cJ5_setLength_d00df_23 (by decide +kernel) (fun hc659066 => ?_) (fun hc => absurd (show False by have := gj_nleL hc (show Int32.toInt 0 = 0 by decide); omega) not_false)
  have r659068 : 0 ≤ p659055.toInt := gj_leL hc659066 (show Int32.toInt 0 = 0 by decide)
  refine G_aload_n 0 dr_cJ5_setLength_d00df_63 rfl ?_
  refine Gp_get 3 hmq659052 heq659052 dr_cJ5_setLength_d00df_64 (gk_J4 D I) (Nat.le_of_ble_eq_true rfl) wr_7_64 rfl ?_
  refine G_iload_n 1 dr_cJ5_setLength_d00df_67 rfl ?_
  refine G_icmp_le 76 dr_cJ5_setLength_d00df_68 (by decide +kernel) (fun hc659069 => ?_) (fun hc659069 => ?_)
  · have r659070 : p659055.toInt ≤ 0 := gj_le hc659069 (show Int32.toInt 0 = 0 by decide)
    have bp659055' : gB p659055 0 0 := ⟨by omega, by omega⟩
    refine G_aload_n 0 dr_cJ5_setLength_d00df_76 rfl ?_
    refine G_iload_n 1 dr_cJ5_setLength_d00df_77 rfl ?_
    refine Gp_put 3 hmq659052 heq659052 dr_cJ5_setLength_d00df_78 (gk_J4 D I) (Nat.le_of_ble_eq_true rfl) wr_7_64 rfl rfl rfl (Nat.le_of_ble_eq_true rfl) (fun F659071 e659072 n659073 => ?_)
    have he659074 : F659071 q659053 = .inl (I .byte, n659057, .inl f659056) := (n659073 q659053 (rn_ao heq659053 heq659052)).trans heq659053
    have he659075 : F659071 q659052 = .inr (1, [.ref q659053, .int 0, .int p659054, .int 0]) := e659072
    have hfr659076 : rFr [q659052] P659050 F659051 F659071 := rFr_put (rFr_rf (W := []) (P := P659050) (F := F659051)) n659073
    exact G_vretA dr_cJ5_setLength_d00df_81 rfl (Nat.le_of_ble_eq_true rfl) (Nat.le_of_ble_eq_true rfl) ⟨F659071, p659054, rfl, rfl, hfr659076, he659075, he659074, (Nat.le_of_ble_eq_true rfl), (Nat.le_of_ble_eq_true rfl), bp659054, (by have qa0 : Int32.toInt 0 = 0 := (by decide); omega), (fun R c1 c2 => c1 ht659065 r659068 r659070)⟩
  · have r659077 : 0 < p659055.toInt := gj_nle hc659069 (show Int32.toInt 0 = 0 by decide)
    have bp659055' : gB p659055 1 16777216 := ⟨by omega, by omega⟩
    refine G_aload_n 0 dr_cJ5_setLength_d00df_71 rfl ?_
    refine G_iconst 1 dr_cJ5_setLength_d00df_72 (by decide +kernel) ?_
    refine Gp_put 2 hmq659052 heq659052 dr_cJ5_setLength_d00df_73 (gk_J4 D I) (Nat.le_of_ble_eq_true rfl) wr_7_62 rfl rfl rfl (Nat.le_of_ble_eq_true rfl) (fun F659078 e659079 n659080 => ?_)
    have he659081 : F659078 q659053 = .inl (I .byte, n659057, .inl f659056) := (n659080 q659053 (rn_ao heq659053 heq659052)).trans heq659053
    have he659082 : F659078 q659052 = .inr (1, [.ref q659053, .int 0, .int 1, .int p659055]) := e659079
    have hfr659083 : rFr [q659052] P659050 F659051 F659078 := rFr_put (rFr_rf (W := []) (P := P659050) (F := F659051)) n659080
    refine G_aload_n 0 dr_cJ5_setLength_d00df_76 rfl ?_
    refine G_iload_n 1 dr_cJ5_setLength_d00df_77 rfl ?_
    refine Gp_put 3 hmq659052 he659082 dr_cJ5_setLength_d00df_78 (gk_J4 D I) (Nat.le_of_ble_eq_true rfl) wr_7_64 rfl rfl rfl (Nat.le_of_ble_eq_true rfl) (fun F659084 e659085 n659086 => ?_)
    have he659087 : F659084 q659053 = .inl (I .byte, n659057, .inl f659056) := (n659086 q659053 (rn_ao he659081 he659082)).trans he659081
    have he659088 : F659084 q659052 = .inr (1, [.ref q659053, .int 0, .int 1, .int 0]) := e659085
    have hfr659089 : rFr [q659052] P659050 F659051 F659084 := rFr_put' List.mem_cons_self hfr659083 n659086
    exact G_vretA dr_cJ5_setLength_d00df_81 rfl (Nat.le_of_ble_eq_true rfl) (Nat.le_of_ble_eq_true rfl) ⟨F659084, 1, rfl, rfl, hfr659089, he659088, he659087, (Nat.le_of_ble_eq_true rfl), (Nat.le_of_ble_eq_true rfl), (gB_w (gBl (show Int32.toInt 1 = 1 by decide)) (by decide) (by decide)), (by have qa0 : Int32.toInt 0 = 0 := (by decide); have qa1 : Int32.toInt 1 = 1 := (by decide); omega), (fun R c1 c2 => c2 ht659065 r659068 r659077)⟩
/- tr_RStringBuilder_setLength: a.0...maybeLatin1 -/
def tr_RStringBuilder_setLength (a0_maybeLatin1 : Int32) (a0_count : Int32) (a0_value_n : Nat) (o1 : Int32) : Prop := ∀ R : (Int32) → Prop,
  (∀ (x1 : Int32), gB x1 0 1 → tr_RAbstractStringBuilder_setLength a0_maybeLatin1 a0_count a0_value_n x1 → R x1) →
  R o1
abbrev ky_659049_StringBuilder_setLength : gKey := (cJ4_setLength_d00df, 2, "java/lang/StringBuilder", none, [], "setLength", fun _ _ => True)
def pp_659049_StringBuilder_setLength (D : va_G) (I : FieldType → ClassId) (P659040 : List Nat) (F659041 : Nat → va_E) (q659042 : Nat) (q659043 : Nat) (p659044 : Int32) (p659045 : Int32) (f659046 : Nat → Int32) (n659047 : Nat) : Option Value → va_W → Nat → Nat → Prop := fun r w dc ds => ∃ (F659109 : Nat → va_E) (o659107 : Int32), r = none ∧ w = va_pl P659040 F659109 ∧ rFr [q659042] P659040 F659041 F659109 ∧ F659109 q659042 = .inr (1, [.ref q659043, .int 0, .int o659107, .int 0]) ∧ F659109 q659043 = .inl (I .byte, n659047, .inl f659046) ∧ dc ≤ 0 ∧ ds ≤ 0 ∧ gB o659107 0 1 ∧ 0 = 0 ∧ tr_RStringBuilder_setLength p659044 p659045 n659047 o659107
set_option maxRecDepth 100000 in
set_option maxHeartbeats 4000000 in
theorem cp_659049_StringBuilder_setLength (l : Launch) (hl0 : l.stackTraces = false) (D : va_G) (I : FieldType → ClassId) (P659040 : List Nat) (F659041 : Nat → va_E) (q659042 : Nat) (q659043 : Nat) (p659044 : Int32) (p659045 : Int32) (f659046 : Nat → Int32) (n659047 : Nat) (hmq659042 : q659042 ∈ P659040) (hmq659043 : q659043 ∈ P659040) (heq659042 : F659041 q659042 = .inr (1, [.ref q659043, .int 0, .int p659044, .int p659045])) (heq659043 : F659041 q659043 = .inl (I .byte, n659047, .inl f659046)) (bp659044 : gB p659044 0 1) (bp659045 : gB p659045 0 16777216) (bf659046 : gF f659046 (-128) 127) (x659048 : ((n659047 : Int) ≤ 16777216)) : CtA (gV D I) l yJ4_setLength_d00df cJ4_setLength_d00df 2 none 2 43 0 0 [.ref q659042, .int 0] (va_pl P659040 F659041) (pp_659049_StringBuilder_setLength D I P659040 F659041 q659042 q659043 p659044 p659045 f659046 n659047) gNA := by
  refine CtA_ofF hl0 (by decide +kernel) (Nat.le_of_ble_eq_true rfl) ?_
  refine G_aload_n 0 dr_cJ4_setLength_d00df_0 rfl ?_
  refine G_iload_n 1 dr_cJ4_setLength_d00df_1 rfl ?_
  refine Gw_callSU (As := [.int 0]) (gV_ok D I) (cp_659059_AbstractStringBuilder_setLength l hl0 D I P659040 F659041 q659042 q659043 p659044 p659045 f659046 n659047 hmq659042 hmq659043 heq659042 heq659043 bp659044 bp659045 bf659046 (by have qa0 : Int32.toInt 0 = 0 := (by decide); omega)) dr_cJ4_setLength_d00df_2 ⟨wr_11_129, wr_1_19, wr_11_131, by decide, rfl, (Nat.le_of_ble_eq_true rfl), (Nat.le_of_ble_eq_true rfl)⟩ wr_11_130 wr_11_233 wr_7_73 wr_7_44 (by decide) hmq659042 heq659042 rfl (show 0 + 0 ≤ 0 by first | omega | decide) (show 0 + 0 ≤ 0 by first | omega | decide) (Nat.le_of_ble_eq_true rfl) (fun r659096 w659097 dc659093 ds659094 hp659095 => ?_)
  obtain ⟨F659101, o659098, rfl, rfl, hfr659103, he659104, he659105, hdc, hds, bo659098, x659099, ht659100⟩ := hp659095
  have hfr659106 : rFr [q659042] P659040 F659041 F659101 := rFr_call (rSub_rf (P := P659040)) (rFr_rf (W := []) (P := P659040) (F := F659041)) hfr659103 (fun b hb hn => ⟨nm_n, (nm_c (fun e => hn (e ▸ List.mem_cons_self)) nm_n)⟩)
  change G _ _ _ _ _ _ _ _ _ _ _
  refine G_widen (cs' := 0) (sl' := 0) (by omega) (by omega) ?_
  exact G_vretA dr_cJ4_setLength_d00df_5 rfl (Nat.le_of_ble_eq_true rfl) (Nat.le_of_ble_eq_true rfl) ⟨F659101, o659098, rfl, rfl, hfr659106, he659104, he659105, (Nat.le_of_ble_eq_true rfl), (Nat.le_of_ble_eq_true rfl), bo659098, (by have qa0 : Int32.toInt 0 = 0 := (by decide); omega), (fun R c1 => c1 o659098 bo659098 ht659100)⟩
abbrev ky_659121_AbstractStringBuilder_init : gKey := (cJ5_init_d00df, 2, "java/lang/AbstractStringBuilder", none, [], "<init>", fun _ _ => True)
def pp_659121_AbstractStringBuilder_init (D : va_G) (I : FieldType → ClassId) (P659116 : List Nat) (F659117 : Nat → va_E) (q659118 : Nat) (p659119 : Int32) (p659120 : Int32) : Option Value → va_W → Nat → Nat → Prop := fun r w dc ds => ∃ (P659149 : List Nat) (F659150 : Nat → va_E) (q659148 : Nat), r = none ∧ w = va_pl P659149 F659150 ∧ rSub P659116 P659149 ∧ rFr [q659118] P659116 F659117 F659150 ∧ F659150 q659118 = .inr (1, [.ref q659148, .int 0, .int p659119, .int p659120]) ∧ F659150 q659148 = .inl (I .byte, 16, .inl (fun _ => 0)) ∧ q659148 ∈ P659149 ∧ q659148 ∉ P659116 ∧ dc ≤ 1 ∧ ds ≤ 16
set_option maxRecDepth 100000 in
set_option maxHeartbeats 4000000 in
theorem cp_659121_AbstractStringBuilder_init (l : Launch) (hl0 : l.stackTraces = false) (D : va_G) (I : FieldType → ClassId) (P659116 : List Nat) (F659117 : Nat → va_E) (q659118 : Nat) (p659119 : Int32) (p659120 : Int32) (hmq659118 : q659118 ∈ P659116) (heq659118 : F659117 q659118 = .inr (1, [.null, .int 0, .int p659119, .int p659120])) (bp659119 : gB p659119 0 1) (bp659120 : gB p659120 0 16777216) : CtA (gV D I) l yJ5_init_d00df cJ5_init_d00df 2 none 1 12 1 16 [.ref q659118, .int 16] (va_pl P659116 F659117) (pp_659121_AbstractStringBuilder_init D I P659116 F659117 q659118 p659119 p659120) gNA := by
  refine CtA_ofF hl0 (by decide +kernel) (Nat.le_of_ble_eq_true rfl) ?_
  refine G_aload_n 0 dr_cJ5_init_d00df_0 rfl ?_
  refine G_obj dr_cJ5_init_d00df_1 wr_7_51 wr_1_51 wr_1_52 (Nat.le_of_ble_eq_true rfl) (Nat.le_of_ble_eq_true rfl) ?_
  refine G_gets dr_cJ5_init_d00df_4 wr_7_52 gz_cs (fun x hx => ?_)
  subst hx
  refine G_if_eq 25 dr_cJ5_init_d00df_7 (by decide +kernel) (fun hc => absurd hc (by decide)) (fun _ => ?_)
  refine G_aload_n 0 dr_cJ5_init_d00df_10 rfl ?_
  refine G_iload_n 1 dr_cJ5_init_d00df_11 rfl ?_
  refine G_newa 1 (16, .inl (fun _ => 0)) dr_cJ5_init_d00df_12 rfl rfl (by intro C h; cases h) wr_1_66 (fun _ => ga_byte _ _) (by decide) (by decide) (by decide) (show 0 + 1 ≤ 1 by first | omega | decide) (show 0 + 16 ≤ 16 by first | omega | decide) (fun q659122 => Gp_in (fun P659123 F659124 hq659125 hP659126 e659127 n659128 => ?_))
  refine G_widen (cs' := 1) (sl' := 16) (by omega) (by omega) ?_
  have he659129 : F659124 q659118 = .inr (1, [.null, .int 0, .int p659119, .int p659120]) := (n659128 q659118 (fun h => hq659125 (h ▸ hmq659118))).trans heq659118
  have he659130 : F659124 q659122 = .inl (I .byte, 16, .inl (fun _ => 0)) := e659127
  have hm659131 : q659118 ∈ P659123 := (hP659126 q659118).mpr (Or.inl hmq659118)
  have hm659132 : q659122 ∈ P659123 := (hP659126 q659122).mpr (Or.inr rfl)
  have hq659133 : q659122 ∉ P659116 := fun z => hq659125 ((rSub_rf (P := P659116)) q659122 z)
  have hfr659134 : rFr [] P659116 F659117 F659124 := rFr_new (rSub_rf (P := P659116)) hq659125 (rFr_rf (W := []) (P := P659116) (F := F659117)) n659128
  have hsb659135 : rSub P659116 P659123 := rSub_new (rSub_rf (P := P659116)) hP659126
  refine Gp_put 0 hm659131 he659129 dr_cJ5_init_d00df_14 (gk_J4 D I) (Nat.le_of_ble_eq_true rfl) wr_7_60 rfl rfl rfl (Nat.le_of_ble_eq_true rfl) (fun F659136 e659137 n659138 => ?_)
  have he659139 : F659136 q659122 = .inl (I .byte, 16, .inl (fun _ => 0)) := (n659138 q659122 (fun h => hq659133 (h ▸ hmq659118))).trans he659130
  have he659140 : F659136 q659118 = .inr (1, [.ref q659122, .int 0, .int p659119, .int p659120]) := e659137
  have hfr659141 : rFr [q659118] P659116 F659117 F659136 := rFr_put hfr659134 n659138
  refine G_aload_n 0 dr_cJ5_init_d00df_17 rfl ?_
  refine G_iconst 0 dr_cJ5_init_d00df_18 (by decide +kernel) ?_
  refine Gp_put 1 hm659131 he659140 dr_cJ5_init_d00df_19 (gk_J4 D I) (Nat.le_of_ble_eq_true rfl) wr_7_61 rfl rfl rfl (Nat.le_of_ble_eq_true rfl) (fun F659142 e659143 n659144 => ?_)
  have he659145 : F659142 q659122 = .inl (I .byte, 16, .inl (fun _ => 0)) := (n659144 q659122 (fun h => hq659133 (h ▸ hmq659118))).trans he659139
  have he659146 : F659142 q659118 = .inr (1, [.ref q659122, .int 0, .int p659119, .int p659120]) := e659143
  have hfr659147 : rFr [q659118] P659116 F659117 F659142 := rFr_put' List.mem_cons_self hfr659141 n659144
  refine G_goto 38 dr_cJ5_init_d00df_22 (by decide +kernel) ?_
  exact G_vretA dr_cJ5_init_d00df_38 rfl (Nat.le_of_ble_eq_true rfl) (Nat.le_of_ble_eq_true rfl) ⟨P659123, F659142, q659122, rfl, rfl, hsb659135, hfr659147, he659146, he659145, hm659132, hq659133, (Nat.le_of_ble_eq_true rfl), (Nat.le_of_ble_eq_true rfl)⟩
abbrev ky_659115_StringBuilder_init : gKey := (cJ4_init_da8c8, 1, "java/lang/StringBuilder", none, [], "<init>", fun _ _ => True)
def pp_659115_StringBuilder_init (D : va_G) (I : FieldType → ClassId) (P659110 : List Nat) (F659111 : Nat → va_E) (q659112 : Nat) (p659113 : Int32) (p659114 : Int32) : Option Value → va_W → Nat → Nat → Prop := fun r w dc ds => ∃ (P659170 : List Nat) (F659171 : Nat → va_E) (q659169 : Nat), r = none ∧ w = va_pl P659170 F659171 ∧ rSub P659110 P659170 ∧ rFr [q659112] P659110 F659111 F659171 ∧ F659171 q659112 = .inr (1, [.ref q659169, .int 0, .int p659113, .int p659114]) ∧ F659171 q659169 = .inl (I .byte, 16, .inl (fun _ => 0)) ∧ q659169 ∈ P659170 ∧ q659169 ∉ P659110 ∧ dc ≤ 1 ∧ ds ≤ 16
set_option maxRecDepth 100000 in
set_option maxHeartbeats 4000000 in
theorem cp_659115_StringBuilder_init (l : Launch) (hl0 : l.stackTraces = false) (D : va_G) (I : FieldType → ClassId) (P659110 : List Nat) (F659111 : Nat → va_E) (q659112 : Nat) (p659113 : Int32) (p659114 : Int32) (hmq659112 : q659112 ∈ P659110) (heq659112 : F659111 q659112 = .inr (1, [.null, .int 0, .int p659113, .int p659114])) (bp659113 : gB p659113 0 1) (bp659114 : gB p659114 0 16777216) : CtA (gV D I) l yJ4_init_da8c8 cJ4_init_da8c8 1 none 2 33 1 16 [.ref q659112] (va_pl P659110 F659111) (pp_659115_StringBuilder_init D I P659110 F659111 q659112 p659113 p659114) gNA := by
  refine CtA_ofF hl0 (by decide +kernel) (Nat.le_of_ble_eq_true rfl) ?_
  refine G_aload_n 0 dr_cJ4_init_da8c8_0 rfl ?_
  refine G_bipush 16 dr_cJ4_init_da8c8_1 (by decide +kernel) ?_
  refine Gw_callI (As := [.int 16]) (gV_ok D I) (cp_659121_AbstractStringBuilder_init l hl0 D I P659110 F659111 q659112 p659113 p659114 hmq659112 heq659112 bp659113 bp659114) dr_cJ4_init_da8c8_3 ⟨wr_7_48, wr_1_19, wr_7_50, by decide, rfl, (Nat.le_of_ble_eq_true rfl), (Nat.le_of_ble_eq_true rfl)⟩ wr_7_49 rfl (show 0 + 1 ≤ 1 by first | omega | decide) (show 0 + 16 ≤ 16 by first | omega | decide) (Nat.le_of_ble_eq_true rfl) (fun r659154 w659155 dc659151 ds659152 hp659153 => ?_)
  obtain ⟨P659157, F659158, q659156, rfl, rfl, hsb659159, hfr659160, he659161, he659162, hm659163, hq659164, hdc, hds⟩ := hp659153
  have hm659165 : q659112 ∈ P659157 := hsb659159 q659112 hmq659112
  have hq659166 : q659156 ∉ P659110 := fun z => hq659164 ((rSub_rf (P := P659110)) q659156 z)
  have hsb659167 : rSub P659110 P659157 := rSub_tr (rSub_rf (P := P659110)) hsb659159
  have hfr659168 : rFr [q659112] P659110 F659111 F659158 := rFr_call (rSub_rf (P := P659110)) (rFr_rf (W := []) (P := P659110) (F := F659111)) hfr659160 (fun b hb hn => ⟨nm_n, (nm_c (fun e => hn (e ▸ List.mem_cons_self)) nm_n)⟩)
  change G _ _ _ _ _ _ _ _ _ _ _
  refine G_widen (cs' := 1) (sl' := 16) (by omega) (by omega) ?_
  exact G_vretA dr_cJ4_init_da8c8_6 rfl (Nat.le_of_ble_eq_true rfl) (Nat.le_of_ble_eq_true rfl) ⟨P659157, F659158, q659156, rfl, rfl, hsb659167, hfr659168, he659161, he659162, hm659163, hq659166, (Nat.le_of_ble_eq_true rfl), (Nat.le_of_ble_eq_true rfl)⟩
abbrev ky_659228_String_coder : gKey := (cJ0_coder_7d493, 1, "java/lang/String", (some FieldType.byte), [], "coder", fun _ _ => True)
def pp_659228_String_coder (D : va_G) (I : FieldType → ClassId) (P659219 : List Nat) (F659220 : Nat → va_E) (q659221 : Nat) (q659222 : Nat) (p659223 : Int32) (p659224 : Int32) (f659225 : Nat → Int32) (n659226 : Nat) : Option Value → va_W → Nat → Nat → Prop := fun r w dc ds => r = some (.int 0) ∧ w = va_pl P659219 F659220 ∧ dc ≤ 0 ∧ ds ≤ 0
set_option maxRecDepth 100000 in
set_option maxHeartbeats 4000000 in
theorem cp_659228_String_coder (l : Launch) (hl0 : l.stackTraces = false) (D : va_G) (I : FieldType → ClassId) (P659219 : List Nat) (F659220 : Nat → va_E) (q659221 : Nat) (q659222 : Nat) (p659223 : Int32) (p659224 : Int32) (f659225 : Nat → Int32) (n659226 : Nat) (hmq659221 : q659221 ∈ P659219) (hmq659222 : q659222 ∈ P659219) (heq659221 : F659220 q659221 = .inr (0, [.ref q659222, .int 0, .int p659223, .int p659224])) (heq659222 : F659220 q659222 = .inl (I .byte, n659226, .inl f659225)) (bp659224 : gB p659224 0 1) (bf659225 : gF f659225 (-128) 127) (x659227 : ((n659226 : Int) ≤ 16777216)) : CtA (gV D I) l yJ0_coder_7d493 cJ0_coder_7d493 1 (some FieldType.byte) 0 0 0 0 [.ref q659221] (va_pl P659219 F659220) (pp_659228_String_coder D I P659219 F659220 q659221 q659222 p659223 p659224 f659225 n659226) gNA := by
  refine CtA_ofF hl0 (by decide +kernel) (Nat.le_of_ble_eq_true rfl) ?_
  have bp659223 := gB_any p659223
  refine G_gets dr_cJ0_coder_7d493_0 wr_3_65 gz_cs (fun x hx => ?_)
  subst hx
  refine G_if_eq 13 dr_cJ0_coder_7d493_3 (by decide +kernel) (fun hc => absurd hc (by decide)) (fun _ => ?_)
  refine G_aload_n 0 dr_cJ0_coder_7d493_6 rfl ?_
  refine Gp_get 1 hmq659221 heq659221 dr_cJ0_coder_7d493_7 (gk_J0 D I) (Nat.le_of_ble_eq_true rfl) wr_8_183 rfl ?_
  refine G_goto 14 dr_cJ0_coder_7d493_10 (by decide +kernel) ?_
  exact G_zretA FieldType.byte dr_cJ0_coder_7d493_14 rfl rfl (Nat.le_of_ble_eq_true rfl) (Nat.le_of_ble_eq_true rfl) ⟨rfl, rfl, (Nat.le_of_ble_eq_true rfl), (Nat.le_of_ble_eq_true rfl)⟩
/- tr_RString_length: result -/
def tr_RString_length (a0_value_n : Nat) (o1 : Int32) : Prop := ∀ R : (Int32) → Prop,
  (∀ (x1 : Int32) (x2 : Int32), x1.toInt = (a0_value_n : Nat) → x2.toInt = x1.toInt / 1 → R x2) →
  R o1
abbrev ky_659217_String_length : gKey := (cJ0_length_8abf5, 1, "java/lang/String", (some FieldType.int), [], "length", fun _ _ => True)
def pp_659217_String_length (D : va_G) (I : FieldType → ClassId) (P659208 : List Nat) (F659209 : Nat → va_E) (q659210 : Nat) (q659211 : Nat) (p659212 : Int32) (p659213 : Int32) (f659214 : Nat → Int32) (n659215 : Nat) : Option Value → va_W → Nat → Nat → Prop := fun r w dc ds => ∃ (o659235 : Int32), r = some (.int o659235) ∧ w = va_pl P659208 F659209 ∧ dc ≤ 0 ∧ ds ≤ 0 ∧ gB o659235 0 16777216 ∧ o659235.toInt = (n659215 : Int) ∧ tr_RString_length n659215 o659235
set_option maxRecDepth 100000 in
set_option maxHeartbeats 4000000 in
theorem cp_659217_String_length (l : Launch) (hl0 : l.stackTraces = false) (D : va_G) (I : FieldType → ClassId) (P659208 : List Nat) (F659209 : Nat → va_E) (q659210 : Nat) (q659211 : Nat) (p659212 : Int32) (p659213 : Int32) (f659214 : Nat → Int32) (n659215 : Nat) (hmq659210 : q659210 ∈ P659208) (hmq659211 : q659211 ∈ P659208) (heq659210 : F659209 q659210 = .inr (0, [.ref q659211, .int 0, .int p659212, .int p659213])) (heq659211 : F659209 q659211 = .inl (I .byte, n659215, .inl f659214)) (bp659213 : gB p659213 0 1) (bf659214 : gF f659214 (-128) 127) (x659216 : ((n659215 : Int) ≤ 16777216)) : CtA (gV D I) l yJ0_length_8abf5 cJ0_length_8abf5 1 (some FieldType.int) 1 20 0 0 [.ref q659210] (va_pl P659208 F659209) (pp_659217_String_length D I P659208 F659209 q659210 q659211 p659212 p659213 f659214 n659215) gNA := by
  refine CtA_ofF hl0 (by decide +kernel) (Nat.le_of_ble_eq_true rfl) ?_
  have bp659212 := gB_any p659212
  refine G_aload_n 0 dr_cJ0_length_8abf5_0 rfl ?_
  refine Gp_get 0 hmq659210 heq659210 dr_cJ0_length_8abf5_1 (gk_J0 D I) (Nat.le_of_ble_eq_true rfl) wr_8_182 rfl ?_
  refine Gp_alen (Int32.ofNat n659215) 1 hmq659211 heq659211 dr_cJ0_length_8abf5_4 rfl rfl (G_nam fun z659218 hz659218 => ?_)
  have ez659218 : z659218.toInt = (n659215 : Nat) := gI_ofM hz659218 (by omega)
  have bz659218 : gB z659218 0 16777216 := ⟨by omega, by omega⟩
  refine G_aload_n 0 dr_cJ0_length_8abf5_5 rfl ?_
  refine Gw_callV (As := []) (gV_ok D I) (cp_659228_String_coder l hl0 D I P659208 F659209 q659210 q659211 p659212 p659213 f659214 n659215 hmq659210 hmq659211 heq659210 heq659211 bp659213 bf659214 (by have qa0 : Int32.toInt 0 = 0 := (by decide); omega)) dr_cJ0_length_8abf5_6 ⟨wr_3_61, wr_1_21, wr_3_64, by decide, rfl, (Nat.le_of_ble_eq_true rfl), (Nat.le_of_ble_eq_true rfl)⟩ wr_3_62 wr_3_63 hmq659210 heq659210 rfl (show 0 + 0 ≤ 0 by first | omega | decide) (show 0 + 0 ≤ 0 by first | omega | decide) (Nat.le_of_ble_eq_true rfl) (fun r659232 w659233 dc659229 ds659230 hp659231 => ?_) (fun _ _ _ _ _ z => z.elim)
  obtain ⟨rfl, rfl, hdc, hds⟩ := hp659231
  change G _ _ _ _ _ _ _ (.int 0 :: _) _ _ _
  refine G_widen (cs' := 0) (sl' := 0) (by omega) (by omega) ?_
  refine G_ishr dr_cJ0_length_8abf5_9 (G_nam fun z659234 hz659234 => ?_)
  have ez659234 : z659234.toInt = z659218.toInt / 1 := gI_shr (k := 0) hz659234 (by decide)
  have bz659234 : gB z659234 0 16777216 := ⟨by omega, by omega⟩
  exact G_iretA dr_cJ0_length_8abf5_10 rfl (Nat.le_of_ble_eq_true rfl) (Nat.le_of_ble_eq_true rfl) ⟨z659234, rfl, rfl, (Nat.le_of_ble_eq_true rfl), (Nat.le_of_ble_eq_true rfl), bz659234, (by have qa0 : Int32.toInt 0 = 0 := (by decide); omega), (fun R c1 => c1 z659218 z659234 ez659218 ez659234)⟩
abbrev ky_659286_AbstractStringBuilder_inflateIfNeededFor : gKey := (cJ5_inflateIfNeededFor_a7421, 2, "java/lang/AbstractStringBuilder", none, [], "inflateIfNeededFor", fun _ _ => True)
def pp_659286_AbstractStringBuilder_inflateIfNeededFor (D : va_G) (I : FieldType → ClassId) (P659270 : List Nat) (F659271 : Nat → va_E) (q659272 : Nat) (q659273 : Nat) (q659274 : Nat) (q659275 : Nat) (p659276 : Int32) (p659277 : Int32) (p659278 : Int32) (p659279 : Int32) (f659280 : Nat → Int32) (n659281 : Nat) (f659282 : Nat → Int32) (n659283 : Nat) : Option Value → va_W → Nat → Nat → Prop := fun r w dc ds => r = none ∧ w = va_pl P659270 F659271 ∧ dc ≤ 0 ∧ ds ≤ 0
set_option maxRecDepth 100000 in
set_option maxHeartbeats 4000000 in
theorem cp_659286_AbstractStringBuilder_inflateIfNeededFor (l : Launch) (hl0 : l.stackTraces = false) (D : va_G) (I : FieldType → ClassId) (P659270 : List Nat) (F659271 : Nat → va_E) (q659272 : Nat) (q659273 : Nat) (q659274 : Nat) (q659275 : Nat) (p659276 : Int32) (p659277 : Int32) (p659278 : Int32) (p659279 : Int32) (f659280 : Nat → Int32) (n659281 : Nat) (f659282 : Nat → Int32) (n659283 : Nat) (hmq659272 : q659272 ∈ P659270) (hmq659273 : q659273 ∈ P659270) (hmq659274 : q659274 ∈ P659270) (hmq659275 : q659275 ∈ P659270) (heq659272 : F659271 q659272 = .inr (1, [.ref q659274, .int 0, .int p659276, .int p659277])) (heq659273 : F659271 q659273 = .inr (0, [.ref q659275, .int 0, .int p659278, .int p659279])) (heq659274 : F659271 q659274 = .inl (I .byte, n659281, .inl f659280)) (heq659275 : F659271 q659275 = .inl (I .byte, n659283, .inl f659282)) (hneq659274q659275 : q659274 ≠ q659275) (bp659276 : gB p659276 0 1) (bp659277 : gB p659277 0 16777216) (bp659279 : gB p659279 0 1) (bf659280 : gF f659280 (-128) 127) (bf659282 : gF f659282 (-128) 127) (x659284 : ((n659281 : Int) ≤ 16777216)) (x659285 : ((n659283 : Int) ≤ 16777216)) : CtA (gV D I) l yJ5_inflateIfNeededFor_a7421 cJ5_inflateIfNeededFor_a7421 2 none 1 20 0 0 [.ref q659272, .ref q659273] (va_pl P659270 F659271) (pp_659286_AbstractStringBuilder_inflateIfNeededFor D I P659270 F659271 q659272 q659273 q659274 q659275 p659276 p659277 p659278 p659279 f659280 n659281 f659282 n659283) gNA := by
  refine CtA_ofF hl0 (by decide +kernel) (Nat.le_of_ble_eq_true rfl) ?_
  have bp659278 := gB_any p659278
  refine G_gets dr_cJ5_inflateIfNeededFor_a7421_0 wr_7_52 gz_cs (fun x hx => ?_)
  subst hx
  refine G_if_eq 21 dr_cJ5_inflateIfNeededFor_a7421_3 (by decide +kernel) (fun hc => absurd hc (by decide)) (fun _ => ?_)
  refine G_aload_n 0 dr_cJ5_inflateIfNeededFor_a7421_6 rfl ?_
  refine Gp_get 1 hmq659272 heq659272 dr_cJ5_inflateIfNeededFor_a7421_7 (gk_J4 D I) (Nat.le_of_ble_eq_true rfl) wr_7_61 rfl ?_
  refine G_aload_n 1 dr_cJ5_inflateIfNeededFor_a7421_10 rfl ?_
  refine Gw_callV (As := []) (gV_ok D I) (cp_659228_String_coder l hl0 D I P659270 F659271 q659273 q659275 p659278 p659279 f659282 n659283 hmq659273 hmq659275 heq659273 heq659275 bp659279 bf659282 (by have qa0 : Int32.toInt 0 = 0 := (by decide); omega)) dr_cJ5_inflateIfNeededFor_a7421_11 ⟨wr_8_163, wr_1_21, wr_3_64, by decide, rfl, (Nat.le_of_ble_eq_true rfl), (Nat.le_of_ble_eq_true rfl)⟩ wr_3_62 wr_3_63 hmq659273 heq659273 rfl (show 0 + 0 ≤ 0 by first | omega | decide) (show 0 + 0 ≤ 0 by first | omega | decide) (Nat.le_of_ble_eq_true rfl) (fun r659290 w659291 dc659287 ds659288 hp659289 => ?_) (fun _ _ _ _ _ z => z.elim)
  obtain ⟨rfl, rfl, hdc, hds⟩ := hp659289
  change G _ _ _ _ _ _ _ (.int 0 :: _) _ _ _
  refine G_widen (cs' := 0) (sl' := 0) (by omega) (by omega) ?_
  refine G_icmp_eq 21 dr_cJ5_inflateIfNeededFor_a7421_14 (by decide +kernel) (fun _ => ?_) (fun hc => absurd hc (by decide))
  exact G_vretA dr_cJ5_inflateIfNeededFor_a7421_21 rfl (Nat.le_of_ble_eq_true rfl) (Nat.le_of_ble_eq_true rfl) ⟨rfl, rfl, (Nat.le_of_ble_eq_true rfl), (Nat.le_of_ble_eq_true rfl)⟩
/- tr_RString_getBytes: a.1.[] -/
def tr_RString_getBytes (a2 : Int32) (a1_v : Nat → Int32) (a0_value_v : Nat → Int32) (a0_value_n : Nat) (o1 : Nat → Int32) : Prop := ∀ R : (Nat → Int32) → Prop,
  (∀ (x1 : Int32) (x2 : Int32) (x3 : Nat → Int32), x1.toInt = a2.toInt * 1 → x2.toInt = (a0_value_n : Nat) → x3 = va_cpy a0_value_v a1_v (0 : Int32).toNatClampNeg x1.toNatClampNeg x2.toNatClampNeg → R x3) →
  R o1
abbrev ky_659312_String_getBytes : gKey := (cJ0_getBytes_840e7, 4, "java/lang/String", none, [], "getBytes", fun _ _ => True)
def pp_659312_String_getBytes (D : va_G) (I : FieldType → ClassId) (P659297 : List Nat) (F659298 : Nat → va_E) (q659299 : Nat) (q659300 : Nat) (q659301 : Nat) (p659302 : Int32) (p659303 : Int32) (p659304 : Int32) (f659305 : Nat → Int32) (n659306 : Nat) (f659307 : Nat → Int32) (n659308 : Nat) : Option Value → va_W → Nat → Nat → Prop := fun r w dc ds => ∃ (F659330 : Nat → va_E) (f659328 : Nat → Int32), r = none ∧ w = va_pl P659297 F659330 ∧ rFr [q659300] P659297 F659298 F659330 ∧ F659330 q659299 = .inr (0, [.ref q659301, .int 0, .int p659303, .int p659304]) ∧ F659330 q659300 = .inl (I .byte, n659306, .inl f659328) ∧ F659330 q659301 = .inl (I .byte, n659308, .inl f659307) ∧ dc ≤ 0 ∧ ds ≤ 0 ∧ gF f659328 (-128) 127 ∧ sK f659305 f659328 p659302.toInt ∧ sF f659307 f659328 p659302.toInt (n659308 : Int) ∧ tr_RString_getBytes p659302 f659305 f659307 n659308 f659328
set_option maxRecDepth 100000 in
set_option maxHeartbeats 4000000 in
theorem cp_659312_String_getBytes (l : Launch) (hl0 : l.stackTraces = false) (D : va_G) (I : FieldType → ClassId) (P659297 : List Nat) (F659298 : Nat → va_E) (q659299 : Nat) (q659300 : Nat) (q659301 : Nat) (p659302 : Int32) (p659303 : Int32) (p659304 : Int32) (f659305 : Nat → Int32) (n659306 : Nat) (f659307 : Nat → Int32) (n659308 : Nat) (hmq659299 : q659299 ∈ P659297) (hmq659300 : q659300 ∈ P659297) (hmq659301 : q659301 ∈ P659297) (heq659299 : F659298 q659299 = .inr (0, [.ref q659301, .int 0, .int p659303, .int p659304])) (heq659300 : F659298 q659300 = .inl (I .byte, n659306, .inl f659305)) (heq659301 : F659298 q659301 = .inl (I .byte, n659308, .inl f659307)) (hneq659300q659301 : q659300 ≠ q659301) (bp659302 : gB p659302 0 16777216) (bp659304 : gB p659304 0 1) (bf659305 : gF f659305 (-128) 127) (bf659307 : gF f659307 (-128) 127) (x659309 : p659302.toInt + (n659308 : Int) ≤ (n659306 : Int)) (x659310 : ((n659306 : Int) ≤ 16777216)) (x659311 : ((n659308 : Int) ≤ 16777216)) : CtA (gV D I) l yJ0_getBytes_840e7 cJ0_getBytes_840e7 4 none 1 20 0 0 [.ref q659299, .ref q659300, .int p659302, .int 0] (va_pl P659297 F659298) (pp_659312_String_getBytes D I P659297 F659298 q659299 q659300 q659301 p659302 p659303 p659304 f659305 n659306 f659307 n659308) gNA := by
  refine CtA_ofF hl0 (by decide +kernel) (Nat.le_of_ble_eq_true rfl) ?_
  have bp659303 := gB_any p659303
  refine G_aload_n 0 dr_cJ0_getBytes_840e7_0 rfl ?_
  refine Gw_callV (As := []) (gV_ok D I) (cp_659228_String_coder l hl0 D I P659297 F659298 q659299 q659301 p659303 p659304 f659307 n659308 hmq659299 hmq659301 heq659299 heq659301 bp659304 bf659307 (by have qa0 : Int32.toInt 0 = 0 := (by decide); omega)) dr_cJ0_getBytes_840e7_1 ⟨wr_3_61, wr_1_21, wr_3_64, by decide, rfl, (Nat.le_of_ble_eq_true rfl), (Nat.le_of_ble_eq_true rfl)⟩ wr_3_62 wr_3_63 hmq659299 heq659299 rfl (show 0 + 0 ≤ 0 by first | omega | decide) (show 0 + 0 ≤ 0 by first | omega | decide) (Nat.le_of_ble_eq_true rfl) (fun r659316 w659317 dc659313 ds659314 hp659315 => ?_) (fun _ _ _ _ _ z => z.elim)
  obtain ⟨rfl, rfl, hdc, hds⟩ := hp659315
  change G _ _ _ _ _ _ _ (.int 0 :: _) _ _ _
  refine G_widen (cs' := 0) (sl' := 0) (by omega) (by omega) ?_
  refine G_iload_n 3 dr_cJ0_getBytes_840e7_4 rfl ?_
  refine G_icmp_ne 28 dr_cJ0_getBytes_840e7_5 (by decide +kernel) (fun hc => absurd hc (by decide)) (fun _ => ?_)
  refine G_aload_n 0 dr_cJ0_getBytes_840e7_8 rfl ?_
  refine Gp_get 0 hmq659299 heq659299 dr_cJ0_getBytes_840e7_9 (gk_J0 D I) (Nat.le_of_ble_eq_true rfl) wr_8_182 rfl ?_
  refine G_iconst 0 dr_cJ0_getBytes_840e7_12 (by decide +kernel) ?_
  refine G_aload_n 1 dr_cJ0_getBytes_840e7_13 rfl ?_
  refine G_iload_n 2 dr_cJ0_getBytes_840e7_14 rfl ?_
  refine G_iload_n 3 dr_cJ0_getBytes_840e7_15 rfl ?_
  refine G_ishl dr_cJ0_getBytes_840e7_16 (G_nam fun z659318 hz659318 => ?_)
  have ez659318 : z659318.toInt = p659302.toInt * 1 := gI_shl (k := 0) hz659318 (by decide) bp659302 (by decide) (by decide)
  have bz659318 : gB z659318 0 16777216 := ⟨by omega, by omega⟩
  refine G_aload_n 0 dr_cJ0_getBytes_840e7_17 rfl ?_
  refine Gp_get 0 hmq659299 heq659299 dr_cJ0_getBytes_840e7_18 (gk_J0 D I) (Nat.le_of_ble_eq_true rfl) wr_8_182 rfl ?_
  refine Gp_alen (Int32.ofNat n659308) 1 hmq659301 heq659301 dr_cJ0_getBytes_840e7_21 rfl rfl (G_nam fun z659319 hz659319 => ?_)
  have ez659319 : z659319.toInt = (n659308 : Nat) := gI_ofM hz659319 (by omega)
  have bz659319 : gB z659319 0 16777216 := ⟨by omega, by omega⟩
  refine Gp_copyp 1 hmq659301 hmq659300 heq659301 heq659300 dr_cJ0_getBytes_840e7_22 wr_8_168 wr_5_113 wr_5_112 wr_1_34 rfl rfl (fun j => gT_byte (bf659307 j)) (by decide) (by omega) (by omega) (by have qa0 : Int32.toInt 0 = 0 := (by decide); omega) (by have qa0 : Int32.toInt 0 = 0 := (by decide); omega) (Nat.le_of_ble_eq_true rfl) (Nat.le_of_ble_eq_true rfl) (fun F659320 e659321 n659322 => ?_)
  obtain ⟨f659323, hf659323⟩ : ∃ z, z = va_cpy f659307 f659305 (0 : Int32).toNatClampNeg z659318.toNatClampNeg z659319.toNatClampNeg := ⟨_, rfl⟩
  rw [← hf659323] at e659321
  have bf659323 : gF f659323 (-128) 127 := gF_cpy hf659323 bf659307 bf659305
  have he659324 : F659320 q659299 = .inr (0, [.ref q659301, .int 0, .int p659303, .int p659304]) := (n659322 q659299 (rn_oa heq659299 heq659300)).trans heq659299
  have he659325 : F659320 q659301 = .inl (I .byte, n659308, .inl f659307) := (n659322 q659301 (Ne.symm hneq659300q659301)).trans heq659301
  have he659326 : F659320 q659300 = .inl (I .byte, n659306, .inl f659323) := e659321
  have hfr659327 : rFr [q659300] P659297 F659298 F659320 := rFr_put (rFr_rf (W := []) (P := P659297) (F := F659298)) n659322
  refine G_goto 43 dr_cJ0_getBytes_840e7_25 (by decide +kernel) ?_
  exact G_vretA dr_cJ0_getBytes_840e7_43 rfl (Nat.le_of_ble_eq_true rfl) (Nat.le_of_ble_eq_true rfl) ⟨F659320, f659323, rfl, rfl, hfr659327, he659324, he659326, he659325, (Nat.le_of_ble_eq_true rfl), (Nat.le_of_ble_eq_true rfl), bf659323, (sK_cpy hf659323 (by omega)), (sF_cpy hf659323 (by decide) (by omega) (by omega)), (fun R c1 => c1 z659318 z659319 f659323 ez659318 ez659319 hf659323)⟩
/- tr_RAbstractStringBuilder_putStringAt: a.0.value.[] -/
def tr_RAbstractStringBuilder_putStringAt (a1 : Int32) (a0_value_v : Nat → Int32) (a2_value_v : Nat → Int32) (a2_value_n : Nat) (o1 : Nat → Int32) : Prop := ∀ R : (Nat → Int32) → Prop,
  (∀ (x1 : Nat → Int32), tr_RString_getBytes a1 a0_value_v a2_value_v a2_value_n x1 → R x1) →
  R o1
abbrev ky_659269_AbstractStringBuilder_putStringAt : gKey := (cJ5_putStringAt_47b60, 3, "java/lang/AbstractStringBuilder", none, [], "putStringAt", fun _ _ => True)
def pp_659269_AbstractStringBuilder_putStringAt (D : va_G) (I : FieldType → ClassId) (P659251 : List Nat) (F659252 : Nat → va_E) (q659253 : Nat) (q659254 : Nat) (q659255 : Nat) (q659256 : Nat) (p659257 : Int32) (p659258 : Int32) (p659259 : Int32) (p659260 : Int32) (p659261 : Int32) (f659262 : Nat → Int32) (n659263 : Nat) (f659264 : Nat → Int32) (n659265 : Nat) : Option Value → va_W → Nat → Nat → Prop := fun r w dc ds => ∃ (F659350 : Nat → va_E) (f659348 : Nat → Int32), r = none ∧ w = va_pl P659251 F659350 ∧ rFr [q659255] P659251 F659252 F659350 ∧ F659350 q659253 = .inr (1, [.ref q659255, .int 0, .int p659258, .int p659259]) ∧ F659350 q659254 = .inr (0, [.ref q659256, .int 0, .int p659260, .int p659261]) ∧ F659350 q659255 = .inl (I .byte, n659263, .inl f659348) ∧ F659350 q659256 = .inl (I .byte, n659265, .inl f659264) ∧ dc ≤ 0 ∧ ds ≤ 0 ∧ gF f659348 (-128) 127 ∧ sK f659262 f659348 p659257.toInt ∧ sF f659264 f659348 p659257.toInt (n659265 : Int) ∧ tr_RAbstractStringBuilder_putStringAt p659257 f659262 f659264 n659265 f659348
set_option maxRecDepth 100000 in
set_option maxHeartbeats 4000000 in
theorem cp_659269_AbstractStringBuilder_putStringAt (l : Launch) (hl0 : l.stackTraces = false) (D : va_G) (I : FieldType → ClassId) (P659251 : List Nat) (F659252 : Nat → va_E) (q659253 : Nat) (q659254 : Nat) (q659255 : Nat) (q659256 : Nat) (p659257 : Int32) (p659258 : Int32) (p659259 : Int32) (p659260 : Int32) (p659261 : Int32) (f659262 : Nat → Int32) (n659263 : Nat) (f659264 : Nat → Int32) (n659265 : Nat) (hmq659253 : q659253 ∈ P659251) (hmq659254 : q659254 ∈ P659251) (hmq659255 : q659255 ∈ P659251) (hmq659256 : q659256 ∈ P659251) (heq659253 : F659252 q659253 = .inr (1, [.ref q659255, .int 0, .int p659258, .int p659259])) (heq659254 : F659252 q659254 = .inr (0, [.ref q659256, .int 0, .int p659260, .int p659261])) (heq659255 : F659252 q659255 = .inl (I .byte, n659263, .inl f659262)) (heq659256 : F659252 q659256 = .inl (I .byte, n659265, .inl f659264)) (hneq659255q659256 : q659255 ≠ q659256) (bp659257 : gB p659257 0 16777216) (bp659258 : gB p659258 0 1) (bp659259 : gB p659259 0 16777216) (bp659261 : gB p659261 0 1) (bf659262 : gF f659262 (-128) 127) (bf659264 : gF f659264 (-128) 127) (x659266 : p659257.toInt + (n659265 : Int) ≤ (n659263 : Int)) (x659267 : ((n659263 : Int) ≤ 16777216)) (x659268 : ((n659265 : Int) ≤ 16777216)) : CtA (gV D I) l yJ5_putStringAt_47b60 cJ5_putStringAt_47b60 3 none 2 43 0 0 [.ref q659253, .int p659257, .ref q659254] (va_pl P659251 F659252) (pp_659269_AbstractStringBuilder_putStringAt D I P659251 F659252 q659253 q659254 q659255 q659256 p659257 p659258 p659259 p659260 p659261 f659262 n659263 f659264 n659265) gNA := by
  refine CtA_ofF hl0 (by decide +kernel) (Nat.le_of_ble_eq_true rfl) ?_
  have bp659260 := gB_any p659260
  refine G_aload_n 0 dr_cJ5_putStringAt_47b60_0 rfl ?_
  refine G_aload_n 2 dr_cJ5_putStringAt_47b60_1 rfl ?_
  refine Gw_callVB (As := [.ref q659254]) (gV_ok D I) (cp_659286_AbstractStringBuilder_inflateIfNeededFor l hl0 D I P659251 F659252 q659253 q659254 q659255 q659256 p659258 p659259 p659260 p659261 f659262 n659263 f659264 n659265 hmq659253 hmq659254 hmq659255 hmq659256 heq659253 heq659254 heq659255 heq659256 hneq659255q659256 bp659258 bp659259 bp659261 bf659262 bf659264 (by have qa0 : Int32.toInt 0 = 0 := (by decide); omega) (by have qa0 : Int32.toInt 0 = 0 := (by decide); omega)) dr_cJ5_putStringAt_47b60_2 ⟨wr_8_159, wr_1_19, wr_8_162, by decide, rfl, (Nat.le_of_ble_eq_true rfl), (Nat.le_of_ble_eq_true rfl)⟩ wr_8_161 wr_s_5 hmq659253 heq659253 rfl (show 0 + 0 ≤ 0 by first | omega | decide) (show 0 + 0 ≤ 0 by first | omega | decide) (Nat.le_of_ble_eq_true rfl) (fun r659295 w659296 dc659292 ds659293 hp659294 => ?_) (fun _ _ _ _ _ z => z.elim)
  obtain ⟨rfl, rfl, hdc, hds⟩ := hp659294
  change G _ _ _ _ _ _ _ _ _ _ _
  refine G_widen (cs' := 0) (sl' := 0) (by omega) (by omega) ?_
  refine G_aload_n 2 dr_cJ5_putStringAt_47b60_5 rfl ?_
  refine G_aload_n 0 dr_cJ5_putStringAt_47b60_6 rfl ?_
  refine Gp_get 0 hmq659253 heq659253 dr_cJ5_putStringAt_47b60_7 (gk_J4 D I) (Nat.le_of_ble_eq_true rfl) wr_7_60 rfl ?_
  refine G_iload_n 1 dr_cJ5_putStringAt_47b60_10 rfl ?_
  refine G_aload_n 0 dr_cJ5_putStringAt_47b60_11 rfl ?_
  refine Gp_get 1 hmq659253 heq659253 dr_cJ5_putStringAt_47b60_12 (gk_J4 D I) (Nat.le_of_ble_eq_true rfl) wr_7_61 rfl ?_
  refine Gw_callV (As := [.ref q659255, .int p659257, .int 0]) (gV_ok D I) (cp_659312_String_getBytes l hl0 D I P659251 F659252 q659254 q659255 q659256 p659257 p659260 p659261 f659262 n659263 f659264 n659265 hmq659254 hmq659255 hmq659256 heq659254 heq659255 heq659256 hneq659255q659256 bp659257 bp659261 bf659262 bf659264 (by have qa0 : Int32.toInt 0 = 0 := (by decide); omega) (by have qa0 : Int32.toInt 0 = 0 := (by decide); omega) (by have qa0 : Int32.toInt 0 = 0 := (by decide); omega)) dr_cJ5_putStringAt_47b60_15 ⟨wr_8_164, wr_1_21, wr_8_167, by decide, rfl, (Nat.le_of_ble_eq_true rfl), (Nat.le_of_ble_eq_true rfl)⟩ wr_8_165 wr_8_166 hmq659254 heq659254 rfl (show 0 + 0 ≤ 0 by first | omega | decide) (show 0 + 0 ≤ 0 by first | omega | decide) (Nat.le_of_ble_eq_true rfl) (fun r659334 w659335 dc659331 ds659332 hp659333 => ?_) (fun _ _ _ _ _ z => z.elim)
  obtain ⟨F659340, f659336, rfl, rfl, hfr659342, he659343, he659344, he659345, hdc, hds, bf659336, x659337, x659338, ht659339⟩ := hp659333
  have he659346 : F659340 q659253 = .inr (1, [.ref q659255, .int 0, .int p659258, .int p659259]) := (hfr659342 q659253 hmq659253 (nm_c (rn_oa heq659253 heq659255) nm_n)).trans heq659253
  have hfr659347 : rFr [q659255] P659251 F659252 F659340 := rFr_call (rSub_rf (P := P659251)) (rFr_rf (W := []) (P := P659251) (F := F659252)) hfr659342 (fun b hb hn => ⟨nm_n, (nm_c (fun e => hn (e ▸ List.mem_cons_self)) nm_n)⟩)
  change G _ _ _ _ _ _ _ _ _ _ _
  refine G_widen (cs' := 0) (sl' := 0) (by omega) (by omega) ?_
  exact G_vretA dr_cJ5_putStringAt_47b60_18 rfl (Nat.le_of_ble_eq_true rfl) (Nat.le_of_ble_eq_true rfl) ⟨F659340, f659336, rfl, rfl, hfr659347, he659346, he659343, he659344, he659345, (Nat.le_of_ble_eq_true rfl), (Nat.le_of_ble_eq_true rfl), bf659336, (sK_c x659337 (by omega)), (by assumption), (fun R c1 => c1 f659336 ht659339)⟩
/- tr_RAbstractStringBuilder_append3: a.0...count, a.0.value.[] -/
def tr_RAbstractStringBuilder_append3 (a0_count : Int32) (a0_value_v : Nat → Int32) (a0_value_n : Nat) (a1_value_v : Nat → Int32) (a1_value_n : Nat) (o1 : Int32) (o2 : Nat → Int32) : Prop := ∀ R : (Int32) → (Nat → Int32) → Prop,
  (∀ (x1 : Int32) (x2 : Int32) (x3 : Nat → Int32) (x4 : Int32), gB x1 0 16777216 → tr_RString_length a1_value_n x1 → x2.toInt = a0_count.toInt + x1.toInt → tr_RAbstractStringBuilder_ensureCapacityInternal x2 a0_value_n → tr_RAbstractStringBuilder_putStringAt a0_count a0_value_v a1_value_v a1_value_n x3 → x4.toInt = a0_count.toInt + x1.toInt → R x4 x3) →
  R o1 o2
abbrev ky_659207_AbstractStringBuilder_append : gKey := (cJ5_append_cf1ce, 3, "java/lang/AbstractStringBuilder", (some (FieldType.object "java/lang/AbstractStringBuilder")), [], "append", fun _ _ => True)
def pp_659207_AbstractStringBuilder_append (D : va_G) (I : FieldType → ClassId) (P659190 : List Nat) (F659191 : Nat → va_E) (q659192 : Nat) (q659193 : Nat) (q659194 : Nat) (q659195 : Nat) (p659196 : Int32) (p659197 : Int32) (p659198 : Int32) (p659199 : Int32) (f659200 : Nat → Int32) (n659201 : Nat) (f659202 : Nat → Int32) (n659203 : Nat) : Option Value → va_W → Nat → Nat → Prop := fun r w dc ds => ∃ (F659380 : Nat → va_E) (o659377 : Int32) (f659378 : Nat → Int32), r = some (.ref q659192) ∧ w = va_pl P659190 F659380 ∧ rFr [q659192, q659194] P659190 F659191 F659380 ∧ F659380 q659192 = .inr (1, [.ref q659194, .int 0, .int p659196, .int o659377]) ∧ F659380 q659193 = .inr (0, [.ref q659195, .int 0, .int p659198, .int p659199]) ∧ F659380 q659194 = .inl (I .byte, n659201, .inl f659378) ∧ F659380 q659195 = .inl (I .byte, n659203, .inl f659202) ∧ dc ≤ 0 ∧ ds ≤ 0 ∧ gB o659377 0 16777216 ∧ gF f659378 (-128) 127 ∧ o659377.toInt = p659197.toInt + (n659203 : Int) ∧ sK f659200 f659378 p659197.toInt ∧ sF f659202 f659378 p659197.toInt (n659203 : Int) ∧ tr_RAbstractStringBuilder_append3 p659197 f659200 n659201 f659202 n659203 o659377 f659378
set_option maxRecDepth 100000 in
set_option maxHeartbeats 4000000 in
theorem cp_659207_AbstractStringBuilder_append (l : Launch) (hl0 : l.stackTraces = false) (D : va_G) (I : FieldType → ClassId) (P659190 : List Nat) (F659191 : Nat → va_E) (q659192 : Nat) (q659193 : Nat) (q659194 : Nat) (q659195 : Nat) (p659196 : Int32) (p659197 : Int32) (p659198 : Int32) (p659199 : Int32) (f659200 : Nat → Int32) (n659201 : Nat) (f659202 : Nat → Int32) (n659203 : Nat) (hmq659192 : q659192 ∈ P659190) (hmq659193 : q659193 ∈ P659190) (hmq659194 : q659194 ∈ P659190) (hmq659195 : q659195 ∈ P659190) (heq659192 : F659191 q659192 = .inr (1, [.ref q659194, .int 0, .int p659196, .int p659197])) (heq659193 : F659191 q659193 = .inr (0, [.ref q659195, .int 0, .int p659198, .int p659199])) (heq659194 : F659191 q659194 = .inl (I .byte, n659201, .inl f659200)) (heq659195 : F659191 q659195 = .inl (I .byte, n659203, .inl f659202)) (hneq659194q659195 : q659194 ≠ q659195) (bp659196 : gB p659196 0 1) (bp659197 : gB p659197 0 16777216) (bp659199 : gB p659199 0 1) (bf659200 : gF f659200 (-128) 127) (bf659202 : gF f659202 (-128) 127) (x659204 : p659197.toInt + (n659203 : Int) ≤ (n659201 : Int)) (x659205 : ((n659201 : Int) ≤ 16777216)) (x659206 : ((n659203 : Int) ≤ 16777216)) : CtA (gV D I) l yJ5_append_cf1ce cJ5_append_cf1ce 3 (some (FieldType.object "java/lang/AbstractStringBuilder")) 3 65 0 0 [.ref q659192, .ref q659193] (va_pl P659190 F659191) (pp_659207_AbstractStringBuilder_append D I P659190 F659191 q659192 q659193 q659194 q659195 p659196 p659197 p659198 p659199 f659200 n659201 f659202 n659203) gNA := by
  refine CtA_ofF hl0 (by decide +kernel) (Nat.le_of_ble_eq_true rfl) ?_
  have bp659198 := gB_any p659198
  refine G_aload_n 1 dr_cJ5_append_cf1ce_0 rfl ?_
  refine G_ifnonnull 9 dr_cJ5_append_cf1ce_1 (by decide +kernel) ?_
  refine G_aload_n 1 dr_cJ5_append_cf1ce_9 rfl ?_
  refine Gw_callV (As := []) (gV_ok D I) (cp_659217_String_length l hl0 D I P659190 F659191 q659193 q659195 p659198 p659199 f659202 n659203 hmq659193 hmq659195 heq659193 heq659195 bp659199 bf659202 (by have qa0 : Int32.toInt 0 = 0 := (by decide); omega)) dr_cJ5_append_cf1ce_10 ⟨wr_8_154, wr_1_21, wr_3_60, by decide, rfl, (Nat.le_of_ble_eq_true rfl), (Nat.le_of_ble_eq_true rfl)⟩ wr_3_58 wr_3_59 hmq659193 heq659193 rfl (show 0 + 0 ≤ 0 by first | omega | decide) (show 0 + 0 ≤ 0 by first | omega | decide) (Nat.le_of_ble_eq_true rfl) (fun r659239 w659240 dc659236 ds659237 hp659238 => ?_) (fun _ _ _ _ _ z => z.elim)
  obtain ⟨o659241, rfl, rfl, hdc, hds, bo659241, x659242, ht659243⟩ := hp659238
  change G _ _ _ _ _ _ _ (.int o659241 :: _) _ _ _
  refine G_widen (cs' := 0) (sl' := 0) (by omega) (by omega) ?_
  refine G_istore_n (L' := [(2, .int o659241), (0, .ref q659192), (1, .ref q659193)]) dr_cJ5_append_cf1ce_13 (Nat.le_of_ble_eq_true rfl) rfl ?_
  refine G_aload_n 1 dr_cJ5_append_cf1ce_14 rfl ?_
  refine G_aload_n 1 dr_cJ5_append_cf1ce_15 rfl ?_
  refine Gp_get 3 hmq659192 heq659192 dr_cJ5_append_cf1ce_16 (gk_J4 D I) (Nat.le_of_ble_eq_true rfl) wr_7_64 rfl ?_
  refine G_iload_n 0 dr_cJ5_append_cf1ce_19 rfl ?_
  refine G_iadd dr_cJ5_append_cf1ce_20 (G_nam fun z659244 hz659244 => ?_)
  have ez659244 : z659244.toInt = p659197.toInt + o659241.toInt := by rw [gI_add hz659244 bp659197 bo659241 (by decide) (by decide)]
  have bz659244 : gB z659244 0 33554432 := gB_add (gI_add hz659244 bp659197 bo659241 (by decide) (by decide)) bp659197 bo659241 (by decide) (by decide)
  refine Gw_callVB (As := [.int z659244]) (gV_ok D I) (cp_658701_AbstractStringBuilder_ensureCapacityInternal l hl0 D I P659190 F659191 q659192 q659194 z659244 p659196 p659197 f659200 n659201 hmq659192 hmq659194 heq659192 heq659194 ⟨by omega, by omega⟩ bp659196 bp659197 bf659200 (by have qa0 : Int32.toInt 0 = 0 := (by decide); omega) (by have qa0 : Int32.toInt 0 = 0 := (by decide); omega)) dr_cJ5_append_cf1ce_21 ⟨wr_8_4, wr_1_19, wr_8_7, by decide, rfl, (Nat.le_of_ble_eq_true rfl), (Nat.le_of_ble_eq_true rfl)⟩ wr_8_6 wr_s_0 hmq659192 heq659192 rfl (show 0 + 0 ≤ 0 by first | omega | decide) (show 0 + 0 ≤ 0 by first | omega | decide) (Nat.le_of_ble_eq_true rfl) (fun r659248 w659249 dc659245 ds659246 hp659247 => ?_) (fun _ _ _ _ _ z => z.elim)
  obtain ⟨rfl, rfl, hdc, hds, ht659250⟩ := hp659247
  change G _ _ _ _ _ _ _ _ _ _ _
  refine G_widen (cs' := 0) (sl' := 0) (by omega) (by omega) ?_
  refine G_aload_n 1 dr_cJ5_append_cf1ce_24 rfl ?_
  refine G_aload_n 1 dr_cJ5_append_cf1ce_25 rfl ?_
  refine Gp_get 3 hmq659192 heq659192 dr_cJ5_append_cf1ce_26 (gk_J4 D I) (Nat.le_of_ble_eq_true rfl) wr_7_64 rfl ?_
  refine G_aload_n 2 dr_cJ5_append_cf1ce_29 rfl ?_
  refine Gw_callVB (As := [.int p659197, .ref q659193]) (gV_ok D I) (cp_659269_AbstractStringBuilder_putStringAt l hl0 D I P659190 F659191 q659192 q659193 q659194 q659195 p659197 p659196 p659197 p659198 p659199 f659200 n659201 f659202 n659203 hmq659192 hmq659193 hmq659194 hmq659195 heq659192 heq659193 heq659194 heq659195 hneq659194q659195 bp659197 bp659196 bp659197 bp659199 bf659200 bf659202 (by have qa0 : Int32.toInt 0 = 0 := (by decide); omega) (by have qa0 : Int32.toInt 0 = 0 := (by decide); omega) (by have qa0 : Int32.toInt 0 = 0 := (by decide); omega)) dr_cJ5_append_cf1ce_30 ⟨wr_8_155, wr_1_19, wr_8_158, by decide, rfl, (Nat.le_of_ble_eq_true rfl), (Nat.le_of_ble_eq_true rfl)⟩ wr_8_157 wr_s_4 hmq659192 heq659192 rfl (show 0 + 0 ≤ 0 by first | omega | decide) (show 0 + 0 ≤ 0 by first | omega | decide) (Nat.le_of_ble_eq_true rfl) (fun r659354 w659355 dc659351 ds659352 hp659353 => ?_) (fun _ _ _ _ _ z => z.elim)
  obtain ⟨F659360, f659356, rfl, rfl, hfr659362, he659363, he659364, he659365, he659366, hdc, hds, bf659356, x659357, x659358, ht659359⟩ := hp659353
  have hfr659367 : rFr [q659194] P659190 F659191 F659360 := rFr_call (rSub_rf (P := P659190)) (rFr_rf (W := []) (P := P659190) (F := F659191)) hfr659362 (fun b hb hn => ⟨nm_n, (nm_c (fun e => hn (e ▸ List.mem_cons_self)) nm_n)⟩)
  change G _ _ _ _ _ _ _ _ _ _ _
  refine G_widen (cs' := 0) (sl' := 0) (by omega) (by omega) ?_
  refine G_aload_n 1 dr_cJ5_append_cf1ce_33 rfl ?_
  refine G_dup dr_cJ5_append_cf1ce_34 rfl ?_
  refine Gp_get 3 hmq659192 he659363 dr_cJ5_append_cf1ce_35 (gk_J4 D I) (Nat.le_of_ble_eq_true rfl) wr_7_64 rfl ?_
  refine G_iload_n 0 dr_cJ5_append_cf1ce_38 rfl ?_
  refine G_iadd dr_cJ5_append_cf1ce_39 (G_nam fun z659368 hz659368 => ?_)
  have ez659368 : z659368.toInt = p659197.toInt + o659241.toInt := by rw [gI_add hz659368 bp659197 bo659241 (by decide) (by decide)]
  have bz659368 : gB z659368 0 33554432 := gB_add (gI_add hz659368 bp659197 bo659241 (by decide) (by decide)) bp659197 bo659241 (by decide) (by decide)
  refine Gp_put 3 hmq659192 he659363 dr_cJ5_append_cf1ce_40 (gk_J4 D I) (Nat.le_of_ble_eq_true rfl) wr_7_64 rfl rfl rfl (Nat.le_of_ble_eq_true rfl) (fun F659369 e659370 n659371 => ?_)
  have he659372 : F659369 q659193 = .inr (0, [.ref q659195, .int 0, .int p659198, .int p659199]) := (n659371 q659193 (rn_oo he659364 he659363 (by decide))).trans he659364
  have he659373 : F659369 q659194 = .inl (I .byte, n659201, .inl f659356) := (n659371 q659194 (rn_ao he659365 he659363)).trans he659365
  have he659374 : F659369 q659195 = .inl (I .byte, n659203, .inl f659202) := (n659371 q659195 (rn_ao he659366 he659363)).trans he659366
  have he659375 : F659369 q659192 = .inr (1, [.ref q659194, .int 0, .int p659196, .int z659368]) := e659370
  have hfr659376 : rFr [q659192, q659194] P659190 F659191 F659369 := rFr_put hfr659367 n659371
  refine G_aload_n 1 dr_cJ5_append_cf1ce_43 rfl ?_
  exact G_aretA (FieldType.object "java/lang/AbstractStringBuilder") dr_cJ5_append_cf1ce_44 rfl (by first | exact Or.inl ⟨_, rfl⟩ | exact Or.inr ⟨_, rfl⟩) (Or.inr ⟨_, rfl⟩) (Nat.le_of_ble_eq_true rfl) (Nat.le_of_ble_eq_true rfl) ⟨F659369, z659368, f659356, rfl, rfl, hfr659376, he659375, he659372, he659373, he659374, (Nat.le_of_ble_eq_true rfl), (Nat.le_of_ble_eq_true rfl), ⟨by omega, by omega⟩, bf659356, (by have qa0 : Int32.toInt 0 = 0 := (by decide); omega), (sK_c x659357 (by omega)), (by assumption), (fun R c1 => c1 o659241 z659244 f659356 z659368 bo659241 ht659243 ez659244 ht659250 ht659359 ez659368)⟩
/- tr_RStringBuilder_append3: a.0...count, a.0.value.[] -/
def tr_RStringBuilder_append3 (a0_count : Int32) (a0_value_v : Nat → Int32) (a0_value_n : Nat) (a1_value_v : Nat → Int32) (a1_value_n : Nat) (o1 : Int32) (o2 : Nat → Int32) : Prop := ∀ R : (Int32) → (Nat → Int32) → Prop,
  (∀ (x1 : Int32) (x2 : Nat → Int32), gB x1 0 16777216 → tr_RAbstractStringBuilder_append3 a0_count a0_value_v a0_value_n a1_value_v a1_value_n x1 x2 → R x1 x2) →
  R o1 o2
