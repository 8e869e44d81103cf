theorem dr_cJ5_setLength_d00df_0 : decode cJ5_setLength_d00df 0 = .ok (.iload_n 1, 1) := by decide +kernel
theorem dr_cJ5_setLength_d00df_1 : decode cJ5_setLength_d00df 1 = .ok (.ifCond .ge 12, 3) := by decide +kernel
theorem dr_cJ5_setLength_d00df_13 : decode cJ5_setLength_d00df 13 = .ok (.aload_n 0, 1) := by decide +kernel
theorem dr_cJ5_setLength_d00df_14 : decode cJ5_setLength_d00df 14 = .ok (.iload_n 1, 1) := by decide +kernel
theorem dr_cJ5_setLength_d00df_15 : decode cJ5_setLength_d00df 15 = .ok (.invokevirtual 100, 3) := by decide +kernel
theorem dr_cJ5_setLength_d00df_18 : decode cJ5_setLength_d00df 18 = .ok (.aload_n 0, 1) := by decide +kernel
theorem dr_cJ5_setLength_d00df_19 : decode cJ5_setLength_d00df 19 = .ok (.getfield 79, 3) := by decide +kernel
theorem dr_cJ5_setLength_d00df_22 : decode cJ5_setLength_d00df 22 = .ok (.iload_n 1, 1) := by decide +kernel
theorem dr_cJ5_setLength_d00df_23 : decode cJ5_setLength_d00df 23 = .ok (.if_icmp .ge 40, 3) := by decide +kernel
theorem dr_cJ5_setLength_d00df_63 : decode cJ5_setLength_d00df 63 = .ok (.aload_n 0, 1) := by decide +kernel
theorem dr_cJ5_setLength_d00df_64 : decode cJ5_setLength_d00df 64 = .ok (.getfield 79, 3) := by decide +kernel
theorem dr_cJ5_setLength_d00df_67 : decode cJ5_setLength_d00df 67 = .ok (.iload_n 1, 1) := by decide +kernel
theorem dr_cJ5_setLength_d00df_68 : decode cJ5_setLength_d00df 68 = .ok (.if_icmp .le 8, 3) := by decide +kernel
theorem dr_cJ5_setLength_d00df_76 : decode cJ5_setLength_d00df 76 = .ok (.aload_n 0, 1) := by decide +kernel
theorem dr_cJ5_setLength_d00df_77 : decode cJ5_setLength_d00df 77 = .ok (.iload_n 1, 1) := by decide +kernel
theorem dr_cJ5_setLength_d00df_78 : decode cJ5_setLength_d00df 78 = .ok (.putfield 79, 3) := by decide +kernel
theorem dr_cJ5_setLength_d00df_81 : decode cJ5_setLength_d00df 81 = .ok (.return_, 1) := by decide +kernel
theorem dr_cJ5_setLength_d00df_71 : decode cJ5_setLength_d00df 71 = .ok (.aload_n 0, 1) := by decide +kernel
theorem dr_cJ5_setLength_d00df_72 : decode cJ5_setLength_d00df 72 = .ok (.iconst 1, 1) := by decide +kernel
theorem dr_cJ5_setLength_d00df_73 : decode cJ5_setLength_d00df 73 = .ok (.putfield 73, 3) := by decide +kernel
theorem wr_7_62 : (Jvm.Cond.fieldLink "java/lang/AbstractStringBuilder" (73 : Nat) "java/lang/AbstractStringBuilder" "maybeLatin1" "Z") ∈ gw := gw_7 62 rfl rfl
theorem dr_cJ4_setLength_d00df_0 : decode cJ4_setLength_d00df 0 = .ok (.aload_n 0, 1) := by decide +kernel
theorem dr_cJ4_setLength_d00df_1 : decode cJ4_setLength_d00df 1 = .ok (.iload_n 1, 1) := by decide +kernel
theorem dr_cJ4_setLength_d00df_2 : decode cJ4_setLength_d00df 2 = .ok (.invokespecial 333, 3) := by decide +kernel
theorem wr_11_129 : (Jvm.Cond.methodLink "java/lang/StringBuilder" (333 : Nat) ({ cls := "java/lang/AbstractStringBuilder", name := "setLength", desc := "(I)V" } : Jvm.MethodName)) ∈ gw := gw_11 129 rfl rfl
theorem wr_11_131 : (Jvm.Cond.code ({ cls := "java/lang/AbstractStringBuilder", name := "setLength", desc := "(I)V" } : Jvm.MethodName) prog_21_method_13_code (2 : Nat) (Option.none : Option Jvm.ClassFile.FieldType)) ∈ gw := gw_11 131 rfl rfl
theorem wr_11_130 : (Jvm.Cond.instanceMethod ({ cls := "java/lang/AbstractStringBuilder", name := "setLength", desc := "(I)V" } : Jvm.MethodName)) ∈ gw := gw_11 130 rfl rfl
theorem wr_11_233 : (Jvm.Cond.sameMethod "java/lang/AbstractStringBuilder" "java/lang/AbstractStringBuilder" "setLength" "(I)V") ∈ gw := gw_11 233 rfl rfl
theorem dr_cJ4_setLength_d00df_5 : decode cJ4_setLength_d00df 5 = .ok (.return_, 1) := by decide +kernel
theorem dr_cJ5_init_d00df_0 : decode cJ5_init_d00df 0 = .ok (.aload_n 0, 1) := by decide +kernel
theorem dr_cJ5_init_d00df_1 : decode cJ5_init_d00df 1 = .ok (.invokespecial 3, 3) := by decide +kernel
theorem wr_7_51 : (Jvm.Cond.methodLink "java/lang/AbstractStringBuilder" (3 : Nat) ({ cls := "java/lang/Object", name := "<init>", desc := "()V" } : Jvm.MethodName)) ∈ gw := gw_7 51 rfl rfl
theorem dr_cJ5_init_d00df_4 : decode cJ5_init_d00df 4 = .ok (.getstatic 18, 3) := by decide +kernel
theorem dr_cJ5_init_d00df_7 : decode cJ5_init_d00df 7 = .ok (.ifCond .eq 18, 3) := by decide +kernel
theorem dr_cJ5_init_d00df_10 : decode cJ5_init_d00df 10 = .ok (.aload_n 0, 1) := by decide +kernel
theorem dr_cJ5_init_d00df_11 : decode cJ5_init_d00df 11 = .ok (.iload_n 1, 1) := by decide +kernel
theorem dr_cJ5_init_d00df_12 : decode cJ5_init_d00df 12 = .ok (.newarray .byte, 2) := by decide +kernel
theorem dr_cJ5_init_d00df_14 : decode cJ5_init_d00df 14 = .ok (.putfield 15, 3) := by decide +kernel
theorem dr_cJ5_init_d00df_17 : decode cJ5_init_d00df 17 = .ok (.aload_n 0, 1) := by decide +kernel
theorem dr_cJ5_init_d00df_18 : decode cJ5_init_d00df 18 = .ok (.iconst 0, 1) := by decide +kernel
theorem dr_cJ5_init_d00df_19 : decode cJ5_init_d00df 19 = .ok (.putfield 22, 3) := by decide +kernel
theorem dr_cJ5_init_d00df_22 : decode cJ5_init_d00df 22 = .ok (.goto 16, 3) := by decide +kernel
theorem dr_cJ5_init_d00df_38 : decode cJ5_init_d00df 38 = .ok (.return_, 1) := by decide +kernel
theorem dr_cJ4_init_da8c8_0 : decode cJ4_init_da8c8 0 = .ok (.aload_n 0, 1) := by decide +kernel
theorem dr_cJ4_init_da8c8_1 : decode cJ4_init_da8c8 1 = .ok (.bipush 16, 2) := by decide +kernel
theorem dr_cJ4_init_da8c8_3 : decode cJ4_init_da8c8 3 = .ok (.invokespecial 1, 3) := by decide +kernel
theorem wr_7_48 : (Jvm.Cond.methodLink "java/lang/StringBuilder" (1 : Nat) ({ cls := "java/lang/AbstractStringBuilder", name := "<init>", desc := "(I)V" } : Jvm.MethodName)) ∈ gw := gw_7 48 rfl rfl
theorem wr_7_50 : (Jvm.Cond.code ({ cls := "java/lang/AbstractStringBuilder", name := "<init>", desc := "(I)V" } : Jvm.MethodName) prog_21_method_2_code (2 : Nat) (Option.none : Option Jvm.ClassFile.FieldType)) ∈ gw := gw_7 50 rfl rfl
theorem wr_7_49 : (Jvm.Cond.instanceMethod ({ cls := "java/lang/AbstractStringBuilder", name := "<init>", desc := "(I)V" } : Jvm.MethodName)) ∈ gw := gw_7 49 rfl rfl
theorem dr_cJ4_init_da8c8_6 : decode cJ4_init_da8c8 6 = .ok (.return_, 1) := by decide +kernel
theorem dr_cJ0_coder_7d493_0 : decode cJ0_coder_7d493 0 = .ok (.getstatic 38, 3) := by decide +kernel
theorem wr_3_65 : (Jvm.Cond.fieldLink "java/lang/String" (38 : Nat) "java/lang/String" "COMPACT_STRINGS" "Z") ∈ gw := gw_3 65 rfl rfl
theorem dr_cJ0_coder_7d493_3 : decode cJ0_coder_7d493 3 = .ok (.ifCond .eq 10, 3) := by decide +kernel
theorem dr_cJ0_coder_7d493_6 : decode cJ0_coder_7d493 6 = .ok (.aload_n 0, 1) := by decide +kernel
theorem dr_cJ0_coder_7d493_7 : decode cJ0_coder_7d493 7 = .ok (.getfield 15, 3) := by decide +kernel
theorem wr_8_183 : (Jvm.Cond.fieldLink "java/lang/String" (15 : Nat) "java/lang/String" "coder" "B") ∈ gw := gw_8 183 rfl rfl
theorem dr_cJ0_coder_7d493_10 : decode cJ0_coder_7d493 10 = .ok (.goto 4, 3) := by decide +kernel
theorem dr_cJ0_coder_7d493_14 : decode cJ0_coder_7d493 14 = .ok (.ireturn, 1) := by decide +kernel
theorem dr_cJ0_length_8abf5_0 : decode cJ0_length_8abf5 0 = .ok (.aload_n 0, 1) := by decide +kernel
theorem dr_cJ0_length_8abf5_1 : decode cJ0_length_8abf5 1 = .ok (.getfield 9, 3) := by decide +kernel
theorem wr_8_182 : (Jvm.Cond.fieldLink "java/lang/String" (9 : Nat) "java/lang/String" "value" "[B") ∈ gw := gw_8 182 rfl rfl
theorem dr_cJ0_length_8abf5_4 : decode cJ0_length_8abf5 4 = .ok (.arraylength, 1) := by decide +kernel
theorem dr_cJ0_length_8abf5_5 : decode cJ0_length_8abf5 5 = .ok (.aload_n 0, 1) := by decide +kernel
theorem dr_cJ0_length_8abf5_6 : decode cJ0_length_8abf5 6 = .ok (.invokevirtual 335, 3) := by decide +kernel
theorem wr_3_61 : (Jvm.Cond.methodLink "java/lang/String" (335 : Nat) ({ cls := "java/lang/String", name := "coder", desc := "()B" } : Jvm.MethodName)) ∈ gw := gw_3 61 rfl rfl
theorem wr_3_64 : (Jvm.Cond.code ({ cls := "java/lang/String", name := "coder", desc := "()B" } : Jvm.MethodName) prog_34_method_152_code (1 : Nat) (Option.some Jvm.ClassFile.FieldType.byte)) ∈ gw := gw_3 64 rfl rfl
theorem wr_3_62 : (Jvm.Cond.instanceMethod ({ cls := "java/lang/String", name := "coder", desc := "()B" } : Jvm.MethodName)) ∈ gw := gw_3 62 rfl rfl
theorem wr_3_63 : (Jvm.Cond.selects "java/lang/String" ({ cls := "java/lang/String", name := "coder", desc := "()B" } : Jvm.MethodName) ({ cls := "java/lang/String", name := "coder", desc := "()B" } : Jvm.MethodName)) ∈ gw := gw_3 63 rfl rfl
theorem dr_cJ0_length_8abf5_9 : decode cJ0_length_8abf5 9 = .ok (.ishr, 1) := by decide +kernel
theorem dr_cJ0_length_8abf5_10 : decode cJ0_length_8abf5 10 = .ok (.ireturn, 1) := by decide +kernel
theorem dr_cJ5_inflateIfNeededFor_a7421_0 : decode cJ5_inflateIfNeededFor_a7421 0 = .ok (.getstatic 18, 3) := by decide +kernel
theorem dr_cJ5_inflateIfNeededFor_a7421_3 : decode cJ5_inflateIfNeededFor_a7421 3 = .ok (.ifCond .eq 18, 3) := by decide +kernel
theorem dr_cJ5_inflateIfNeededFor_a7421_6 : decode cJ5_inflateIfNeededFor_a7421 6 = .ok (.aload_n 0, 1) := by decide +kernel
theorem dr_cJ5_inflateIfNeededFor_a7421_7 : decode cJ5_inflateIfNeededFor_a7421 7 = .ok (.getfield 22, 3) := by decide +kernel
theorem dr_cJ5_inflateIfNeededFor_a7421_10 : decode cJ5_inflateIfNeededFor_a7421 10 = .ok (.aload_n 1, 1) := by decide +kernel
theorem dr_cJ5_inflateIfNeededFor_a7421_11 : decode cJ5_inflateIfNeededFor_a7421 11 = .ok (.invokevirtual 40, 3) := by decide +kernel
theorem wr_8_163 : (Jvm.Cond.methodLink "java/lang/AbstractStringBuilder" (40 : Nat) ({ cls := "java/lang/String", name := "coder", desc := "()B" } : Jvm.MethodName)) ∈ gw := gw_8 163 rfl rfl
theorem dr_cJ5_inflateIfNeededFor_a7421_14 : decode cJ5_inflateIfNeededFor_a7421 14 = .ok (.if_icmp .eq 7, 3) := by decide +kernel
theorem dr_cJ5_inflateIfNeededFor_a7421_21 : decode cJ5_inflateIfNeededFor_a7421 21 = .ok (.return_, 1) := by decide +kernel
theorem dr_cJ0_getBytes_840e7_0 : decode cJ0_getBytes_840e7 0 = .ok (.aload_n 0, 1) := by decide +kernel
theorem dr_cJ0_getBytes_840e7_1 : decode cJ0_getBytes_840e7 1 = .ok (.invokevirtual 335, 3) := by decide +kernel
theorem dr_cJ0_getBytes_840e7_4 : decode cJ0_getBytes_840e7 4 = .ok (.iload_n 3, 1) := by decide +kernel
theorem dr_cJ0_getBytes_840e7_5 : decode cJ0_getBytes_840e7 5 = .ok (.if_icmp .ne 23, 3) := by decide +kernel
theorem dr_cJ0_getBytes_840e7_8 : decode cJ0_getBytes_840e7 8 = .ok (.aload_n 0, 1) := by decide +kernel
theorem dr_cJ0_getBytes_840e7_9 : decode cJ0_getBytes_840e7 9 = .ok (.getfield 9, 3) := by decide +kernel
theorem dr_cJ0_getBytes_840e7_12 : decode cJ0_getBytes_840e7 12 = .ok (.iconst 0, 1) := by decide +kernel
theorem dr_cJ0_getBytes_840e7_13 : decode cJ0_getBytes_840e7 13 = .ok (.aload_n 1, 1) := by decide +kernel
theorem dr_cJ0_getBytes_840e7_14 : decode cJ0_getBytes_840e7 14 = .ok (.iload_n 2, 1) := by decide +kernel
theorem dr_cJ0_getBytes_840e7_15 : decode cJ0_getBytes_840e7 15 = .ok (.iload_n 3, 1) := by decide +kernel
theorem dr_cJ0_getBytes_840e7_16 : decode cJ0_getBytes_840e7 16 = .ok (.ishl, 1) := by decide +kernel
theorem dr_cJ0_getBytes_840e7_17 : decode cJ0_getBytes_840e7 17 = .ok (.aload_n 0, 1) := by decide +kernel
theorem dr_cJ0_getBytes_840e7_18 : decode cJ0_getBytes_840e7 18 = .ok (.getfield 9, 3) := by decide +kernel
theorem dr_cJ0_getBytes_840e7_21 : decode cJ0_getBytes_840e7 21 = .ok (.arraylength, 1) := by decide +kernel
theorem dr_cJ0_getBytes_840e7_22 : decode cJ0_getBytes_840e7 22 = .ok (.invokestatic 212, 3) := by decide +kernel
theorem wr_8_168 : (Jvm.Cond.methodLink "java/lang/String" (212 : Nat) ({ cls := "java/lang/System", name := "arraycopy", desc := "(Ljava/lang/Object;ILjava/lang/Object;II)V" } : Jvm.MethodName)) ∈ gw := gw_8 168 rfl rfl
theorem dr_cJ0_getBytes_840e7_25 : decode cJ0_getBytes_840e7 25 = .ok (.goto 18, 3) := by decide +kernel
theorem dr_cJ0_getBytes_840e7_43 : decode cJ0_getBytes_840e7 43 = .ok (.return_, 1) := by decide +kernel
theorem dr_cJ5_putStringAt_47b60_0 : decode cJ5_putStringAt_47b60 0 = .ok (.aload_n 0, 1) := by decide +kernel
theorem dr_cJ5_putStringAt_47b60_1 : decode cJ5_putStringAt_47b60 1 = .ok (.aload_n 2, 1) := by decide +kernel
theorem dr_cJ5_putStringAt_47b60_2 : decode cJ5_putStringAt_47b60 2 = .ok (.invokevirtual 397, 3) := by decide +kernel
theorem wr_8_159 : (Jvm.Cond.methodLink "java/lang/AbstractStringBuilder" (397 : Nat) ({ cls := "java/lang/AbstractStringBuilder", name := "inflateIfNeededFor", desc := "(Ljava/lang/String;)V" } : Jvm.MethodName)) ∈ gw := gw_8 159 rfl rfl
theorem wr_8_162 : (Jvm.Cond.code ({ cls := "java/lang/AbstractStringBuilder", name := "inflateIfNeededFor", desc := "(Ljava/lang/String;)V" } : Jvm.MethodName) prog_21_method_71_code (2 : Nat) (Option.none : Option Jvm.ClassFile.FieldType)) ∈ gw := gw_8 162 rfl rfl
theorem wr_8_161 : (Jvm.Cond.instanceMethod ({ cls := "java/lang/AbstractStringBuilder", name := "inflateIfNeededFor", desc := "(Ljava/lang/String;)V" } : Jvm.MethodName)) ∈ gw := gw_8 161 rfl rfl
theorem wr_s_5 : Cond.selects "java/lang/StringBuilder" ⟨"java/lang/AbstractStringBuilder", "inflateIfNeededFor", "(Ljava/lang/String;)V"⟩ ⟨"java/lang/AbstractStringBuilder", "inflateIfNeededFor", "(Ljava/lang/String;)V"⟩ ∈ gw := gw_s _ 5 rfl rfl rfl
theorem dr_cJ5_putStringAt_47b60_5 : decode cJ5_putStringAt_47b60 5 = .ok (.aload_n 2, 1) := by decide +kernel
theorem dr_cJ5_putStringAt_47b60_6 : decode cJ5_putStringAt_47b60 6 = .ok (.aload_n 0, 1) := by decide +kernel
theorem dr_cJ5_putStringAt_47b60_7 : decode cJ5_putStringAt_47b60 7 = .ok (.getfield 15, 3) := by decide +kernel
theorem dr_cJ5_putStringAt_47b60_10 : decode cJ5_putStringAt_47b60 10 = .ok (.iload_n 1, 1) := by decide +kernel
theorem dr_cJ5_putStringAt_47b60_11 : decode cJ5_putStringAt_47b60 11 = .ok (.aload_n 0, 1) := by decide +kernel
theorem dr_cJ5_putStringAt_47b60_12 : decode cJ5_putStringAt_47b60 12 = .ok (.getfield 22, 3) := by decide +kernel
theorem dr_cJ5_putStringAt_47b60_15 : decode cJ5_putStringAt_47b60 15 = .ok (.invokevirtual 399, 3) := by decide +kernel
theorem wr_8_164 : (Jvm.Cond.methodLink "java/lang/AbstractStringBuilder" (399 : Nat) ({ cls := "java/lang/String", name := "getBytes", desc := "([BIB)V" } : Jvm.MethodName)) ∈ gw := gw_8 164 rfl rfl
theorem wr_8_167 : (Jvm.Cond.code ({ cls := "java/lang/String", name := "getBytes", desc := "([BIB)V" } : Jvm.MethodName) prog_34_method_147_code (4 : Nat) (Option.none : Option Jvm.ClassFile.FieldType)) ∈ gw := gw_8 167 rfl rfl
theorem wr_8_165 : (Jvm.Cond.instanceMethod ({ cls := "java/lang/String", name := "getBytes", desc := "([BIB)V" } : Jvm.MethodName)) ∈ gw := gw_8 165 rfl rfl
theorem wr_8_166 : (Jvm.Cond.selects "java/lang/String" ({ cls := "java/lang/String", name := "getBytes", desc := "([BIB)V" } : Jvm.MethodName) ({ cls := "java/lang/String", name := "getBytes", desc := "([BIB)V" } : Jvm.MethodName)) ∈ gw := gw_8 166 rfl rfl
theorem dr_cJ5_putStringAt_47b60_18 : decode cJ5_putStringAt_47b60 18 = .ok (.return_, 1) := by decide +kernel
theorem dr_cJ5_append_cf1ce_0 : decode cJ5_append_cf1ce 0 = .ok (.aload_n 1, 1) := by decide +kernel
theorem dr_cJ5_append_cf1ce_1 : decode cJ5_append_cf1ce 1 = .ok (.ifnonnull 8, 3) := by decide +kernel
theorem dr_cJ5_append_cf1ce_9 : decode cJ5_append_cf1ce 9 = .ok (.aload_n 1, 1) := by decide +kernel
theorem dr_cJ5_append_cf1ce_10 : decode cJ5_append_cf1ce 10 = .ok (.invokevirtual 32, 3) := by decide +kernel
theorem wr_8_154 : (Jvm.Cond.methodLink "java/lang/AbstractStringBuilder" (32 : Nat) ({ cls := "java/lang/String", name := "length", desc := "()I" } : Jvm.MethodName)) ∈ gw := gw_8 154 rfl rfl
theorem wr_3_60 : (Jvm.Cond.code ({ cls := "java/lang/String", name := "length", desc := "()I" } : Jvm.MethodName) prog_34_method_54_code (1 : Nat) (Option.some Jvm.ClassFile.FieldType.int)) ∈ gw := gw_3 60 rfl rfl
theorem wr_3_58 : (Jvm.Cond.instanceMethod ({ cls := "java/lang/String", name := "length", desc := "()I" } : Jvm.MethodName)) ∈ gw := gw_3 58 rfl rfl
theorem wr_3_59 : (Jvm.Cond.selects "java/lang/String" ({ cls := "java/lang/String", name := "length", desc := "()I" } : Jvm.MethodName) ({ cls := "java/lang/String", name := "length", desc := "()I" } : Jvm.MethodName)) ∈ gw := gw_3 59 rfl rfl
theorem dr_cJ5_append_cf1ce_13 : decode cJ5_append_cf1ce 13 = .ok (.istore_n 2, 1) := by decide +kernel
theorem dr_cJ5_append_cf1ce_14 : decode cJ5_append_cf1ce 14 = .ok (.aload_n 0, 1) := by decide +kernel
theorem dr_cJ5_append_cf1ce_15 : decode cJ5_append_cf1ce 15 = .ok (.aload_n 0, 1) := by decide +kernel
theorem dr_cJ5_append_cf1ce_16 : decode cJ5_append_cf1ce 16 = .ok (.getfield 79, 3) := by decide +kernel
theorem dr_cJ5_append_cf1ce_19 : decode cJ5_append_cf1ce 19 = .ok (.iload_n 2, 1) := by decide +kernel
theorem dr_cJ5_append_cf1ce_20 : decode cJ5_append_cf1ce 20 = .ok (.iadd, 1) := by decide +kernel
theorem dr_cJ5_append_cf1ce_21 : decode cJ5_append_cf1ce 21 = .ok (.invokevirtual 100, 3) := by decide +kernel
theorem dr_cJ5_append_cf1ce_24 : decode cJ5_append_cf1ce 24 = .ok (.aload_n 0, 1) := by decide +kernel
theorem dr_cJ5_append_cf1ce_25 : decode cJ5_append_cf1ce 25 = .ok (.aload_n 0, 1) := by decide +kernel
theorem dr_cJ5_append_cf1ce_26 : decode cJ5_append_cf1ce 26 = .ok (.getfield 79, 3) := by decide +kernel
theorem dr_cJ5_append_cf1ce_29 : decode cJ5_append_cf1ce 29 = .ok (.aload_n 1, 1) := by decide +kernel
theorem dr_cJ5_append_cf1ce_30 : decode cJ5_append_cf1ce 30 = .ok (.invokevirtual 208, 3) := by decide +kernel
theorem wr_8_155 : (Jvm.Cond.methodLink "java/lang/AbstractStringBuilder" (208 : Nat) ({ cls := "java/lang/AbstractStringBuilder", name := "putStringAt", desc := "(ILjava/lang/String;)V" } : Jvm.MethodName)) ∈ gw := gw_8 155 rfl rfl
theorem wr_8_158 : (Jvm.Cond.code ({ cls := "java/lang/AbstractStringBuilder", name := "putStringAt", desc := "(ILjava/lang/String;)V" } : Jvm.MethodName) prog_21_method_73_code (3 : Nat) (Option.none : Option Jvm.ClassFile.FieldType)) ∈ gw := gw_8 158 rfl rfl
theorem wr_8_157 : (Jvm.Cond.instanceMethod ({ cls := "java/lang/AbstractStringBuilder", name := "putStringAt", desc := "(ILjava/lang/String;)V" } : Jvm.MethodName)) ∈ gw := gw_8 157 rfl rfl
theorem wr_s_4 : Cond.selects "java/lang/StringBuilder" ⟨"java/lang/AbstractStringBuilder", "putStringAt", "(ILjava/lang/String;)V"⟩ ⟨"java/lang/AbstractStringBuilder", "putStringAt", "(ILjava/lang/String;)V"⟩ ∈ gw := gw_s _ 4 rfl rfl rfl
theorem dr_cJ5_append_cf1ce_33 : decode cJ5_append_cf1ce 33 = .ok (.aload_n 0, 1) := by decide +kernel
theorem dr_cJ5_append_cf1ce_34 : decode cJ5_append_cf1ce 34 = .ok (.dup, 1) := by decide +kernel
theorem dr_cJ5_append_cf1ce_35 : decode cJ5_append_cf1ce 35 = .ok (.getfield 79, 3) := by decide +kernel
theorem dr_cJ5_append_cf1ce_38 : decode cJ5_append_cf1ce 38 = .ok (.iload_n 2, 1) := by decide +kernel
theorem dr_cJ5_append_cf1ce_39 : decode cJ5_append_cf1ce 39 = .ok (.iadd, 1) := by decide +kernel
theorem dr_cJ5_append_cf1ce_40 : decode cJ5_append_cf1ce 40 = .ok (.putfield 79, 3) := by decide +kernel
theorem dr_cJ5_append_cf1ce_43 : decode cJ5_append_cf1ce 43 = .ok (.aload_n 0, 1) := by decide +kernel
theorem dr_cJ5_append_cf1ce_44 : decode cJ5_append_cf1ce 44 = .ok (.areturn, 1) := by decide +kernel
abbrev ky_658646_AbstractStringBuilder_append : gKey := (cJ5_append_3fe6f, 2, "java/lang/AbstractStringBuilder", (some (FieldType.object "java/lang/AbstractStringBuilder")), [], "append", fun _ _ => True)
def pp_658646_AbstractStringBuilder_append (D : va_G) (I : FieldType → ClassId) (P658634 : List Nat) (F658635 : Nat → va_E) (q658636 : Nat) (q658637 : Nat) (p658638 : Int32) (p658639 : Int32) (p658640 : Int32) (f658641 : Nat → Int32) (n658642 : Nat) : Option Value → va_W → Nat → Nat → Prop := fun r w dc ds => ∃ (P658842 : List Nat) (F658843 : Nat → va_E) (o658838 : Int32) (q658839 : Nat) (n658840 : Nat) (f658841 : Nat → Int32), r = some (.ref q658636) ∧ w = va_pl P658842 F658843 ∧ rSub P658634 P658842 ∧ rFr [q658637, q658636] P658634 F658635 F658843 ∧ F658843 q658636 = .inr (1, [.ref q658839, .int 0, .int p658639, .int o658838]) ∧ F658843 q658839 = .inl (I .byte, n658840, .inl f658841) ∧ q658839 ∈ P658842 ∧ (q658839 = q658637 ∨ q658839 ∉ P658634) ∧ dc ≤ 1 ∧ ds ≤ 2 * (n658840 - n658642) ∧ gB o658838 1 16777216 ∧ gF f658841 (-128) 127 ∧ o658838.toInt = p658640.toInt + 1 ∧ o658838.toInt ≤ (n658840 : Int) ∧ (n658642 : Int) ≤ (n658840 : Int) ∧ (n658840 : Int) ≤ 2 * (n658642 : Int) + 2 ∧ tr_RAbstractStringBuilder_append2 p658638 p658640 f658641 n658642 o658838 n658840 f658841
set_option maxRecDepth 100000 in
set_option maxHeartbeats 4000000 in
theorem cp_658646_AbstractStringBuilder_append (l : Launch) (hl0 : l.stackTraces = false) (D : va_G) (I : FieldType → ClassId) (P658634 : List Nat) (F658635 : Nat → va_E) (q658636 : Nat) (q658637 : Nat) (p658638 : Int32) (p658639 : Int32) (p658640 : Int32) (f658641 : Nat → Int32) (n658642 : Nat) (hmq658636 : q658636 ∈ P658634) (hmq658637 : q658637 ∈ P658634) (heq658636 : F658635 q658636 = .inr (1, [.ref q658637, .int 0, .int p658639, .int p658640])) (heq658637 : F658635 q658637 = .inl (I .byte, n658642, .inl f658641)) (bp658638 : gB p658638 0 255) (bp658639 : gB p658639 0 1) (bp658640 : gB p658640 0 16777216) (bf658641 : gF f658641 (-128) 127) (x658643 : (n658642 : Int) ≤ 8388608 - 100000) (x658644 : p658640.toInt ≤ (n658642 : Int)) (x658645 : ((n658642 : Int) ≤ 16777216)) : CtA (gV D I) l yJ5_append_3fe6f cJ5_append_3fe6f 2 (some (FieldType.object "java/lang/AbstractStringBuilder")) 4 84 1 (4 * n658642 + 8) [.ref q658636, .int p658638] (va_pl P658634 F658635) (pp_658646_AbstractStringBuilder_append D I P658634 F658635 q658636 q658637 p658638 p658639 p658640 f658641 n658642) gNA := by
  refine CtA_ofF hl0 (by decide +kernel) (Nat.le_of_ble_eq_true rfl) ?_
  refine G_aload_n 0 dr_cJ5_append_3fe6f_0 rfl ?_
  refine G_aload_n 0 dr_cJ5_append_3fe6f_1 rfl ?_
  refine Gp_get 3 hmq658636 heq658636 dr_cJ5_append_3fe6f_2 (gk_J4 D I) (Nat.le_of_ble_eq_true rfl) wr_7_64 rfl ?_
  refine G_iconst 1 dr_cJ5_append_3fe6f_5 (by decide +kernel) ?_
  refine G_iadd dr_cJ5_append_3fe6f_6 (G_nam fun z658647 hz658647 => ?_)
  have ez658647 : z658647.toInt = p658640.toInt + 1 := by rw [gI_add hz658647 bp658640 (gBl (show Int32.toInt 1 = 1 by decide)) (by decide) (by decide), show Int32.toInt 1 = 1 from by decide]
  have bz658647 : gB z658647 1 16777217 := gB_add (gI_add hz658647 bp658640 (gBl (show Int32.toInt 1 = 1 by decide)) (by decide) (by decide)) bp658640 (gBl (show Int32.toInt 1 = 1 by decide)) (by decide) (by decide)
  refine Gw_callVB (As := [.int z658647]) (gV_ok D I) (cp_658659_AbstractStringBuilder_ensureCapacityInternal l hl0 D I P658634 F658635 q658636 q658637 z658647 p658639 p658640 f658641 n658642 hmq658636 hmq658637 heq658636 heq658637 ⟨by omega, by omega⟩ bp658639 bp658640 bf658641 (by have qa0 : Int32.toInt 0 = 0 := (by decide); omega) (by have qa0 : Int32.toInt 0 = 0 := (by decide); omega)) dr_cJ5_append_3fe6f_7 ⟨wr_8_4, wr_1_19, wr_8_7, by decide, rfl, (Nat.le_of_ble_eq_true rfl), (Nat.le_of_ble_eq_true rfl)⟩ wr_8_6 wr_s_0 hmq658636 heq658636 rfl (show 0 + 1 ≤ 1 by first | omega | decide) (show 0 + (2 * n658642 + 2 + z658647.toInt.toNat) ≤ (4 * n658642 + 8) by first | omega | decide) (Nat.le_of_ble_eq_true rfl) (fun r658782 w658783 dc658779 ds658780 hp658781 => ?_) (fun _ _ _ _ _ z => z.elim)
  obtain ⟨P658792, F658793, q658784, n658785, f658786, rfl, rfl, hsb658794, hfr658795, he658796, he658797, hm658798, hq658799, hdc, hds, bf658786, x658787, x658788, x658789, x658790, ht658791⟩ := hp658781
  have hm658800 : q658636 ∈ P658792 := hsb658794 q658636 hmq658636
  have hm658801 : q658637 ∈ P658792 := hsb658794 q658637 hmq658637
  have hor658802 : q658784 = q658637 ∨ q658784 ∉ P658634 := hq658799.elim Or.inl (fun n => Or.inr (fun z => n ((rSub_rf (P := P658634)) _ z)))
  have hsb658803 : rSub P658634 P658792 := rSub_tr (rSub_rf (P := P658634)) hsb658794
  have he658804 : F658793 q658637 = .inl (I .byte, n658642, .inl f658641) := (hfr658795 q658637 hmq658637 (nm_c (rn_ao heq658637 heq658636) nm_n)).trans heq658637
  have hfr658805 : rFr [q658636] P658634 F658635 F658793 := rFr_call (rSub_rf (P := P658634)) (rFr_rf (W := []) (P := P658634) (F := F658635)) hfr658795 (fun b hb hn => ⟨nm_n, (nm_c (fun e => hn (e ▸ List.mem_cons_self)) nm_n)⟩)
  change G _ _ _ _ _ _ _ _ _ _ _
  refine G_widen (cs' := 1) (sl' := 2 * (n658785 - n658642)) (by omega) (by omega) ?_
  refine G_aload_n 0 dr_cJ5_append_3fe6f_10 rfl ?_
  refine Gw_callVB (As := []) (gV_ok D I) (cp_658560_AbstractStringBuilder_isLatin1 l hl0 D I P658792 F658793 q658636 q658784 p658639 p658640 f658786 n658785 hm658800 hm658798 he658796 he658797 bp658639 bp658640 bf658786 (by have qa0 : Int32.toInt 0 = 0 := (by decide); omega)) dr_cJ5_append_3fe6f_11 ⟨wr_8_33, wr_1_19, wr_8_37, by decide, rfl, (Nat.le_of_ble_eq_true rfl), (Nat.le_of_ble_eq_true rfl)⟩ wr_8_34 wr_8_36 hm658800 he658796 rfl (show 1 + 0 ≤ 1 by first | omega | decide) (show 2 * (n658785 - n658642) + 0 ≤ (4 * n658642 + 8) by first | omega | decide) (Nat.le_of_ble_eq_true rfl) (fun r658809 w658810 dc658806 ds658807 hp658808 => ?_) (fun _ _ _ _ _ z => z.elim)
  obtain ⟨rfl, rfl, hdc, hds⟩ := hp658808
  change G _ _ _ _ _ _ _ (.int 1 :: _) _ _ _
  refine G_widen (cs' := 1) (sl' := 2 * (n658785 - n658642) + 0) (by omega) (by omega) ?_
  refine G_if_eq 45 dr_cJ5_append_3fe6f_14 (by decide +kernel) (fun hc => absurd hc (by decide)) (fun _ => ?_)
  refine G_iload_n 1 dr_cJ5_append_3fe6f_17 rfl ?_
  refine Gw_callS (As := [.int p658638]) (gV_ok D I) (cp_658569_StringLatin1_canEncode l hl0 D I P658792 F658793 p658638 (gB_w bp658638 (by decide) (by decide))) dr_cJ5_append_3fe6f_18 ⟨wr_8_38, wr_1_28, wr_8_40, by decide, rfl, (Nat.le_of_ble_eq_true rfl), (Nat.le_of_ble_eq_true rfl)⟩ wr_8_39 (show 1 + 0 ≤ 1 by first | omega | decide) (show 2 * (n658785 - n658642) + 0 + 0 ≤ (4 * n658642 + 8) by first | omega | decide) (Nat.le_of_ble_eq_true rfl) (fun r658814 w658815 dc658811 ds658812 hp658813 => ?_) (fun _ _ _ _ _ z => z.elim)
  rcases hp658813 with ⟨rfl, rfl, hdc, hds, r658816, r658817⟩ | ⟨rfl, rfl, hdc, hds, r658818, r658819⟩
  · exact absurd (show False by omega) not_false
  · change G _ _ _ _ _ _ _ (.int 1 :: _) _ _ _
    refine G_widen (cs' := 1) (sl' := 2 * (n658785 - n658642) + 0 + 0) (by omega) (by omega) ?_
    refine G_if_eq 45 dr_cJ5_append_3fe6f_21 (by decide +kernel) (fun hc => absurd hc (by decide)) (fun _ => ?_)
    refine G_aload_n 0 dr_cJ5_append_3fe6f_24 rfl ?_
    refine Gp_get 0 hm658800 he658796 dr_cJ5_append_3fe6f_25 (gk_J4 D I) (Nat.le_of_ble_eq_true rfl) wr_7_60 rfl ?_
    refine G_aload_n 0 dr_cJ5_append_3fe6f_28 rfl ?_
    refine G_dup dr_cJ5_append_3fe6f_29 rfl ?_
    refine Gp_get 3 hm658800 he658796 dr_cJ5_append_3fe6f_30 (gk_J4 D I) (Nat.le_of_ble_eq_true rfl) wr_7_64 rfl ?_
    refine G_dup_x1 dr_cJ5_append_3fe6f_33 rfl rfl ?_
    refine G_iconst 1 dr_cJ5_append_3fe6f_34 (by decide +kernel) ?_
    refine G_iadd dr_cJ5_append_3fe6f_35 (G_nam fun z658821 hz658821 => ?_)
    have ez658821 : z658821.toInt = p658640.toInt + 1 := by rw [gI_add hz658821 bp658640 (gBl (show Int32.toInt 1 = 1 by decide)) (by decide) (by decide), show Int32.toInt 1 = 1 from by decide]
    have bz658821 : gB z658821 1 16777217 := gB_add (gI_add hz658821 bp658640 (gBl (show Int32.toInt 1 = 1 by decide)) (by decide) (by decide)) bp658640 (gBl (show Int32.toInt 1 = 1 by decide)) (by decide) (by decide)
    refine Gp_put 3 hm658800 he658796 dr_cJ5_append_3fe6f_36 (gk_J4 D I) (Nat.le_of_ble_eq_true rfl) wr_7_64 rfl rfl rfl (Nat.le_of_ble_eq_true rfl) (fun F658822 e658823 n658824 => ?_)
    have he658825 : F658822 q658637 = .inl (I .byte, n658642, .inl f658641) := (n658824 q658637 (rn_ao he658804 he658796)).trans he658804
    have he658826 : F658822 q658784 = .inl (I .byte, n658785, .inl f658786) := (n658824 q658784 (rn_ao he658797 he658796)).trans he658797
    have he658827 : F658822 q658636 = .inr (1, [.ref q658784, .int 0, .int p658639, .int z658821]) := e658823
    have hfr658828 : rFr [q658636] P658634 F658635 F658822 := rFr_put' List.mem_cons_self hfr658805 n658824
    refine G_iload_n 1 dr_cJ5_append_3fe6f_39 rfl ?_
    refine G_i2b dr_cJ5_append_3fe6f_40 (G_nam fun z658829 hz658829 => ?_)
    have bz658829 : gB z658829 (-128) 127 := gB_i2b hz658829
    refine Gp_bast 1 hm658798 he658826 dr_cJ5_append_3fe6f_41 rfl (gB_inr (by omega) (by omega)) (fun F658830 e658831 n658832 => ?_)
    obtain ⟨f658833, hf658833⟩ : ∃ z, z = upd f658786 p658640.toNatClampNeg (vp_nar .byte z658829) := ⟨_, rfl⟩
    rw [← hf658833] at e658831
    have he658835 : F658830 q658636 = .inr (1, [.ref q658784, .int 0, .int p658639, .int z658821]) := (n658832 q658636 (rn_oa he658827 he658826)).trans he658827
    have he658836 : F658830 q658784 = .inl (I .byte, n658785, .inl f658833) := e658831
    have hfr658837 : rFr [q658637, q658636] P658634 F658635 F658830 := rFr_eit hor658802 hfr658828 n658832
    have bf658833 : gF f658833 (-128) 127 := gF_upd hf658833 bf658786 gB_byte
    refine G_goto 75 dr_cJ5_append_3fe6f_42 (by decide +kernel) ?_
    refine G_aload_n 0 dr_cJ5_append_3fe6f_75 rfl ?_
    exact G_aretA (FieldType.object "java/lang/AbstractStringBuilder") dr_cJ5_append_3fe6f_76 rfl (by first | exact Or.inl ⟨_, rfl⟩ | exact Or.inr ⟨_, rfl⟩) (Or.inr ⟨_, rfl⟩) (Nat.le_of_ble_eq_true rfl) (show 2 * (n658785 - n658642) + 0 + 0 ≤ (4 * n658642 + 8) by omega) ⟨P658792, F658830, z658821, q658784, n658785, f658833, rfl, rfl, hsb658803, hfr658837, he658835, he658836, hm658798, hor658802, (Nat.le_of_ble_eq_true rfl), (by omega), ⟨by omega, by omega⟩, bf658833, (by have qa0 : Int32.toInt 0 = 0 := (by decide); omega), (by have qa0 : Int32.toInt 0 = 0 := (by decide); omega), (by have qa0 : Int32.toInt 0 = 0 := (by decide); omega), (by have qa0 : Int32.toInt 0 = 0 := (by decide); omega), (fun R c1 => c1 z658647 n658785 f658786 z658821 z658829 f658833 ez658647 ht658791 r658819 ez658821 hz658829 hf658833)⟩
/- tr_RStringBuilder_append2: a.0...count, a.0.value.#, a.0.value.[] -/
def tr_RStringBuilder_append2 (a1 : Int32) (a0_count : Int32) (a0_value_v : Nat → Int32) (a0_value_n : Nat) (o1 : Int32) (o2 : Nat) (o3 : Nat → Int32) : Prop := ∀ R : (Int32) → (Nat) → (Nat → Int32) → Prop,
  (∀ (x1 : Int32) (x2 : Nat) (x3 : Nat → Int32), gB x1 1 16777216 → tr_RAbstractStringBuilder_append2 a1 a0_count a0_value_v a0_value_n x1 x2 x3 → R x1 x2 x3) →
  R o1 o2 o3
abbrev ky_658633_StringBuilder_append : gKey := (cJ4_append_cf468, 2, "java/lang/StringBuilder", (some (FieldType.object "java/lang/StringBuilder")), [], "append", fun _ _ => True)
def pp_658633_StringBuilder_append (D : va_G) (I : FieldType → ClassId) (P658621 : List Nat) (F658622 : Nat → va_E) (q658623 : Nat) (q658624 : Nat) (p658625 : Int32) (p658626 : Int32) (p658627 : Int32) (f658628 : Nat → Int32) (n658629 : Nat) : Option Value → va_W → Nat → Nat → Prop := fun r w dc ds => ∃ (P658875 : List Nat) (F658876 : Nat → va_E) (o658871 : Int32) (q658872 : Nat) (n658873 : Nat) (f658874 : Nat → Int32), r = some (.ref q658623) ∧ w = va_pl P658875 F658876 ∧ rSub P658621 P658875 ∧ rFr [q658624, q658623] P658621 F658622 F658876 ∧ F658876 q658623 = .inr (1, [.ref q658872, .int 0, .int p658626, .int o658871]) ∧ F658876 q658872 = .inl (I .byte, n658873, .inl f658874) ∧ q658872 ∈ P658875 ∧ (q658872 = q658624 ∨ q658872 ∉ P658621) ∧ dc ≤ 1 ∧ ds ≤ 2 * (n658873 - n658629) ∧ gB o658871 1 16777216 ∧ gF f658874 (-128) 127 ∧ o658871.toInt = p658627.toInt + 1 ∧ o658871.toInt ≤ (n658873 : Int) ∧ (n658629 : Int) ≤ (n658873 : Int) ∧ (n658873 : Int) ≤ 2 * (n658629 : Int) + 2 ∧ tr_RStringBuilder_append2 p658625 p658627 f658628 n658629 o658871 n658873 f658874
set_option maxRecDepth 100000 in
set_option maxHeartbeats 4000000 in
theorem cp_658633_StringBuilder_append (l : Launch) (hl0 : l.stackTraces = false) (D : va_G) (I : FieldType → ClassId) (P658621 : List Nat) (F658622 : Nat → va_E) (q658623 : Nat) (q658624 : Nat) (p658625 : Int32) (p658626 : Int32) (p658627 : Int32) (f658628 : Nat → Int32) (n658629 : Nat) (hmq658623 : q658623 ∈ P658621) (hmq658624 : q658624 ∈ P658621) (heq658623 : F658622 q658623 = .inr (1, [.ref q658624, .int 0, .int p658626, .int p658627])) (heq658624 : F658622 q658624 = .inl (I .byte, n658629, .inl f658628)) (bp658625 : gB p658625 0 255) (bp658626 : gB p658626 0 1) (bp658627 : gB p658627 0 16777216) (bf658628 : gF f658628 (-128) 127) (x658630 : (n658629 : Int) ≤ 8388608 - 100000) (x658631 : p658627.toInt ≤ (n658629 : Int)) (x658632 : ((n658629 : Int) ≤ 16777216)) : CtA (gV D I) l yJ4_append_cf468 cJ4_append_cf468 2 (some (FieldType.object "java/lang/StringBuilder")) 5 105 1 (4 * n658629 + 8) [.ref q658623, .int p658625] (va_pl P658621 F658622) (pp_658633_StringBuilder_append D I P658621 F658622 q658623 q658624 p658625 p658626 p658627 f658628 n658629) gNA := by
  refine CtA_ofF hl0 (by decide +kernel) (Nat.le_of_ble_eq_true rfl) ?_
  refine G_aload_n 0 dr_cJ4_append_cf468_0 rfl ?_
  refine G_iload_n 1 dr_cJ4_append_cf468_1 rfl ?_
  refine Gw_callSU (As := [.int p658625]) (gV_ok D I) (cp_658646_AbstractStringBuilder_append l hl0 D I P658621 F658622 q658623 q658624 p658625 p658626 p658627 f658628 n658629 hmq658623 hmq658624 heq658623 heq658624 bp658625 bp658626 bp658627 bf658628 (by have qa0 : Int32.toInt 0 = 0 := (by decide); omega) (by have qa0 : Int32.toInt 0 = 0 := (by decide); omega) (by have qa0 : Int32.toInt 0 = 0 := (by decide); omega)) dr_cJ4_append_cf468_2 ⟨wr_8_1, wr_1_19, wr_8_3, by decide, rfl, (Nat.le_of_ble_eq_true rfl), (Nat.le_of_ble_eq_true rfl)⟩ wr_8_2 wr_11_224 wr_7_73 wr_7_44 (by decide) hmq658623 heq658623 rfl (show 0 + 1 ≤ 1 by first | omega | decide) (show 0 + (4 * n658629 + 8) ≤ (4 * n658629 + 8) by first | omega | decide) (Nat.le_of_ble_eq_true rfl) (fun r658847 w658848 dc658844 ds658845 hp658846 => ?_)
  obtain ⟨P658858, F658859, o658849, q658850, n658851, f658852, rfl, rfl, hsb658860, hfr658861, he658862, he658863, hm658864, hq658865, hdc, hds, bo658849, bf658852, x658853, x658854, x658855, x658856, ht658857⟩ := hp658846
  have hm658866 : q658623 ∈ P658858 := hsb658860 q658623 hmq658623
  have hm658867 : q658624 ∈ P658858 := hsb658860 q658624 hmq658624
  have hor658868 : q658850 = q658624 ∨ q658850 ∉ P658621 := hq658865.elim Or.inl (fun n => Or.inr (fun z => n ((rSub_rf (P := P658621)) _ z)))
  have hsb658869 : rSub P658621 P658858 := rSub_tr (rSub_rf (P := P658621)) hsb658860
  have hfr658870 : rFr [q658624, q658623] P658621 F658622 F658859 := rFr_call (rSub_rf (P := P658621)) (rFr_rf (W := []) (P := P658621) (F := F658622)) hfr658861 (fun b hb hn => ⟨nm_n, (nm_c (fun e => hn (e ▸ List.mem_cons_self)) (nm_c (fun e => hn (e ▸ (List.mem_cons_of_mem _ List.mem_cons_self))) nm_n))⟩)
  change G _ _ _ _ _ _ _ (.ref q658623 :: _) _ _ _
  refine G_widen (cs' := 1) (sl' := 2 * (n658851 - n658629)) (by omega) (by omega) ?_
  refine G_pop dr_cJ4_append_cf468_5 rfl ?_
  refine G_aload_n 0 dr_cJ4_append_cf468_6 rfl ?_
  exact G_aretA (FieldType.object "java/lang/StringBuilder") dr_cJ4_append_cf468_7 rfl (by first | exact Or.inl ⟨_, rfl⟩ | exact Or.inr ⟨_, rfl⟩) (Or.inr ⟨_, rfl⟩) (Nat.le_of_ble_eq_true rfl) (show 2 * (n658851 - n658629) ≤ (4 * n658629 + 8) by omega) ⟨P658858, F658859, o658849, q658850, n658851, f658852, rfl, rfl, hsb658869, hfr658870, he658862, he658863, hm658864, hor658868, (Nat.le_of_ble_eq_true rfl), (by omega), bo658849, bf658852, (by have qa0 : Int32.toInt 0 = 0 := (by decide); omega), (by have qa0 : Int32.toInt 0 = 0 := (by decide); omega), (by have qa0 : Int32.toInt 0 = 0 := (by decide); omega), (by have qa0 : Int32.toInt 0 = 0 := (by decide); omega), (fun R c1 => c1 o658849 n658851 f658852 bo658849 ht658857)⟩
/- tr_RAbstractStringBuilder_setLength: a.0...maybeLatin1 -/
def tr_RAbstractStringBuilder_setLength (a0_maybeLatin1 : Int32) (a0_count : Int32) (a0_value_n : Nat) (o1 : Int32) : Prop := ∀ R : (Int32) → Prop,
  (tr_RAbstractStringBuilder_ensureCapacityInternal (0 : Int32) a0_value_n → 0 ≤ a0_count.toInt → a0_count.toInt ≤ 0 → R a0_maybeLatin1) →
  (tr_RAbstractStringBuilder_ensureCapacityInternal (0 : Int32) a0_value_n → 0 ≤ a0_count.toInt → 0 < a0_count.toInt → R (1 : Int32)) →
  R o1
abbrev ky_658896_AbstractStringBuilder_setLength : gKey := (cJ5_setLength_d00df, 2, "java/lang/AbstractStringBuilder", none, [], "setLength", fun _ _ => True)
def pp_658896_AbstractStringBuilder_setLength (D : va_G) (I : FieldType → ClassId) (P658887 : List Nat) (F658888 : Nat → va_E) (q658889 : Nat) (q658890 : Nat) (p658891 : Int32) (p658892 : Int32) (f658893 : Nat → Int32) (n658894 : Nat) : Option Value → va_W → Nat → Nat → Prop := fun r w dc ds => ∃ (F658929 : Nat → va_E) (o658927 : Int32), r = none ∧ w = va_pl P658887 F658929 ∧ rFr [q658889] P658887 F658888 F658929 ∧ F658929 q658889 = .inr (1, [.ref q658890, .int 0, .int o658927, .int 0]) ∧ F658929 q658890 = .inl (I .byte, n658894, .inl f658893) ∧ dc ≤ 0 ∧ ds ≤ 0 ∧ gB o658927 0 1 ∧ 0 = 0 ∧ tr_RAbstractStringBuilder_setLength p658891 p658892 n658894 o658927
set_option maxRecDepth 100000 in
set_option maxHeartbeats 4000000 in
theorem cp_658896_AbstractStringBuilder_setLength (l : Launch) (hl0 : l.stackTraces = false) (D : va_G) (I : FieldType → ClassId) (P658887 : List Nat) (F658888 : Nat → va_E) (q658889 : Nat) (q658890 : Nat) (p658891 : Int32) (p658892 : Int32) (f658893 : Nat → Int32) (n658894 : Nat) (hmq658889 : q658889 ∈ P658887) (hmq658890 : q658890 ∈ P658887) (heq658889 : F658888 q658889 = .inr (1, [.ref q658890, .int 0, .int p658891, .int p658892])) (heq658890 : F658888 q658890 = .inl (I .byte, n658894, .inl f658893)) (bp658891 : gB p658891 0 1) (bp658892 : gB p658892 0 16777216) (bf658893 : gF f658893 (-128) 127) (x658895 : ((n658894 : Int) ≤ 16777216)) : CtA (gV D I) l yJ5_setLength_d00df cJ5_setLength_d00df 2 none 1 22 0 0 [.ref q658889, .int 0] (va_pl P658887 F658888) (pp_658896_AbstractStringBuilder_setLength D I P658887 F658888 q658889 q658890 p658891 p658892 f658893 n658894) gNA := by
  refine CtA_ofF hl0 (by decide +kernel) (Nat.le_of_ble_eq_true rfl) ?_
  refine G_iload_n 1 dr_cJ5_setLength_d00df_0 rfl ?_
  refine G_if_ge 13 dr_cJ5_setLength_d00df_1 (by decide +kernel) (fun _ => ?_) (fun hc => absurd hc (by decide))
  refine G_aload_n 0 dr_cJ5_setLength_d00df_13 rfl ?_
  refine G_iload_n 1 dr_cJ5_setLength_d00df_14 rfl ?_
  refine Gw_callVB (As := [.int 0]) (gV_ok D I) (cp_658538_AbstractStringBuilder_ensureCapacityInternal l hl0 D I P658887 F658888 q658889 q658890 0 p658891 p658892 f658893 n658894 hmq658889 hmq658890 heq658889 heq658890 (gB_w (gBl (show Int32.toInt 0 = 0 by decide)) (by decide) (by decide)) bp658891 bp658892 bf658893 (by have qa0 : Int32.toInt 0 = 0 := (by decide); omega) (by have qa0 : Int32.toInt 0 = 0 := (by decide); omega)) dr_cJ5_setLength_d00df_15 ⟨wr_8_4, wr_1_19, wr_8_7, by decide, rfl, (Nat.le_of_ble_eq_true rfl), (Nat.le_of_ble_eq_true rfl)⟩ wr_8_6 wr_s_0 hmq658889 heq658889 rfl (show 0 + 0 ≤ 0 by first | omega | decide) (show 0 + 0 ≤ 0 by first | omega | decide) (Nat.le_of_ble_eq_true rfl) (fun r658900 w658901 dc658897 ds658898 hp658899 => ?_) (fun _ _ _ _ _ z => z.elim)
  obtain ⟨rfl, rfl, hdc, hds, ht658902⟩ := hp658899
  change G _ _ _ _ _ _ _ _ _ _ _
  refine G_widen (cs' := 0) (sl' := 0) (by omega) (by omega) ?_
  refine G_aload_n 0 dr_cJ5_setLength_d00df_18 rfl ?_
  refine Gp_get 3 hmq658889 heq658889 dr_cJ5_setLength_d00df_19 (gk_J4 D I) (Nat.le_of_ble_eq_true rfl) wr_7_64 rfl ?_
  refine G_iload_n 1 dr_cJ5_setLength_d00df_22 rfl ?_
  refine G_icmp_ge 63 dr_cJ5_setLength_d00df_23 (by decide +kernel) (fun hc658903 => ?_) (fun hc => absurd (show False by have := gj_nleL hc (show Int32.toInt 0 = 0 by decide); omega) not_false)
  have r658905 : 0 ≤ p658892.toInt := gj_leL hc658903 (show Int32.toInt 0 = 0 by decide)
  refine G_aload_n 0 dr_cJ5_setLength_d00df_63 rfl ?_
  refine Gp_get 3 hmq658889 heq658889 dr_cJ5_setLength_d00df_64 (gk_J4 D I) (Nat.le_of_ble_eq_true rfl) wr_7_64 rfl ?_
  refine G_iload_n 1 dr_cJ5_setLength_d00df_67 rfl ?_
  refine G_icmp_le 76 dr_cJ5_setLength_d00df_68 (by decide +kernel) (fun hc658906 => ?_) (fun hc658906 => ?_)
  · have r658907 : p658892.toInt ≤ 0 := gj_le hc658906 (show Int32.toInt 0 = 0 by decide)
    have bp658892' : gB p658892 0 0 := ⟨by omega, by omega⟩
    refine G_aload_n 0 dr_cJ5_setLength_d00df_76 rfl ?_
    refine G_iload_n 1 dr_cJ5_setLength_d00df_77 rfl ?_
    refine Gp_put 3 hmq658889 heq658889 dr_cJ5_setLength_d00df_78 (gk_J4 D I) (Nat.le_of_ble_eq_true rfl) wr_7_64 rfl rfl rfl (Nat.le_of_ble_eq_true rfl) (fun F658908 e658909 n658910 => ?_)
    have he658911 : F658908 q658890 = .inl (I .byte, n658894, .inl f658893) := (n658910 q658890 (rn_ao heq658890 heq658889)).trans heq658890
    have he658912 : F658908 q658889 = .inr (1, [.ref q658890, .int 0, .int p658891, .int 0]) := e658909
    have hfr658913 : rFr [q658889] P658887 F658888 F658908 := rFr_put (rFr_rf (W := []) (P := P658887) (F := F658888)) n658910
    exact G_vretA dr_cJ5_setLength_d00df_81 rfl (Nat.le_of_ble_eq_true rfl) (Nat.le_of_ble_eq_true rfl) ⟨F658908, p658891, rfl, rfl, hfr658913, he658912, he658911, (Nat.le_of_ble_eq_true rfl), (Nat.le_of_ble_eq_true rfl), bp658891, (by have qa0 : Int32.toInt 0 = 0 := (by decide); omega), (fun R c1 c2 => c1 ht658902 r658905 r658907)⟩
  · have r658914 : 0 < p658892.toInt := gj_nle hc658906 (show Int32.toInt 0 = 0 by decide)
    have bp658892' : gB p658892 1 16777216 := ⟨by omega, by omega⟩
    refine G_aload_n 0 dr_cJ5_setLength_d00df_71 rfl ?_
    refine G_iconst 1 dr_cJ5_setLength_d00df_72 (by decide +kernel) ?_
    refine Gp_put 2 hmq658889 heq658889 dr_cJ5_setLength_d00df_73 (gk_J4 D I) (Nat.le_of_ble_eq_true rfl) wr_7_62 rfl rfl rfl (Nat.le_of_ble_eq_true rfl) (fun F658915 e658916 n658917 => ?_)
    have he658918 : F658915 q658890 = .inl (I .byte, n658894, .inl f658893) := (n658917 q658890 (rn_ao heq658890 heq658889)).trans heq658890
    have he658919 : F658915 q658889 = .inr (1, [.ref q658890, .int 0, .int 1, .int p658892]) := e658916
    have hfr658920 : rFr [q658889] P658887 F658888 F658915 := rFr_put (rFr_rf (W := []) (P := P658887) (F := F658888)) n658917
    refine G_aload_n 0 dr_cJ5_setLength_d00df_76 rfl ?_
    refine G_iload_n 1 dr_cJ5_setLength_d00df_77 rfl ?_
    refine Gp_put 3 hmq658889 he658919 dr_cJ5_setLength_d00df_78 (gk_J4 D I) (Nat.le_of_ble_eq_true rfl) wr_7_64 rfl rfl rfl (Nat.le_of_ble_eq_true rfl) (fun F658921 e658922 n658923 => ?_)
    have he658924 : F658921 q658890 = .inl (I .byte, n658894, .inl f658893) := (n658923 q658890 (rn_ao he658918 he658919)).trans he658918
    have he658925 : F658921 q658889 = .inr (1, [.ref q658890, .int 0, .int 1, .int 0]) := e658922
    have hfr658926 : rFr [q658889] P658887 F658888 F658921 := rFr_put' List.mem_cons_self hfr658920 n658923
    exact G_vretA dr_cJ5_setLength_d00df_81 rfl (Nat.le_of_ble_eq_true rfl) (Nat.le_of_ble_eq_true rfl) ⟨F658921, 1, rfl, rfl, hfr658926, he658925, he658924, (Nat.le_of_ble_eq_true rfl), (Nat.le_of_ble_eq_true rfl), (gB_w (gBl (show Int32.toInt 1 = 1 by decide)) (by decide) (by decide)), (by have qa0 : Int32.toInt 0 = 0 := (by decide); have qa1 : Int32.toInt 1 = 1 := (by decide); omega), (fun R c1 c2 => c2 ht658902 r658905 r658914)⟩
/- tr_RStringBuilder_setLength: a.0...maybeLatin1 -/
def tr_RStringBuilder_setLength (a0_maybeLatin1 : Int32) (a0_count : Int32) (a0_value_n : Nat) (o1 : Int32) : Prop := ∀ R : (Int32) → Prop,
  (∀ (x1 : Int32), gB x1 0 1 → tr_RAbstractStringBuilder_setLength a0_maybeLatin1 a0_count a0_value_n x1 → R x1) →
  R o1
abbrev ky_658886_StringBuilder_setLength : gKey := (cJ4_setLength_d00df, 2, "java/lang/StringBuilder", none, [], "setLength", fun _ _ => True)
def pp_658886_StringBuilder_setLength (D : va_G) (I : FieldType → ClassId) (P658877 : List Nat) (F658878 : Nat → va_E) (q658879 : Nat) (q658880 : Nat) (p658881 : Int32) (p658882 : Int32) (f658883 : Nat → Int32) (n658884 : Nat) : Option Value → va_W → Nat → Nat → Prop := fun r w dc ds => ∃ (F658946 : Nat → va_E) (o658944 : Int32), r = none ∧ w = va_pl P658877 F658946 ∧ rFr [q658879] P658877 F658878 F658946 ∧ F658946 q658879 = .inr (1, [.ref q658880, .int 0, .int o658944, .int 0]) ∧ F658946 q658880 = .inl (I .byte, n658884, .inl f658883) ∧ dc ≤ 0 ∧ ds ≤ 0 ∧ gB o658944 0 1 ∧ 0 = 0 ∧ tr_RStringBuilder_setLength p658881 p658882 n658884 o658944
set_option maxRecDepth 100000 in
set_option maxHeartbeats 4000000 in
theorem cp_658886_StringBuilder_setLength (l : Launch) (hl0 : l.stackTraces = false) (D : va_G) (I : FieldType → ClassId) (P658877 : List Nat) (F658878 : Nat → va_E) (q658879 : Nat) (q658880 : Nat) (p658881 : Int32) (p658882 : Int32) (f658883 : Nat → Int32) (n658884 : Nat) (hmq658879 : q658879 ∈ P658877) (hmq658880 : q658880 ∈ P658877) (heq658879 : F658878 q658879 = .inr (1, [.ref q658880, .int 0, .int p658881, .int p658882])) (heq658880 : F658878 q658880 = .inl (I .byte, n658884, .inl f658883)) (bp658881 : gB p658881 0 1) (bp658882 : gB p658882 0 16777216) (bf658883 : gF f658883 (-128) 127) (x658885 : ((n658884 : Int) ≤ 16777216)) : CtA (gV D I) l yJ4_setLength_d00df cJ4_setLength_d00df 2 none 2 43 0 0 [.ref q658879, .int 0] (va_pl P658877 F658878) (pp_658886_StringBuilder_setLength D I P658877 F658878 q658879 q658880 p658881 p658882 f658883 n658884) gNA := by
  refine CtA_ofF hl0 (by decide +kernel) (Nat.le_of_ble_eq_true rfl) ?_
  refine G_aload_n 0 dr_cJ4_setLength_d00df_0 rfl ?_
  refine G_iload_n 1 dr_cJ4_setLength_d00df_1 rfl ?_
  refine Gw_callSU (As := [.int 0]) (gV_ok D I) (cp_658896_AbstractStringBuilder_setLength l hl0 D I P658877 F658878 q658879 q658880 p658881 p658882 f658883 n658884 hmq658879 hmq658880 heq658879 heq658880 bp658881 bp658882 bf658883 (by have qa0 : Int32.toInt 0 = 0 := (by decide); omega)) dr_cJ4_setLength_d00df_2 ⟨wr_11_129, wr_1_19, wr_11_131, by decide, rfl, (Nat.le_of_ble_eq_true rfl), (Nat.le_of_ble_eq_true rfl)⟩ wr_11_130 wr_11_233 wr_7_73 wr_7_44 (by decide) hmq658879 heq658879 rfl (show 0 + 0 ≤ 0 by first | omega | decide) (show 0 + 0 ≤ 0 by first | omega | decide) (Nat.le_of_ble_eq_true rfl) (fun r658933 w658934 dc658930 ds658931 hp658932 => ?_)
  obtain ⟨F658938, o658935, rfl, rfl, hfr658940, he658941, he658942, hdc, hds, bo658935, x658936, ht658937⟩ := hp658932
  have hfr658943 : rFr [q658879] P658877 F658878 F658938 := rFr_call (rSub_rf (P := P658877)) (rFr_rf (W := []) (P := P658877) (F := F658878)) hfr658940 (fun b hb hn => ⟨nm_n, (nm_c (fun e => hn (e ▸ List.mem_cons_self)) nm_n)⟩)
  change G _ _ _ _ _ _ _ _ _ _ _
  refine G_widen (cs' := 0) (sl' := 0) (by omega) (by omega) ?_
  exact G_vretA dr_cJ4_setLength_d00df_5 rfl (Nat.le_of_ble_eq_true rfl) (Nat.le_of_ble_eq_true rfl) ⟨F658938, o658935, rfl, rfl, hfr658943, he658941, he658942, (Nat.le_of_ble_eq_true rfl), (Nat.le_of_ble_eq_true rfl), bo658935, (by have qa0 : Int32.toInt 0 = 0 := (by decide); omega), (fun R c1 => c1 o658935 bo658935 ht658937)⟩
abbrev ky_658958_AbstractStringBuilder_init : gKey := (cJ5_init_d00df, 2, "java/lang/AbstractStringBuilder", none, [], "<init>", fun _ _ => True)
def pp_658958_AbstractStringBuilder_init (D : va_G) (I : FieldType → ClassId) (P658953 : List Nat) (F658954 : Nat → va_E) (q658955 : Nat) (p658956 : Int32) (p658957 : Int32) : Option Value → va_W → Nat → Nat → Prop := fun r w dc ds => ∃ (P658986 : List Nat) (F658987 : Nat → va_E) (q658985 : Nat), r = none ∧ w = va_pl P658986 F658987 ∧ rSub P658953 P658986 ∧ rFr [q658955] P658953 F658954 F658987 ∧ F658987 q658955 = .inr (1, [.ref q658985, .int 0, .int p658956, .int p658957]) ∧ F658987 q658985 = .inl (I .byte, 16, .inl (fun _ => 0)) ∧ q658985 ∈ P658986 ∧ q658985 ∉ P658953 ∧ dc ≤ 1 ∧ ds ≤ 16
set_option maxRecDepth 100000 in
set_option maxHeartbeats 4000000 in
theorem cp_658958_AbstractStringBuilder_init (l : Launch) (hl0 : l.stackTraces = false) (D : va_G) (I : FieldType → ClassId) (P658953 : List Nat) (F658954 : Nat → va_E) (q658955 : Nat) (p658956 : Int32) (p658957 : Int32) (hmq658955 : q658955 ∈ P658953) (heq658955 : F658954 q658955 = .inr (1, [.null, .int 0, .int p658956, .int p658957])) (bp658956 : gB p658956 0 1) (bp658957 : gB p658957 0 16777216) : CtA (gV D I) l yJ5_init_d00df cJ5_init_d00df 2 none 1 12 1 16 [.ref q658955, .int 16] (va_pl P658953 F658954) (pp_658958_AbstractStringBuilder_init D I P658953 F658954 q658955 p658956 p658957) gNA := by
  refine CtA_ofF hl0 (by decide +kernel) (Nat.le_of_ble_eq_true rfl) ?_
  refine G_aload_n 0 dr_cJ5_init_d00df_0 rfl ?_
  refine G_obj dr_cJ5_init_d00df_1 wr_7_51 wr_1_51 wr_1_52 (Nat.le_of_ble_eq_true rfl) (Nat.le_of_ble_eq_true rfl) ?_
  refine G_gets dr_cJ5_init_d00df_4 wr_7_52 gz_cs (fun x hx => ?_)
  subst hx
  refine G_if_eq 25 dr_cJ5_init_d00df_7 (by decide +kernel) (fun hc => absurd hc (by decide)) (fun _ => ?_)
  refine G_aload_n 0 dr_cJ5_init_d00df_10 rfl ?_
  refine G_iload_n 1 dr_cJ5_init_d00df_11 rfl ?_
  refine G_newa 1 (16, .inl (fun _ => 0)) dr_cJ5_init_d00df_12 rfl rfl (by intro C h; cases h) wr_1_66 (fun _ => ga_byte _ _) (by decide) (by decide) (by decide) (show 0 + 1 ≤ 1 by first | omega | decide) (show 0 + 16 ≤ 16 by first | omega | decide) (fun q658959 => Gp_in (fun P658960 F658961 hq658962 hP658963 e658964 n658965 => ?_))
  refine G_widen (cs' := 1) (sl' := 16) (by omega) (by omega) ?_
  have he658966 : F658961 q658955 = .inr (1, [.null, .int 0, .int p658956, .int p658957]) := (n658965 q658955 (fun h => hq658962 (h ▸ hmq658955))).trans heq658955
  have he658967 : F658961 q658959 = .inl (I .byte, 16, .inl (fun _ => 0)) := e658964
  have hm658968 : q658955 ∈ P658960 := (hP658963 q658955).mpr (Or.inl hmq658955)
  have hm658969 : q658959 ∈ P658960 := (hP658963 q658959).mpr (Or.inr rfl)
  have hq658970 : q658959 ∉ P658953 := fun z => hq658962 ((rSub_rf (P := P658953)) q658959 z)
  have hfr658971 : rFr [] P658953 F658954 F658961 := rFr_new (rSub_rf (P := P658953)) hq658962 (rFr_rf (W := []) (P := P658953) (F := F658954)) n658965
  have hsb658972 : rSub P658953 P658960 := rSub_new (rSub_rf (P := P658953)) hP658963
  refine Gp_put 0 hm658968 he658966 dr_cJ5_init_d00df_14 (gk_J4 D I) (Nat.le_of_ble_eq_true rfl) wr_7_60 rfl rfl rfl (Nat.le_of_ble_eq_true rfl) (fun F658973 e658974 n658975 => ?_)
  have he658976 : F658973 q658959 = .inl (I .byte, 16, .inl (fun _ => 0)) := (n658975 q658959 (fun h => hq658970 (h ▸ hmq658955))).trans he658967
  have he658977 : F658973 q658955 = .inr (1, [.ref q658959, .int 0, .int p658956, .int p658957]) := e658974
  have hfr658978 : rFr [q658955] P658953 F658954 F658973 := rFr_put hfr658971 n658975
  refine G_aload_n 0 dr_cJ5_init_d00df_17 rfl ?_
  refine G_iconst 0 dr_cJ5_init_d00df_18 (by decide +kernel) ?_
  refine Gp_put 1 hm658968 he658977 dr_cJ5_init_d00df_19 (gk_J4 D I) (Nat.le_of_ble_eq_true rfl) wr_7_61 rfl rfl rfl (Nat.le_of_ble_eq_true rfl) (fun F658979 e658980 n658981 => ?_)
  have he658982 : F658979 q658959 = .inl (I .byte, 16, .inl (fun _ => 0)) := (n658981 q658959 (fun h => hq658970 (h ▸ hmq658955))).trans he658976
  have he658983 : F658979 q658955 = .inr (1, [.ref q658959, .int 0, .int p658956, .int p658957]) := e658980
  have hfr658984 : rFr [q658955] P658953 F658954 F658979 := rFr_put' List.mem_cons_self hfr658978 n658981
  refine G_goto 38 dr_cJ5_init_d00df_22 (by decide +kernel) ?_
  exact G_vretA dr_cJ5_init_d00df_38 rfl (Nat.le_of_ble_eq_true rfl) (Nat.le_of_ble_eq_true rfl) ⟨P658960, F658979, q658959, rfl, rfl, hsb658972, hfr658984, he658983, he658982, hm658969, hq658970, (Nat.le_of_ble_eq_true rfl), (Nat.le_of_ble_eq_true rfl)⟩
abbrev ky_658952_StringBuilder_init : gKey := (cJ4_init_da8c8, 1, "java/lang/StringBuilder", none, [], "<init>", fun _ _ => True)
def pp_658952_StringBuilder_init (D : va_G) (I : FieldType → ClassId) (P658947 : List Nat) (F658948 : Nat → va_E) (q658949 : Nat) (p658950 : Int32) (p658951 : Int32) : Option Value → va_W → Nat → Nat → Prop := fun r w dc ds => ∃ (P659007 : List Nat) (F659008 : Nat → va_E) (q659006 : Nat), r = none ∧ w = va_pl P659007 F659008 ∧ rSub P658947 P659007 ∧ rFr [q658949] P658947 F658948 F659008 ∧ F659008 q658949 = .inr (1, [.ref q659006, .int 0, .int p658950, .int p658951]) ∧ F659008 q659006 = .inl (I .byte, 16, .inl (fun _ => 0)) ∧ q659006 ∈ P659007 ∧ q659006 ∉ P658947 ∧ dc ≤ 1 ∧ ds ≤ 16
set_option maxRecDepth 100000 in
set_option maxHeartbeats 4000000 in
theorem cp_658952_StringBuilder_init (l : Launch) (hl0 : l.stackTraces = false) (D : va_G) (I : FieldType → ClassId) (P658947 : List Nat) (F658948 : Nat → va_E) (q658949 : Nat) (p658950 : Int32) (p658951 : Int32) (hmq658949 : q658949 ∈ P658947) (heq658949 : F658948 q658949 = .inr (1, [.null, .int 0, .int p658950, .int p658951])) (bp658950 : gB p658950 0 1) (bp658951 : gB p658951 0 16777216) : CtA (gV D I) l yJ4_init_da8c8 cJ4_init_da8c8 1 none 2 33 1 16 [.ref q658949] (va_pl P658947 F658948) (pp_658952_StringBuilder_init D I P658947 F658948 q658949 p658950 p658951) gNA := by
  refine CtA_ofF hl0 (by decide +kernel) (Nat.le_of_ble_eq_true rfl) ?_
  refine G_aload_n 0 dr_cJ4_init_da8c8_0 rfl ?_
  refine G_bipush 16 dr_cJ4_init_da8c8_1 (by decide +kernel) ?_
  refine Gw_callI (As := [.int 16]) (gV_ok D I) (cp_658958_AbstractStringBuilder_init l hl0 D I P658947 F658948 q658949 p658950 p658951 hmq658949 heq658949 bp658950 bp658951) dr_cJ4_init_da8c8_3 ⟨wr_7_48, wr_1_19, wr_7_50, by decide, rfl, (Nat.le_of_ble_eq_true rfl), (Nat.le_of_ble_eq_true rfl)⟩ wr_7_49 rfl (show 0 + 1 ≤ 1 by first | omega | decide) (show 0 + 16 ≤ 16 by first | omega | decide) (Nat.le_of_ble_eq_true rfl) (fun r658991 w658992 dc658988 ds658989 hp658990 => ?_)
  obtain ⟨P658994, F658995, q658993, rfl, rfl, hsb658996, hfr658997, he658998, he658999, hm659000, hq659001, hdc, hds⟩ := hp658990
  have hm659002 : q658949 ∈ P658994 := hsb658996 q658949 hmq658949
  have hq659003 : q658993 ∉ P658947 := fun z => hq659001 ((rSub_rf (P := P658947)) q658993 z)
  have hsb659004 : rSub P658947 P658994 := rSub_tr (rSub_rf (P := P658947)) hsb658996
  have hfr659005 : rFr [q658949] P658947 F658948 F658995 := rFr_call (rSub_rf (P := P658947)) (rFr_rf (W := []) (P := P658947) (F := F658948)) hfr658997 (fun b hb hn => ⟨nm_n, (nm_c (fun e => hn (e ▸ List.mem_cons_self)) nm_n)⟩)
  change G _ _ _ _ _ _ _ _ _ _ _
  refine G_widen (cs' := 1) (sl' := 16) (by omega) (by omega) ?_
  exact G_vretA dr_cJ4_init_da8c8_6 rfl (Nat.le_of_ble_eq_true rfl) (Nat.le_of_ble_eq_true rfl) ⟨P658994, F658995, q658993, rfl, rfl, hsb659004, hfr659005, he658998, he658999, hm659000, hq659003, (Nat.le_of_ble_eq_true rfl), (Nat.le_of_ble_eq_true rfl)⟩
abbrev ky_659065_String_coder : gKey := (cJ0_coder_7d493, 1, "java/lang/String", (some FieldType.byte), [], "coder", fun _ _ => True)
def pp_659065_String_coder (D : va_G) (I : FieldType → ClassId) (P659056 : List Nat) (F659057 : Nat → va_E) (q659058 : Nat) (q659059 : Nat) (p659060 : Int32) (p659061 : Int32) (f659062 : Nat → Int32) (n659063 : Nat) : Option Value → va_W → Nat → Nat → Prop := fun r w dc ds => r = some (.int 0) ∧ w = va_pl P659056 F659057 ∧ dc ≤ 0 ∧ ds ≤ 0
set_option maxRecDepth 100000 in
set_option maxHeartbeats 4000000 in
theorem cp_659065_String_coder (l : Launch) (hl0 : l.stackTraces = false) (D : va_G) (I : FieldType → ClassId) (P659056 : List Nat) (F659057 : Nat → va_E) (q659058 : Nat) (q659059 : Nat) (p659060 : Int32) (p659061 : Int32) (f659062 : Nat → Int32) (n659063 : Nat) (hmq659058 : q659058 ∈ P659056) (hmq659059 : q659059 ∈ P659056) (heq659058 : F659057 q659058 = .inr (0, [.ref q659059, .int 0, .int p659060, .int p659061])) (heq659059 : F659057 q659059 = .inl (I .byte, n659063, .inl f659062)) (bp659061 : gB p659061 0 1) (bf659062 : gF f659062 (-128) 127) (x659064 : ((n659063 : Int) ≤ 16777216)) : CtA (gV D I) l yJ0_coder_7d493 cJ0_coder_7d493 1 (some FieldType.byte) 0 0 0 0 [.ref q659058] (va_pl P659056 F659057) (pp_659065_String_coder D I P659056 F659057 q659058 q659059 p659060 p659061 f659062 n659063) gNA := by
  refine CtA_ofF hl0 (by decide +kernel) (Nat.le_of_ble_eq_true rfl) ?_
  have bp659060 := gB_any p659060
  refine G_gets dr_cJ0_coder_7d493_0 wr_3_65 gz_cs (fun x hx => ?_)
  subst hx
  refine G_if_eq 13 dr_cJ0_coder_7d493_3 (by decide +kernel) (fun hc => absurd hc (by decide)) (fun _ => ?_)
  refine G_aload_n 0 dr_cJ0_coder_7d493_6 rfl ?_
  refine Gp_get 1 hmq659058 heq659058 dr_cJ0_coder_7d493_7 (gk_J0 D I) (Nat.le_of_ble_eq_true rfl) wr_8_183 rfl ?_
  refine G_goto 14 dr_cJ0_coder_7d493_10 (by decide +kernel) ?_
  exact G_zretA FieldType.byte dr_cJ0_coder_7d493_14 rfl rfl (Nat.le_of_ble_eq_true rfl) (Nat.le_of_ble_eq_true rfl) ⟨rfl, rfl, (Nat.le_of_ble_eq_true rfl), (Nat.le_of_ble_eq_true rfl)⟩
/- tr_RString_length: result -/
def tr_RString_length (a0_value_n : Nat) (o1 : Int32) : Prop := ∀ R : (Int32) → Prop,
  (∀ (x1 : Int32) (x2 : Int32), x1.toInt = (a0_value_n : Nat) → x2.toInt = x1.toInt / 1 → R x2) →
  R o1
abbrev ky_659054_String_length : gKey := (cJ0_length_8abf5, 1, "java/lang/String", (some FieldType.int), [], "length", fun _ _ => True)
def pp_659054_String_length (D : va_G) (I : FieldType → ClassId) (P659045 : List Nat) (F659046 : Nat → va_E) (q659047 : Nat) (q659048 : Nat) (p659049 : Int32) (p659050 : Int32) (f659051 : Nat → Int32) (n659052 : Nat) : Option Value → va_W → Nat → Nat → Prop := fun r w dc ds => ∃ (o659072 : Int32), r = some (.int o659072) ∧ w = va_pl P659045 F659046 ∧ dc ≤ 0 ∧ ds ≤ 0 ∧ gB o659072 0 16777216 ∧ o659072.toInt = (n659052 : Int) ∧ tr_RString_length n659052 o659072
set_option maxRecDepth 100000 in
set_option maxHeartbeats 4000000 in
theorem cp_659054_String_length (l : Launch) (hl0 : l.stackTraces = false) (D : va_G) (I : FieldType → ClassId) (P659045 : List Nat) (F659046 : Nat → va_E) (q659047 : Nat) (q659048 : Nat) (p659049 : Int32) (p659050 : Int32) (f659051 : Nat → Int32) (n659052 : Nat) (hmq659047 : q659047 ∈ P659045) (hmq659048 : q659048 ∈ P659045) (heq659047 : F659046 q659047 = .inr (0, [.ref q659048, .int 0, .int p659049, .int p659050])) (heq659048 : F659046 q659048 = .inl (I .byte, n659052, .inl f659051)) (bp659050 : gB p659050 0 1) (bf659051 : gF f659051 (-128) 127) (x659053 : ((n659052 : Int) ≤ 16777216)) : CtA (gV D I) l yJ0_length_8abf5 cJ0_length_8abf5 1 (some FieldType.int) 1 20 0 0 [.ref q659047] (va_pl P659045 F659046) (pp_659054_String_length D I P659045 F659046 q659047 q659048 p659049 p659050 f659051 n659052) gNA := by
  refine CtA_ofF hl0 (by decide +kernel) (Nat.le_of_ble_eq_true rfl) ?_
  have bp659049 := gB_any p659049
  refine G_aload_n 0 dr_cJ0_length_8abf5_0 rfl ?_
  refine Gp_get 0 hmq659047 heq659047 dr_cJ0_length_8abf5_1 (gk_J0 D I) (Nat.le_of_ble_eq_true rfl) wr_8_182 rfl ?_
  refine Gp_alen (Int32.ofNat n659052) 1 hmq659048 heq659048 dr_cJ0_length_8abf5_4 rfl rfl (G_nam fun z659055 hz659055 => ?_)
  have ez659055 : z659055.toInt = (n659052 : Nat) := gI_ofM hz659055 (by omega)
  have bz659055 : gB z659055 0 16777216 := ⟨by omega, by omega⟩
  refine G_aload_n 0 dr_cJ0_length_8abf5_5 rfl ?_
  refine Gw_callV (As := []) (gV_ok D I) (cp_659065_String_coder l hl0 D I P659045 F659046 q659047 q659048 p659049 p659050 f659051 n659052 hmq659047 hmq659048 heq659047 heq659048 bp659050 bf659051 (by have qa0 : Int32.toInt 0 = 0 := (by decide); omega)) dr_cJ0_length_8abf5_6 ⟨wr_3_61, wr_1_21, wr_3_64, by decide, rfl, (Nat.le_of_ble_eq_true rfl), (Nat.le_of_ble_eq_true rfl)⟩ wr_3_62 wr_3_63 hmq659047 heq659047 rfl (show 0 + 0 ≤ 0 by first | omega | decide) (show 0 + 0 ≤ 0 by first | omega | decide) (Nat.le_of_ble_eq_true rfl) (fun r659069 w659070 dc659066 ds659067 hp659068 => ?_) (fun _ _ _ _ _ z => z.elim)
  obtain ⟨rfl, rfl, hdc, hds⟩ := hp659068
  change G _ _ _ _ _ _ _ (.int 0 :: _) _ _ _
  refine G_widen (cs' := 0) (sl' := 0) (by omega) (by omega) ?_
  refine G_ishr dr_cJ0_length_8abf5_9 (G_nam fun z659071 hz659071 => ?_)
  have ez659071 : z659071.toInt = z659055.toInt / 1 := gI_shr (k := 0) hz659071 (by decide)
  have bz659071 : gB z659071 0 16777216 := ⟨by omega, by omega⟩
  exact G_iretA dr_cJ0_length_8abf5_10 rfl (Nat.le_of_ble_eq_true rfl) (Nat.le_of_ble_eq_true rfl) ⟨z659071, rfl, rfl, (Nat.le_of_ble_eq_true rfl), (Nat.le_of_ble_eq_true rfl), bz659071, (by have qa0 : Int32.toInt 0 = 0 := (by decide); omega), (fun R c1 => c1 z659055 z659071 ez659055 ez659071)⟩
abbrev ky_659123_AbstractStringBuilder_inflateIfNeededFor : gKey := (cJ5_inflateIfNeededFor_a7421, 2, "java/lang/AbstractStringBuilder", none, [], "inflateIfNeededFor", fun _ _ => True)
def pp_659123_AbstractStringBuilder_inflateIfNeededFor (D : va_G) (I : FieldType → ClassId) (P659107 : List Nat) (F659108 : Nat → va_E) (q659109 : Nat) (q659110 : Nat) (q659111 : Nat) (q659112 : Nat) (p659113 : Int32) (p659114 : Int32) (p659115 : Int32) (p659116 : Int32) (f659117 : Nat → Int32) (n659118 : Nat) (f659119 : Nat → Int32) (n659120 : Nat) : Option Value → va_W → Nat → Nat → Prop := fun r w dc ds => r = none ∧ w = va_pl P659107 F659108 ∧ dc ≤ 0 ∧ ds ≤ 0
set_option maxRecDepth 100000 in
set_option maxHeartbeats 4000000 in
theorem cp_659123_AbstractStringBuilder_inflateIfNeededFor (l : Launch) (hl0 : l.stackTraces = false) (D : va_G) (I : FieldType → ClassId) (P659107 : List Nat) (F659108 : Nat → va_E) (q659109 : Nat) (q659110 : Nat) (q659111 : Nat) (q659112 : Nat) (p659113 : Int32) (p659114 : Int32) (p659115 : Int32) (p659116 : Int32) (f659117 : Nat → Int32) (n659118 : Nat) (f659119 : Nat → Int32) (n659120 : Nat) (hmq659109 : q659109 ∈ P659107) (hmq659110 : q659110 ∈ P659107) (hmq659111 : q659111 ∈ P659107) (hmq659112 : q659112 ∈ P659107) (heq659109 : F659108 q659109 = .inr (1, [.ref q659111, .int 0, .int p659113, .int p659114])) (heq659110 : F659108 q659110 = .inr (0, [.ref q659112, .int 0, .int p659115, .int p659116])) (heq659111 : F659108 q659111 = .inl (I .byte, n659118, .inl f659117)) (heq659112 : F659108 q659112 = .inl (I .byte, n659120, .inl f659119)) (hneq659111q659112 : q659111 ≠ q659112) (bp659113 : gB p659113 0 1) (bp659114 : gB p659114 0 16777216) (bp659116 : gB p659116 0 1) (bf659117 : gF f659117 (-128) 127) (bf659119 : gF f659119 (-128) 127) (x659121 : ((n659118 : Int) ≤ 16777216)) (x659122 : ((n659120 : Int) ≤ 16777216)) : CtA (gV D I) l yJ5_inflateIfNeededFor_a7421 cJ5_inflateIfNeededFor_a7421 2 none 1 20 0 0 [.ref q659109, .ref q659110] (va_pl P659107 F659108) (pp_659123_AbstractStringBuilder_inflateIfNeededFor D I P659107 F659108 q659109 q659110 q659111 q659112 p659113 p659114 p659115 p659116 f659117 n659118 f659119 n659120) gNA := by
  refine CtA_ofF hl0 (by decide +kernel) (Nat.le_of_ble_eq_true rfl) ?_
  have bp659115 := gB_any p659115
  refine G_gets dr_cJ5_inflateIfNeededFor_a7421_0 wr_7_52 gz_cs (fun x hx => ?_)
  subst hx
  refine G_if_eq 21 dr_cJ5_inflateIfNeededFor_a7421_3 (by decide +kernel) (fun hc => absurd hc (by decide)) (fun _ => ?_)
  refine G_aload_n 0 dr_cJ5_inflateIfNeededFor_a7421_6 rfl ?_
  refine Gp_get 1 hmq659109 heq659109 dr_cJ5_inflateIfNeededFor_a7421_7 (gk_J4 D I) (Nat.le_of_ble_eq_true rfl) wr_7_61 rfl ?_
  refine G_aload_n 1 dr_cJ5_inflateIfNeededFor_a7421_10 rfl ?_
  refine Gw_callV (As := []) (gV_ok D I) (cp_659065_String_coder l hl0 D I P659107 F659108 q659110 q659112 p659115 p659116 f659119 n659120 hmq659110 hmq659112 heq659110 heq659112 bp659116 bf659119 (by have qa0 : Int32.toInt 0 = 0 := (by decide); omega)) dr_cJ5_inflateIfNeededFor_a7421_11 ⟨wr_8_163, wr_1_21, wr_3_64, by decide, rfl, (Nat.le_of_ble_eq_true rfl), (Nat.le_of_ble_eq_true rfl)⟩ wr_3_62 wr_3_63 hmq659110 heq659110 rfl (show 0 + 0 ≤ 0 by first | omega | decide) (show 0 + 0 ≤ 0 by first | omega | decide) (Nat.le_of_ble_eq_true rfl) (fun r659127 w659128 dc659124 ds659125 hp659126 => ?_) (fun _ _ _ _ _ z => z.elim)
  obtain ⟨rfl, rfl, hdc, hds⟩ := hp659126
  change G _ _ _ _ _ _ _ (.int 0 :: _) _ _ _
  refine G_widen (cs' := 0) (sl' := 0) (by omega) (by omega) ?_
  refine G_icmp_eq 21 dr_cJ5_inflateIfNeededFor_a7421_14 (by decide +kernel) (fun _ => ?_) (fun hc => absurd hc (by decide))
  exact G_vretA dr_cJ5_inflateIfNeededFor_a7421_21 rfl (Nat.le_of_ble_eq_true rfl) (Nat.le_of_ble_eq_true rfl) ⟨rfl, rfl, (Nat.le_of_ble_eq_true rfl), (Nat.le_of_ble_eq_true rfl)⟩
/- tr_RString_getBytes: a.1.[] -/
def tr_RString_getBytes (a2 : Int32) (a1_v : Nat → Int32) (a0_value_v : Nat → Int32) (a0_value_n : Nat) (o1 : Nat → Int32) : Prop := ∀ R : (Nat → Int32) → Prop,
  (∀ (x1 : Int32) (x2 : Int32) (x3 : Nat → Int32), x1.toInt = a2.toInt * 1 → x2.toInt = (a0_value_n : Nat) → x3 = va_cpy a0_value_v a1_v (0 : Int32).toNatClampNeg x1.toNatClampNeg x2.toNatClampNeg → R x3) →
  R o1
abbrev ky_659149_String_getBytes : gKey := (cJ0_getBytes_840e7, 4, "java/lang/String", none, [], "getBytes", fun _ _ => True)
def pp_659149_String_getBytes (D : va_G) (I : FieldType → ClassId) (P659134 : List Nat) (F659135 : Nat → va_E) (q659136 : Nat) (q659137 : Nat) (q659138 : Nat) (p659139 : Int32) (p659140 : Int32) (p659141 : Int32) (f659142 : Nat → Int32) (n659143 : Nat) (f659144 : Nat → Int32) (n659145 : Nat) : Option Value → va_W → Nat → Nat → Prop := fun r w dc ds => ∃ (F659167 : Nat → va_E) (f659165 : Nat → Int32), r = none ∧ w = va_pl P659134 F659167 ∧ rFr [q659137] P659134 F659135 F659167 ∧ F659167 q659136 = .inr (0, [.ref q659138, .int 0, .int p659140, .int p659141]) ∧ F659167 q659137 = .inl (I .byte, n659143, .inl f659165) ∧ F659167 q659138 = .inl (I .byte, n659145, .inl f659144) ∧ dc ≤ 0 ∧ ds ≤ 0 ∧ gF f659165 (-128) 127 ∧ sK f659142 f659165 p659139.toInt ∧ sF f659144 f659165 p659139.toInt (n659145 : Int) ∧ tr_RString_getBytes p659139 f659142 f659144 n659145 f659165
set_option maxRecDepth 100000 in
set_option maxHeartbeats 4000000 in
theorem cp_659149_String_getBytes (l : Launch) (hl0 : l.stackTraces = false) (D : va_G) (I : FieldType → ClassId) (P659134 : List Nat) (F659135 : Nat → va_E) (q659136 : Nat) (q659137 : Nat) (q659138 : Nat) (p659139 : Int32) (p659140 : Int32) (p659141 : Int32) (f659142 : Nat → Int32) (n659143 : Nat) (f659144 : Nat → Int32) (n659145 : Nat) (hmq659136 : q659136 ∈ P659134) (hmq659137 : q659137 ∈ P659134) (hmq659138 : q659138 ∈ P659134) (heq659136 : F659135 q659136 = .inr (0, [.ref q659138, .int 0, .int p659140, .int p659141])) (heq659137 : F659135 q659137 = .inl (I .byte, n659143, .inl f659142)) (heq659138 : F659135 q659138 = .inl (I .byte, n659145, .inl f659144)) (hneq659137q659138 : q659137 ≠ q659138) (bp659139 : gB p659139 0 16777216) (bp659141 : gB p659141 0 1) (bf659142 : gF f659142 (-128) 127) (bf659144 : gF f659144 (-128) 127) (x659146 : p659139.toInt + (n659145 : Int) ≤ (n659143 : Int)) (x659147 : ((n659143 : Int) ≤ 16777216)) (x659148 : ((n659145 : Int) ≤ 16777216)) : CtA (gV D I) l yJ0_getBytes_840e7 cJ0_getBytes_840e7 4 none 1 20 0 0 [.ref q659136, .ref q659137, .int p659139, .int 0] (va_pl P659134 F659135) (pp_659149_String_getBytes D I P659134 F659135 q659136 q659137 q659138 p659139 p659140 p659141 f659142 n659143 f659144 n659145) gNA := by
  refine CtA_ofF hl0 (by decide +kernel) (Nat.le_of_ble_eq_true rfl) ?_
  have bp659140 := gB_any p659140
  refine G_aload_n 0 dr_cJ0_getBytes_840e7_0 rfl ?_
  refine Gw_callV (As := []) (gV_ok D I) (cp_659065_String_coder l hl0 D I P659134 F659135 q659136 q659138 p659140 p659141 f659144 n659145 hmq659136 hmq659138 heq659136 heq659138 bp659141 bf659144 (by have qa0 : Int32.toInt 0 = 0 := (by decide); omega)) dr_cJ0_getBytes_840e7_1 ⟨wr_3_61, wr_1_21, wr_3_64, by decide, rfl, (Nat.le_of_ble_eq_true rfl), (Nat.le_of_ble_eq_true rfl)⟩ wr_3_62 wr_3_63 hmq659136 heq659136 rfl (show 0 + 0 ≤ 0 by first | omega | decide) (show 0 + 0 ≤ 0 by first | omega | decide) (Nat.le_of_ble_eq_true rfl) (fun r659153 w659154 dc659150 ds659151 hp659152 => ?_) (fun _ _ _ _ _ z => z.elim)
  obtain ⟨rfl, rfl, hdc, hds⟩ := hp659152
  change G _ _ _ _ _ _ _ (.int 0 :: _) _ _ _
  refine G_widen (cs' := 0) (sl' := 0) (by omega) (by omega) ?_
  refine G_iload_n 3 dr_cJ0_getBytes_840e7_4 rfl ?_
  refine G_icmp_ne 28 dr_cJ0_getBytes_840e7_5 (by decide +kernel) (fun hc => absurd hc (by decide)) (fun _ => ?_)
  refine G_aload_n 0 dr_cJ0_getBytes_840e7_8 rfl ?_
  refine Gp_get 0 hmq659136 heq659136 dr_cJ0_getBytes_840e7_9 (gk_J0 D I) (Nat.le_of_ble_eq_true rfl) wr_8_182 rfl ?_
  refine G_iconst 0 dr_cJ0_getBytes_840e7_12 (by decide +kernel) ?_
  refine G_aload_n 1 dr_cJ0_getBytes_840e7_13 rfl ?_
  refine G_iload_n 2 dr_cJ0_getBytes_840e7_14 rfl ?_
  refine G_iload_n 3 dr_cJ0_getBytes_840e7_15 rfl ?_
  refine G_ishl dr_cJ0_getBytes_840e7_16 (G_nam fun z659155 hz659155 => ?_)
  have ez659155 : z659155.toInt = p659139.toInt * 1 := gI_shl (k := 0) hz659155 (by decide) bp659139 (by decide) (by decide)
  have bz659155 : gB z659155 0 16777216 := ⟨by omega, by omega⟩
  refine G_aload_n 0 dr_cJ0_getBytes_840e7_17 rfl ?_
  refine Gp_get 0 hmq659136 heq659136 dr_cJ0_getBytes_840e7_18 (gk_J0 D I) (Nat.le_of_ble_eq_true rfl) wr_8_182 rfl ?_
  refine Gp_alen (Int32.ofNat n659145) 1 hmq659138 heq659138 dr_cJ0_getBytes_840e7_21 rfl rfl (G_nam fun z659156 hz659156 => ?_)
  have ez659156 : z659156.toInt = (n659145 : Nat) := gI_ofM hz659156 (by omega)
  have bz659156 : gB z659156 0 16777216 := ⟨by omega, by omega⟩
  refine Gp_copyp 1 hmq659138 hmq659137 heq659138 heq659137 dr_cJ0_getBytes_840e7_22 wr_8_168 wr_5_113 wr_5_112 wr_1_34 rfl rfl (fun j => gT_byte (bf659144 j)) (by decide) (by omega) (by omega) (by have qa0 : Int32.toInt 0 = 0 := (by decide); omega) (by have qa0 : Int32.toInt 0 = 0 := (by decide); omega) (Nat.le_of_ble_eq_true rfl) (Nat.le_of_ble_eq_true rfl) (fun F659157 e659158 n659159 => ?_)
  obtain ⟨f659160, hf659160⟩ : ∃ z, z = va_cpy f659144 f659142 (0 : Int32).toNatClampNeg z659155.toNatClampNeg z659156.toNatClampNeg := ⟨_, rfl⟩
  rw [← hf659160] at e659158
  have bf659160 : gF f659160 (-128) 127 := gF_cpy hf659160 bf659144 bf659142
  have he659161 : F659157 q659136 = .inr (0, [.ref q659138, .int 0, .int p659140, .int p659141]) := (n659159 q659136 (rn_oa heq659136 heq659137)).trans heq659136
  have he659162 : F659157 q659138 = .inl (I .byte, n659145, .inl f659144) := (n659159 q659138 (Ne.symm hneq659137q659138)).trans heq659138
  have he659163 : F659157 q659137 = .inl (I .byte, n659143, .inl f659160) := e659158
  have hfr659164 : rFr [q659137] P659134 F659135 F659157 := rFr_put (rFr_rf (W := []) (P := P659134) (F := F659135)) n659159
  refine G_goto 43 dr_cJ0_getBytes_840e7_25 (by decide +kernel) ?_
  exact G_vretA dr_cJ0_getBytes_840e7_43 rfl (Nat.le_of_ble_eq_true rfl) (Nat.le_of_ble_eq_true rfl) ⟨F659157, f659160, rfl, rfl, hfr659164, he659161, he659163, he659162, (Nat.le_of_ble_eq_true rfl), (Nat.le_of_ble_eq_true rfl), bf659160, (sK_cpy hf659160 (by omega)), (sF_cpy hf659160 (by decide) (by omega) (by omega)), (fun R c1 => c1 z659155 z659156 f659160 ez659155 ez659156 hf659160)⟩
/- tr_RAbstractStringBuilder_putStringAt: a.0.value.[] -/
def tr_RAbstractStringBuilder_putStringAt (a1 : Int32) (a0_value_v : Nat → Int32) (a2_value_v : Nat → Int32) (a2_value_n : Nat) (o1 : Nat → Int32) : Prop := ∀ R : (Nat → Int32) → Prop,
  (∀ (x1 : Nat → Int32), tr_RString_getBytes a1 a0_value_v a2_value_v a2_value_n x1 → R x1) →
  R o1
abbrev ky_659106_AbstractStringBuilder_putStringAt : gKey := (cJ5_putStringAt_47b60, 3, "java/lang/AbstractStringBuilder", none, [], "putStringAt", fun _ _ => True)
def pp_659106_AbstractStringBuilder_putStringAt (D : va_G) (I : FieldType → ClassId) (P659088 : List Nat) (F659089 : Nat → va_E) (q659090 : Nat) (q659091 : Nat) (q659092 : Nat) (q659093 : Nat) (p659094 : Int32) (p659095 : Int32) (p659096 : Int32) (p659097 : Int32) (p659098 : Int32) (f659099 : Nat → Int32) (n659100 : Nat) (f659101 : Nat → Int32) (n659102 : Nat) : Option Value → va_W → Nat → Nat → Prop := fun r w dc ds => ∃ (F659187 : Nat → va_E) (f659185 : Nat → Int32), r = none ∧ w = va_pl P659088 F659187 ∧ rFr [q659092] P659088 F659089 F659187 ∧ F659187 q659090 = .inr (1, [.ref q659092, .int 0, .int p659095, .int p659096]) ∧ F659187 q659091 = .inr (0, [.ref q659093, .int 0, .int p659097, .int p659098]) ∧ F659187 q659092 = .inl (I .byte, n659100, .inl f659185) ∧ F659187 q659093 = .inl (I .byte, n659102, .inl f659101) ∧ dc ≤ 0 ∧ ds ≤ 0 ∧ gF f659185 (-128) 127 ∧ sK f659099 f659185 p659094.toInt ∧ sF f659101 f659185 p659094.toInt (n659102 : Int) ∧ tr_RAbstractStringBuilder_putStringAt p659094 f659099 f659101 n659102 f659185
set_option maxRecDepth 100000 in
set_option maxHeartbeats 4000000 in
theorem cp_659106_AbstractStringBuilder_putStringAt (l : Launch) (hl0 : l.stackTraces = false) (D : va_G) (I : FieldType → ClassId) (P659088 : List Nat) (F659089 : Nat → va_E) (q659090 : Nat) (q659091 : Nat) (q659092 : Nat) (q659093 : Nat) (p659094 : Int32) (p659095 : Int32) (p659096 : Int32) (p659097 : Int32) (p659098 : Int32) (f659099 : Nat → Int32) (n659100 : Nat) (f659101 : Nat → Int32) (n659102 : Nat) (hmq659090 : q659090 ∈ P659088) (hmq659091 : q659091 ∈ P659088) (hmq659092 : q659092 ∈ P659088) (hmq659093 : q659093 ∈ P659088) (heq659090 : F659089 q659090 = .inr (1, [.ref q659092, .int 0, .int p659095, .int p659096])) (heq659091 : F659089 q659091 = .inr (0, [.ref q659093, .int 0, .int p659097, .int p659098])) (heq659092 : F659089 q659092 = .inl (I .byte, n659100, .inl f659099)) (heq659093 : F659089 q659093 = .inl (I .byte, n659102, .inl f659101)) (hneq659092q659093 : q659092 ≠ q659093) (bp659094 : gB p659094 0 16777216) (bp659095 : gB p659095 0 1) (bp659096 : gB p659096 0 16777216) (bp659098 : gB p659098 0 1) (bf659099 : gF f659099 (-128) 127) (bf659101 : gF f659101 (-128) 127) (x659103 : p659094.toInt + (n659102 : Int) ≤ (n659100 : Int)) (x659104 : ((n659100 : Int) ≤ 16777216)) (x659105 : ((n659102 : Int) ≤ 16777216)) : CtA (gV D I) l yJ5_putStringAt_47b60 cJ5_putStringAt_47b60 3 none 2 43 0 0 [.ref q659090, .int p659094, .ref q659091] (va_pl P659088 F659089) (pp_659106_AbstractStringBuilder_putStringAt D I P659088 F659089 q659090 q659091 q659092 q659093 p659094 p659095 p659096 p659097 p659098 f659099 n659100 f659101 n659102) gNA := by
  refine CtA_ofF hl0 (by decide +kernel) (Nat.le_of_ble_eq_true rfl) ?_
  have bp659097 := gB_any p659097
  refine G_aload_n 0 dr_cJ5_putStringAt_47b60_0 rfl ?_
  refine G_aload_n 2 dr_cJ5_putStringAt_47b60_1 rfl ?_
  refine Gw_callVB (As := [.ref q659091]) (gV_ok D I) (cp_659123_AbstractStringBuilder_inflateIfNeededFor l hl0 D I P659088 F659089 q659090 q659091 q659092 q659093 p659095 p659096 p659097 p659098 f659099 n659100 f659101 n659102 hmq659090 hmq659091 hmq659092 hmq659093 heq659090 heq659091 heq659092 heq659093 hneq659092q659093 bp659095 bp659096 bp659098 bf659099 bf659101 (by have qa0 : Int32.toInt 0 = 0 := (by decide); omega) (by have qa0 : Int32.toInt 0 = 0 := (by decide); omega)) dr_cJ5_putStringAt_47b60_2 ⟨wr_8_159, wr_1_19, wr_8_162, by decide, rfl, (Nat.le_of_ble_eq_true rfl), (Nat.le_of_ble_eq_true rfl)⟩ wr_8_161 wr_s_5 hmq659090 heq659090 rfl (show 0 + 0 ≤ 0 by first | omega | decide) (show 0 + 0 ≤ 0 by first | omega | decide) (Nat.le_of_ble_eq_true rfl) (fun r659132 w659133 dc659129 ds659130 hp659131 => ?_) (fun _ _ _ _ _ z => z.elim)
  obtain ⟨rfl, rfl, hdc, hds⟩ := hp659131
  change G _ _ _ _ _ _ _ _ _ _ _
  refine G_widen (cs' := 0) (sl' := 0) (by omega) (by omega) ?_
  refine G_aload_n 2 dr_cJ5_putStringAt_47b60_5 rfl ?_
  refine G_aload_n 0 dr_cJ5_putStringAt_47b60_6 rfl ?_
  refine Gp_get 0 hmq659090 heq659090 dr_cJ5_putStringAt_47b60_7 (gk_J4 D I) (Nat.le_of_ble_eq_true rfl) wr_7_60 rfl ?_
  refine G_iload_n 1 dr_cJ5_putStringAt_47b60_10 rfl ?_
  refine G_aload_n 0 dr_cJ5_putStringAt_47b60_11 rfl ?_
  refine Gp_get 1 hmq659090 heq659090 dr_cJ5_putStringAt_47b60_12 (gk_J4 D I) (Nat.le_of_ble_eq_true rfl) wr_7_61 rfl ?_
  refine Gw_callV (As := [.ref q659092, .int p659094, .int 0]) (gV_ok D I) (cp_659149_String_getBytes l hl0 D I P659088 F659089 q659091 q659092 q659093 p659094 p659097 p659098 f659099 n659100 f659101 n659102 hmq659091 hmq659092 hmq659093 heq659091 heq659092 heq659093 hneq659092q659093 bp659094 bp659098 bf659099 bf659101 (by have qa0 : Int32.toInt 0 = 0 := (by decide); omega) (by have qa0 : Int32.toInt 0 = 0 := (by decide); omega) (by have qa0 : Int32.toInt 0 = 0 := (by decide); omega)) dr_cJ5_putStringAt_47b60_15 ⟨wr_8_164, wr_1_21, wr_8_167, by decide, rfl, (Nat.le_of_ble_eq_true rfl), (Nat.le_of_ble_eq_true rfl)⟩ wr_8_165 wr_8_166 hmq659091 heq659091 rfl (show 0 + 0 ≤ 0 by first | omega | decide) (show 0 + 0 ≤ 0 by first | omega | decide) (Nat.le_of_ble_eq_true rfl) (fun r659171 w659172 dc659168 ds659169 hp659170 => ?_) (fun _ _ _ _ _ z => z.elim)
  obtain ⟨F659177, f659173, rfl, rfl, hfr659179, he659180, he659181, he659182, hdc, hds, bf659173, x659174, x659175, ht659176⟩ := hp659170
  have he659183 : F659177 q659090 = .inr (1, [.ref q659092, .int 0, .int p659095, .int p659096]) := (hfr659179 q659090 hmq659090 (nm_c (rn_oa heq659090 heq659092) nm_n)).trans heq659090
  have hfr659184 : rFr [q659092] P659088 F659089 F659177 := rFr_call (rSub_rf (P := P659088)) (rFr_rf (W := []) (P := P659088) (F := F659089)) hfr659179 (fun b hb hn => ⟨nm_n, (nm_c (fun e => hn (e ▸ List.mem_cons_self)) nm_n)⟩)
  change G _ _ _ _ _ _ _ _ _ _ _
  refine G_widen (cs' := 0) (sl' := 0) (by omega) (by omega) ?_
  exact G_vretA dr_cJ5_putStringAt_47b60_18 rfl (Nat.le_of_ble_eq_true rfl) (Nat.le_of_ble_eq_true rfl) ⟨F659177, f659173, rfl, rfl, hfr659184, he659183, he659180, he659181, he659182, (Nat.le_of_ble_eq_true rfl), (Nat.le_of_ble_eq_true rfl), bf659173, (sK_c x659174 (by omega)), (by assumption), (fun R c1 => c1 f659173 ht659176)⟩
/- tr_RAbstractStringBuilder_append3: a.0...count, a.0.value.[] -/
def tr_RAbstractStringBuilder_append3 (a0_count : Int32) (a0_value_v : Nat → Int32) (a0_value_n : Nat) (a1_value_v : Nat → Int32) (a1_value_n : Nat) (o1 : Int32) (o2 : Nat → Int32) : Prop := ∀ R : (Int32) → (Nat → Int32) → Prop,
  (∀ (x1 : Int32) (x2 : Int32) (x3 : Nat → Int32) (x4 : Int32), gB x1 0 16777216 → tr_RString_length a1_value_n x1 → x2.toInt = a0_count.toInt + x1.toInt → tr_RAbstractStringBuilder_ensureCapacityInternal x2 a0_value_n → tr_RAbstractStringBuilder_putStringAt a0_count a0_value_v a1_value_v a1_value_n x3 → x4.toInt = a0_count.toInt + x1.toInt → R x4 x3) →
  R o1 o2
abbrev ky_659044_AbstractStringBuilder_append : gKey := (cJ5_append_cf1ce, 3, "java/lang/AbstractStringBuilder", (some (FieldType.object "java/lang/AbstractStringBuilder")), [], "append", fun _ _ => True)
def pp_659044_AbstractStringBuilder_append (D : va_G) (I : FieldType → ClassId) (P659027 : List Nat) (F659028 : Nat → va_E) (q659029 : Nat) (q659030 : Nat) (q659031 : Nat) (q659032 : Nat) (p659033 : Int32) (p659034 : Int32) (p659035 : Int32) (p659036 : Int32) (f659037 : Nat → Int32) (n659038 : Nat) (f659039 : Nat → Int32) (n659040 : Nat) : Option Value → va_W → Nat → Nat → Prop := fun r w dc ds => ∃ (F659217 : Nat → va_E) (o659214 : Int32) (f659215 : Nat → Int32), r = some (.ref q659029) ∧ w = va_pl P659027 F659217 ∧ rFr [q659029, q659031] P659027 F659028 F659217 ∧ F659217 q659029 = .inr (1, [.ref q659031, .int 0, .int p659033, .int o659214]) ∧ F659217 q659030 = .inr (0, [.ref q659032, .int 0, .int p659035, .int p659036]) ∧ F659217 q659031 = .inl (I .byte, n659038, .inl f659215) ∧ F659217 q659032 = .inl (I .byte, n659040, .inl f659039) ∧ dc ≤ 0 ∧ ds ≤ 0 ∧ gB o659214 0 16777216 ∧ gF f659215 (-128) 127 ∧ o659214.toInt = p659034.toInt + (n659040 : Int) ∧ sK f659037 f659215 p659034.toInt ∧ sF f659039 f659215 p659034.toInt (n659040 : Int) ∧ tr_RAbstractStringBuilder_append3 p659034 f659037 n659038 f659039 n659040 o659214 f659215
set_option maxRecDepth 100000 in
set_option maxHeartbeats 4000000 in
theorem cp_659044_AbstractStringBuilder_append (l : Launch) (hl0 : l.stackTraces = false) (D : va_G) (I : FieldType → ClassId) (P659027 : List Nat) (F659028 : Nat → va_E) (q659029 : Nat) (q659030 : Nat) (q659031 : Nat) (q659032 : Nat) (p659033 : Int32) (p659034 : Int32) (p659035 : Int32) (p659036 : Int32) (f659037 : Nat → Int32) (n659038 : Nat) (f659039 : Nat → Int32) (n659040 : Nat) (hmq659029 : q659029 ∈ P659027) (hmq659030 : q659030 ∈ P659027) (hmq659031 : q659031 ∈ P659027) (hmq659032 : q659032 ∈ P659027) (heq659029 : F659028 q659029 = .inr (1, [.ref q659031, .int 0, .int p659033, .int p659034])) (heq659030 : F659028 q659030 = .inr (0, [.ref q659032, .int 0, .int p659035, .int p659036])) (heq659031 : F659028 q659031 = .inl (I .byte, n659038, .inl f659037)) (heq659032 : F659028 q659032 = .inl (I .byte, n659040, .inl f659039)) (hneq659031q659032 : q659031 ≠ q659032) (bp659033 : gB p659033 0 1) (bp659034 : gB p659034 0 16777216) (bp659036 : gB p659036 0 1) (bf659037 : gF f659037 (-128) 127) (bf659039 : gF f659039 (-128) 127) (x659041 : p659034.toInt + (n659040 : Int) ≤ (n659038 : Int)) (x659042 : ((n659038 : Int) ≤ 16777216)) (x659043 : ((n659040 : Int) ≤ 16777216)) : CtA (gV D I) l yJ5_append_cf1ce cJ5_append_cf1ce 3 (some (FieldType.object "java/lang/AbstractStringBuilder")) 3 65 0 0 [.ref q659029, .ref q659030] (va_pl P659027 F659028) (pp_659044_AbstractStringBuilder_append D I P659027 F659028 q659029 q659030 q659031 q659032 p659033 p659034 p659035 p659036 f659037 n659038 f659039 n659040) gNA := by
  refine CtA_ofF hl0 (by decide +kernel) (Nat.le_of_ble_eq_true rfl) ?_
  have bp659035 := gB_any p659035
  refine G_aload_n 1 dr_cJ5_append_cf1ce_0 rfl ?_
  refine G_ifnonnull 9 dr_cJ5_append_cf1ce_1 (by decide +kernel) ?_
  refine G_aload_n 1 dr_cJ5_append_cf1ce_9 rfl ?_
  refine Gw_callV (As := []) (gV_ok D I) (cp_659054_String_length l hl0 D I P659027 F659028 q659030 q659032 p659035 p659036 f659039 n659040 hmq659030 hmq659032 heq659030 heq659032 bp659036 bf659039 (by have qa0 : Int32.toInt 0 = 0 := (by decide); omega)) dr_cJ5_append_cf1ce_10 ⟨wr_8_154, wr_1_21, wr_3_60, by decide, rfl, (Nat.le_of_ble_eq_true rfl), (Nat.le_of_ble_eq_true rfl)⟩ wr_3_58 wr_3_59 hmq659030 heq659030 rfl (show 0 + 0 ≤ 0 by first | omega | decide) (show 0 + 0 ≤ 0 by first | omega | decide) (Nat.le_of_ble_eq_true rfl) (fun r659076 w659077 dc659073 ds659074 hp659075 => ?_) (fun _ _ _ _ _ z => z.elim)
  obtain ⟨o659078, rfl, rfl, hdc, hds, bo659078, x659079, ht659080⟩ := hp659075
  change G _ _ _ _ _ _ _ (.int o659078 :: _) _ _ _
  refine G_widen (cs' := 0) (sl' := 0) (by omega) (by omega) ?_
  refine G_istore_n (L' := [(2, .int o659078), (0, .ref q659029), (1, .ref q659030)]) dr_cJ5_append_cf1ce_13 (Nat.le_of_ble_eq_true rfl) rfl ?_
  refine G_aload_n 1 dr_cJ5_append_cf1ce_14 rfl ?_
  refine G_aload_n 1 dr_cJ5_append_cf1ce_15 rfl ?_
  refine Gp_get 3 hmq659029 heq659029 dr_cJ5_append_cf1ce_16 (gk_J4 D I) (Nat.le_of_ble_eq_true rfl) wr_7_64 rfl ?_
  refine G_iload_n 0 dr_cJ5_append_cf1ce_19 rfl ?_
  refine G_iadd dr_cJ5_append_cf1ce_20 (G_nam fun z659081 hz659081 => ?_)
  have ez659081 : z659081.toInt = p659034.toInt + o659078.toInt := by rw [gI_add hz659081 bp659034 bo659078 (by decide) (by decide)]
  have bz659081 : gB z659081 0 33554432 := gB_add (gI_add hz659081 bp659034 bo659078 (by decide) (by decide)) bp659034 bo659078 (by decide) (by decide)
  refine Gw_callVB (As := [.int z659081]) (gV_ok D I) (cp_658538_AbstractStringBuilder_ensureCapacityInternal l hl0 D I P659027 F659028 q659029 q659031 z659081 p659033 p659034 f659037 n659038 hmq659029 hmq659031 heq659029 heq659031 ⟨by omega, by omega⟩ bp659033 bp659034 bf659037 (by have qa0 : Int32.toInt 0 = 0 := (by decide); omega) (by have qa0 : Int32.toInt 0 = 0 := (by decide); omega)) dr_cJ5_append_cf1ce_21 ⟨wr_8_4, wr_1_19, wr_8_7, by decide, rfl, (Nat.le_of_ble_eq_true rfl), (Nat.le_of_ble_eq_true rfl)⟩ wr_8_6 wr_s_0 hmq659029 heq659029 rfl (show 0 + 0 ≤ 0 by first | omega | decide) (show 0 + 0 ≤ 0 by first | omega | decide) (Nat.le_of_ble_eq_true rfl) (fun r659085 w659086 dc659082 ds659083 hp659084 => ?_) (fun _ _ _ _ _ z => z.elim)
  obtain ⟨rfl, rfl, hdc, hds, ht659087⟩ := hp659084
  change G _ _ _ _ _ _ _ _ _ _ _
  refine G_widen (cs' := 0) (sl' := 0) (by omega) (by omega) ?_
  refine G_aload_n 1 dr_cJ5_append_cf1ce_24 rfl ?_
  refine G_aload_n 1 dr_cJ5_append_cf1ce_25 rfl ?_
  refine Gp_get 3 hmq659029 heq659029 dr_cJ5_append_cf1ce_26 (gk_J4 D I) (Nat.le_of_ble_eq_true rfl) wr_7_64 rfl ?_
  refine G_aload_n 2 dr_cJ5_append_cf1ce_29 rfl ?_
  refine Gw_callVB (As := [.int p659034, .ref q659030]) (gV_ok D I) (cp_659106_AbstractStringBuilder_putStringAt l hl0 D I P659027 F659028 q659029 q659030 q659031 q659032 p659034 p659033 p659034 p659035 p659036 f659037 n659038 f659039 n659040 hmq659029 hmq659030 hmq659031 hmq659032 heq659029 heq659030 heq659031 heq659032 hneq659031q659032 bp659034 bp659033 bp659034 bp659036 bf659037 bf659039 (by have qa0 : Int32.toInt 0 = 0 := (by decide); omega) (by have qa0 : Int32.toInt 0 = 0 := (by decide); omega) (by have qa0 : Int32.toInt 0 = 0 := (by decide); omega)) dr_cJ5_append_cf1ce_30 ⟨wr_8_155, wr_1_19, wr_8_158, by decide, rfl, (Nat.le_of_ble_eq_true rfl), (Nat.le_of_ble_eq_true rfl)⟩ wr_8_157 wr_s_4 hmq659029 heq659029 rfl (show 0 + 0 ≤ 0 by first | omega | decide) (show 0 + 0 ≤ 0 by first | omega | decide) (Nat.le_of_ble_eq_true rfl) (fun r659191 w659192 dc659188 ds659189 hp659190 => ?_) (fun _ _ _ _ _ z => z.elim)
  obtain ⟨F659197, f659193, rfl, rfl, hfr659199, he659200, he659201, he659202, he659203, hdc, hds, bf659193, x659194, x659195, ht659196⟩ := hp659190
  have hfr659204 : rFr [q659031] P659027 F659028 F659197 := rFr_call (rSub_rf (P := P659027)) (rFr_rf (W := []) (P := P659027) (F := F659028)) hfr659199 (fun b hb hn => ⟨nm_n, (nm_c (fun e => hn (e ▸ List.mem_cons_self)) nm_n)⟩)
  change G _ _ _ _ _ _ _ _ _ _ _
  refine G_widen (cs' := 0) (sl' := 0) (by omega) (by omega) ?_
  refine G_aload_n 1 dr_cJ5_append_cf1ce_33 rfl ?_
  refine G_dup dr_cJ5_append_cf1ce_34 rfl ?_
  refine Gp_get 3 hmq659029 he659200 dr_cJ5_append_cf1ce_35 (gk_J4 D I) (Nat.le_of_ble_eq_true rfl) wr_7_64 rfl ?_
  refine G_iload_n 0 dr_cJ5_append_cf1ce_38 rfl ?_
  refine G_iadd dr_cJ5_append_cf1ce_39 (G_nam fun z659205 hz659205 => ?_)
  have ez659205 : z659205.toInt = p659034.toInt + o659078.toInt := by rw [gI_add hz659205 bp659034 bo659078 (by decide) (by decide)]
  have bz659205 : gB z659205 0 33554432 := gB_add (gI_add hz659205 bp659034 bo659078 (by decide) (by decide)) bp659034 bo659078 (by decide) (by decide)
  refine Gp_put 3 hmq659029 he659200 dr_cJ5_append_cf1ce_40 (gk_J4 D I) (Nat.le_of_ble_eq_true rfl) wr_7_64 rfl rfl rfl (Nat.le_of_ble_eq_true rfl) (fun F659206 e659207 n659208 => ?_)
  have he659209 : F659206 q659030 = .inr (0, [.ref q659032, .int 0, .int p659035, .int p659036]) := (n659208 q659030 (rn_oo he659201 he659200 (by decide))).trans he659201
  have he659210 : F659206 q659031 = .inl (I .byte, n659038, .inl f659193) := (n659208 q659031 (rn_ao he659202 he659200)).trans he659202
  have he659211 : F659206 q659032 = .inl (I .byte, n659040, .inl f659039) := (n659208 q659032 (rn_ao he659203 he659200)).trans he659203
  have he659212 : F659206 q659029 = .inr (1, [.ref q659031, .int 0, .int p659033, .int z659205]) := e659207
  have hfr659213 : rFr [q659029, q659031] P659027 F659028 F659206 := rFr_put hfr659204 n659208
  refine G_aload_n 1 dr_cJ5_append_cf1ce_43 rfl ?_
  exact G_aretA (FieldType.object "java/lang/AbstractStringBuilder") dr_cJ5_append_cf1ce_44 rfl (by first | exact Or.inl ⟨_, rfl⟩ | exact Or.inr ⟨_, rfl⟩) (Or.inr ⟨_, rfl⟩) (Nat.le_of_ble_eq_true rfl) (Nat.le_of_ble_eq_true rfl) ⟨F659206, z659205, f659193, rfl, rfl, hfr659213, he659212, he659209, he659210, he659211, (Nat.le_of_ble_eq_true rfl), (Nat.le_of_ble_eq_true rfl), ⟨by omega, by omega⟩, bf659193, (by have qa0 : Int32.toInt 0 = 0 := (by decide); omega), (sK_c x659194 (by omega)), (by assumption), (fun R c1 => c1 o659078 z659081 f659193 z659205 bo659078 ht659080 ez659081 ht659087 ht659196 ez659205)⟩
/- tr_RStringBuilder_append3: a.0...count, a.0.value.[] -/
def tr_RStringBuilder_append3 (a0_count : Int32) (a0_value_v : Nat → Int32) (a0_value_n : Nat) (a1_value_v : Nat → Int32) (a1_value_n : Nat) (o1 : Int32) (o2 : Nat → Int32) : Prop := ∀ R : (Int32) → (Nat → Int32) → Prop,
  (∀ (x1 : Int32) (x2 : Nat → Int32), gB x1 0 16777216 → tr_RAbstractStringBuilder_append3 a0_count a0_value_v a0_value_n a1_value_v a1_value_n x1 x2 → R x1 x2) →
  R o1 o2
