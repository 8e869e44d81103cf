theorem dr_cJ5_setLength_d00df_0 : decode cJ5_setLength_d00df 0 = .ok (.iload_n 1, 1) := by decide +kernel
theorem dr_cJ5_setLength_d00df_1 : decode cJ5_setLength_d00df 1 = .ok (.ifCond .ge 12, 3) := by decide +kernel
theorem dr_cJ5_setLength_d00df_13 : decode cJ5_setLength_d00df 13 = .ok (.aload_n 0, 1) := by decide +kernel
theorem dr_cJ5_setLength_d00df_14 : decode cJ5_setLength_d00df 14 = .ok (.iload_n 1, 1) := by decide +kernel
theorem dr_cJ5_setLength_d00df_15 : decode cJ5_setLength_d00df 15 = .ok (.invokevirtual 100, 3) := by decide +kernel
theorem dr_cJ5_setLength_d00df_18 : decode cJ5_setLength_d00df 18 = .ok (.aload_n 0, 1) := by decide +kernel
theorem dr_cJ5_setLength_d00df_19 : decode cJ5_setLength_d00df 19 = .ok (.getfield 79, 3) := by decide +kernel
theorem dr_cJ5_setLength_d00df_22 : decode cJ5_setLength_d00df 22 = .ok (.iload_n 1, 1) := by decide +kernel
theorem dr_cJ5_setLength_d00df_23 : decode cJ5_setLength_d00df 23 = .ok (.if_icmp .ge 40, 3) := by decide +kernel
theorem dr_cJ5_setLength_d00df_63 : decode cJ5_setLength_d00df 63 = .ok (.aload_n 0, 1) := by decide +kernel
theorem dr_cJ5_setLength_d00df_64 : decode cJ5_setLength_d00df 64 = .ok (.getfield 79, 3) := by decide +kernel
theorem dr_cJ5_setLength_d00df_67 : decode cJ5_setLength_d00df 67 = .ok (.iload_n 1, 1) := by decide +kernel
theorem dr_cJ5_setLength_d00df_68 : decode cJ5_setLength_d00df 68 = .ok (.if_icmp .le 8, 3) := by decide +kernel
theorem dr_cJ5_setLength_d00df_76 : decode cJ5_setLength_d00df 76 = .ok (.aload_n 0, 1) := by decide +kernel
theorem dr_cJ5_setLength_d00df_77 : decode cJ5_setLength_d00df 77 = .ok (.iload_n 1, 1) := by decide +kernel
theorem dr_cJ5_setLength_d00df_78 : decode cJ5_setLength_d00df 78 = .ok (.putfield 79, 3) := by decide +kernel
theorem dr_cJ5_setLength_d00df_81 : decode cJ5_setLength_d00df 81 = .ok (.return_, 1) := by decide +kernel
theorem dr_cJ5_setLength_d00df_71 : decode cJ5_setLength_d00df 71 = .ok (.aload_n 0, 1) := by decide +kernel
theorem dr_cJ5_setLength_d00df_72 : decode cJ5_setLength_d00df 72 = .ok (.iconst 1, 1) := by decide +kernel
theorem dr_cJ5_setLength_d00df_73 : decode cJ5_setLength_d00df 73 = .ok (.putfield 73, 3) := by decide +kernel
theorem wr_7_62 : (Jvm.Cond.fieldLink "java/lang/AbstractStringBuilder" (73 : Nat) "java/lang/AbstractStringBuilder" "maybeLatin1" "Z") ∈ gw := gw_7 62 rfl rfl
theorem dr_cJ4_setLength_d00df_0 : decode cJ4_setLength_d00df 0 = .ok (.aload_n 0, 1) := by decide +kernel
theorem dr_cJ4_setLength_d00df_1 : decode cJ4_setLength_d00df 1 = .ok (.iload_n 1, 1) := by decide +kernel
theorem dr_cJ4_setLength_d00df_2 : decode cJ4_setLength_d00df 2 = .ok (.invokespecial 333, 3) := by decide +kernel
theorem wr_11_129 : (Jvm.Cond.methodLink "java/lang/StringBuilder" (333 : Nat) ({ cls := "java/lang/AbstractStringBuilder", name := "setLength", desc := "(I)V" } : Jvm.MethodName)) ∈ gw := gw_11 129 rfl rfl
theorem wr_11_131 : (Jvm.Cond.code ({ cls := "java/lang/AbstractStringBuilder", name := "setLength", desc := "(I)V" } : Jvm.MethodName) prog_21_method_13_code (2 : Nat) (Option.none : Option Jvm.ClassFile.FieldType)) ∈ gw := gw_11 131 rfl rfl
theorem wr_11_130 : (Jvm.Cond.instanceMethod ({ cls := "java/lang/AbstractStringBuilder", name := "setLength", desc := "(I)V" } : Jvm.MethodName)) ∈ gw := gw_11 130 rfl rfl
theorem wr_11_233 : (Jvm.Cond.sameMethod "java/lang/AbstractStringBuilder" "java/lang/AbstractStringBuilder" "setLength" "(I)V") ∈ gw := gw_11 233 rfl rfl
theorem dr_cJ4_setLength_d00df_5 : decode cJ4_setLength_d00df 5 = .ok (.return_, 1) := by decide +kernel
theorem dr_cJ5_init_d00df_0 : decode cJ5_init_d00df 0 = .ok (.aload_n 0, 1) := by decide +kernel
theorem dr_cJ5_init_d00df_1 : decode cJ5_init_d00df 1 = .ok (.invokespecial 3, 3) := by decide +kernel
theorem wr_7_51 : (Jvm.Cond.methodLink "java/lang/AbstractStringBuilder" (3 : Nat) ({ cls := "java/lang/Object", name := "<init>", desc := "()V" } : Jvm.MethodName)) ∈ gw := gw_7 51 rfl rfl
theorem dr_cJ5_init_d00df_4 : decode cJ5_init_d00df 4 = .ok (.getstatic 18, 3) := by decide +kernel
theorem dr_cJ5_init_d00df_7 : decode cJ5_init_d00df 7 = .ok (.ifCond .eq 18, 3) := by decide +kernel
theorem dr_cJ5_init_d00df_10 : decode cJ5_init_d00df 10 = .ok (.aload_n 0, 1) := by decide +kernel
theorem dr_cJ5_init_d00df_11 : decode cJ5_init_d00df 11 = .ok (.iload_n 1, 1) := by decide +kernel
theorem dr_cJ5_init_d00df_12 : decode cJ5_init_d00df 12 = .ok (.newarray .byte, 2) := by decide +kernel
theorem dr_cJ5_init_d00df_14 : decode cJ5_init_d00df 14 = .ok (.putfield 15, 3) := by decide +kernel
theorem dr_cJ5_init_d00df_17 : decode cJ5_init_d00df 17 = .ok (.aload_n 0, 1) := by decide +kernel
theorem dr_cJ5_init_d00df_18 : decode cJ5_init_d00df 18 = .ok (.iconst 0, 1) := by decide +kernel
theorem dr_cJ5_init_d00df_19 : decode cJ5_init_d00df 19 = .ok (.putfield 22, 3) := by decide +kernel
theorem dr_cJ5_init_d00df_22 : decode cJ5_init_d00df 22 = .ok (.goto 16, 3) := by decide +kernel
theorem dr_cJ5_init_d00df_38 : decode cJ5_init_d00df 38 = .ok (.return_, 1) := by decide +kernel
theorem dr_cJ4_init_da8c8_0 : decode cJ4_init_da8c8 0 = .ok (.aload_n 0, 1) := by decide +kernel
theorem dr_cJ4_init_da8c8_1 : decode cJ4_init_da8c8 1 = .ok (.bipush 16, 2) := by decide +kernel
theorem dr_cJ4_init_da8c8_3 : decode cJ4_init_da8c8 3 = .ok (.invokespecial 1, 3) := by decide +kernel
theorem wr_7_48 : (Jvm.Cond.methodLink "java/lang/StringBuilder" (1 : Nat) ({ cls := "java/lang/AbstractStringBuilder", name := "<init>", desc := "(I)V" } : Jvm.MethodName)) ∈ gw := gw_7 48 rfl rfl
theorem wr_7_50 : (Jvm.Cond.code ({ cls := "java/lang/AbstractStringBuilder", name := "<init>", desc := "(I)V" } : Jvm.MethodName) prog_21_method_2_code (2 : Nat) (Option.none : Option Jvm.ClassFile.FieldType)) ∈ gw := gw_7 50 rfl rfl
theorem wr_7_49 : (Jvm.Cond.instanceMethod ({ cls := "java/lang/AbstractStringBuilder", name := "<init>", desc := "(I)V" } : Jvm.MethodName)) ∈ gw := gw_7 49 rfl rfl
theorem dr_cJ4_init_da8c8_6 : decode cJ4_init_da8c8 6 = .ok (.return_, 1) := by decide +kernel
theorem dr_cJ0_coder_7d493_0 : decode cJ0_coder_7d493 0 = .ok (.getstatic 38, 3) := by decide +kernel
theorem wr_3_65 : (Jvm.Cond.fieldLink "java/lang/String" (38 : Nat) "java/lang/String" "COMPACT_STRINGS" "Z") ∈ gw := gw_3 65 rfl rfl
theorem dr_cJ0_coder_7d493_3 : decode cJ0_coder_7d493 3 = .ok (.ifCond .eq 10, 3) := by decide +kernel
theorem dr_cJ0_coder_7d493_6 : decode cJ0_coder_7d493 6 = .ok (.aload_n 0, 1) := by decide +kernel
theorem dr_cJ0_coder_7d493_7 : decode cJ0_coder_7d493 7 = .ok (.getfield 15, 3) := by decide +kernel
theorem wr_8_183 : (Jvm.Cond.fieldLink "java/lang/String" (15 : Nat) "java/lang/String" "coder" "B") ∈ gw := gw_8 183 rfl rfl
theorem dr_cJ0_coder_7d493_10 : decode cJ0_coder_7d493 10 = .ok (.goto 4, 3) := by decide +kernel
theorem dr_cJ0_coder_7d493_14 : decode cJ0_coder_7d493 14 = .ok (.ireturn, 1) := by decide +kernel
theorem dr_cJ0_length_8abf5_0 : decode cJ0_length_8abf5 0 = .ok (.aload_n 0, 1) := by decide +kernel
theorem dr_cJ0_length_8abf5_1 : decode cJ0_length_8abf5 1 = .ok (.getfield 9, 3) := by decide +kernel
theorem wr_8_182 : (Jvm.Cond.fieldLink "java/lang/String" (9 : Nat) "java/lang/String" "value" "[B") ∈ gw := gw_8 182 rfl rfl
theorem dr_cJ0_length_8abf5_4 : decode cJ0_length_8abf5 4 = .ok (.arraylength, 1) := by decide +kernel
theorem dr_cJ0_length_8abf5_5 : decode cJ0_length_8abf5 5 = .ok (.aload_n 0, 1) := by decide +kernel
theorem dr_cJ0_length_8abf5_6 : decode cJ0_length_8abf5 6 = .ok (.invokevirtual 335, 3) := by decide +kernel
theorem wr_3_61 : (Jvm.Cond.methodLink "java/lang/String" (335 : Nat) ({ cls := "java/lang/String", name := "coder", desc := "()B" } : Jvm.MethodName)) ∈ gw := gw_3 61 rfl rfl
theorem wr_3_64 : (Jvm.Cond.code ({ cls := "java/lang/String", name := "coder", desc := "()B" } : Jvm.MethodName) prog_34_method_152_code (1 : Nat) (Option.some Jvm.ClassFile.FieldType.byte)) ∈ gw := gw_3 64 rfl rfl
theorem wr_3_62 : (Jvm.Cond.instanceMethod ({ cls := "java/lang/String", name := "coder", desc := "()B" } : Jvm.MethodName)) ∈ gw := gw_3 62 rfl rfl
theorem wr_3_63 : (Jvm.Cond.selects "java/lang/String" ({ cls := "java/lang/String", name := "coder", desc := "()B" } : Jvm.MethodName) ({ cls := "java/lang/String", name := "coder", desc := "()B" } : Jvm.MethodName)) ∈ gw := gw_3 63 rfl rfl
theorem dr_cJ0_length_8abf5_9 : decode cJ0_length_8abf5 9 = .ok (.ishr, 1) := by decide +kernel
theorem dr_cJ0_length_8abf5_10 : decode cJ0_length_8abf5 10 = .ok (.ireturn, 1) := by decide +kernel
theorem dr_cJ5_inflateIfNeededFor_a7421_0 : decode cJ5_inflateIfNeededFor_a7421 0 = .ok (.getstatic 18, 3) := by decide +kernel
theorem dr_cJ5_inflateIfNeededFor_a7421_3 : decode cJ5_inflateIfNeededFor_a7421 3 = .ok (.ifCond .eq 18, 3) := by decide +kernel
theorem dr_cJ5_inflateIfNeededFor_a7421_6 : decode cJ5_inflateIfNeededFor_a7421 6 = .ok (.aload_n 0, 1) := by decide +kernel
theorem dr_cJ5_inflateIfNeededFor_a7421_7 : decode cJ5_inflateIfNeededFor_a7421 7 = .ok (.getfield 22, 3) := by decide +kernel
theorem dr_cJ5_inflateIfNeededFor_a7421_10 : decode cJ5_inflateIfNeededFor_a7421 10 = .ok (.aload_n 1, 1) := by decide +kernel
theorem dr_cJ5_inflateIfNeededFor_a7421_11 : decode cJ5_inflateIfNeededFor_a7421 11 = .ok (.invokevirtual 40, 3) := by decide +kernel
theorem wr_8_163 : (Jvm.Cond.methodLink "java/lang/AbstractStringBuilder" (40 : Nat) ({ cls := "java/lang/String", name := "coder", desc := "()B" } : Jvm.MethodName)) ∈ gw := gw_8 163 rfl rfl
theorem dr_cJ5_inflateIfNeededFor_a7421_14 : decode cJ5_inflateIfNeededFor_a7421 14 = .ok (.if_icmp .eq 7, 3) := by decide +kernel
theorem dr_cJ5_inflateIfNeededFor_a7421_21 : decode cJ5_inflateIfNeededFor_a7421 21 = .ok (.return_, 1) := by decide +kernel
theorem dr_cJ0_getBytes_840e7_0 : decode cJ0_getBytes_840e7 0 = .ok (.aload_n 0, 1) := by decide +kernel
theorem dr_cJ0_getBytes_840e7_1 : decode cJ0_getBytes_840e7 1 = .ok (.invokevirtual 335, 3) := by decide +kernel
theorem dr_cJ0_getBytes_840e7_4 : decode cJ0_getBytes_840e7 4 = .ok (.iload_n 3, 1) := by decide +kernel
theorem dr_cJ0_getBytes_840e7_5 : decode cJ0_getBytes_840e7 5 = .ok (.if_icmp .ne 23, 3) := by decide +kernel
theorem dr_cJ0_getBytes_840e7_8 : decode cJ0_getBytes_840e7 8 = .ok (.aload_n 0, 1) := by decide +kernel
theorem dr_cJ0_getBytes_840e7_9 : decode cJ0_getBytes_840e7 9 = .ok (.getfield 9, 3) := by decide +kernel
theorem dr_cJ0_getBytes_840e7_12 : decode cJ0_getBytes_840e7 12 = .ok (.iconst 0, 1) := by decide +kernel
theorem dr_cJ0_getBytes_840e7_13 : decode cJ0_getBytes_840e7 13 = .ok (.aload_n 1, 1) := by decide +kernel
theorem dr_cJ0_getBytes_840e7_14 : decode cJ0_getBytes_840e7 14 = .ok (.iload_n 2, 1) := by decide +kernel
theorem dr_cJ0_getBytes_840e7_15 : decode cJ0_getBytes_840e7 15 = .ok (.iload_n 3, 1) := by decide +kernel
theorem dr_cJ0_getBytes_840e7_16 : decode cJ0_getBytes_840e7 16 = .ok (.ishl, 1) := by decide +kernel
theorem dr_cJ0_getBytes_840e7_17 : decode cJ0_getBytes_840e7 17 = .ok (.aload_n 0, 1) := by decide +kernel
theorem dr_cJ0_getBytes_840e7_18 : decode cJ0_getBytes_840e7 18 = .ok (.getfield 9, 3) := by decide +kernel
theorem dr_cJ0_getBytes_840e7_21 : decode cJ0_getBytes_840e7 21 = .ok (.arraylength, 1) := by decide +kernel
theorem dr_cJ0_getBytes_840e7_22 : decode cJ0_getBytes_840e7 22 = .ok (.invokestatic 212, 3) := by decide +kernel
theorem wr_8_168 : (Jvm.Cond.methodLink "java/lang/String" (212 : Nat) ({ cls := "java/lang/System", name := "arraycopy", desc := "(Ljava/lang/Object;ILjava/lang/Object;II)V" } : Jvm.MethodName)) ∈ gw := gw_8 168 rfl rfl
theorem dr_cJ0_getBytes_840e7_25 : decode cJ0_getBytes_840e7 25 = .ok (.goto 18, 3) := by decide +kernel
theorem dr_cJ0_getBytes_840e7_43 : decode cJ0_getBytes_840e7 43 = .ok (.return_, 1) := by decide +kernel
theorem dr_cJ5_putStringAt_47b60_0 : decode cJ5_putStringAt_47b60 0 = .ok (.aload_n 0, 1) := by decide +kernel
theorem dr_cJ5_putStringAt_47b60_1 : decode cJ5_putStringAt_47b60 1 = .ok (.aload_n 2, 1) := by decide +kernel
theorem dr_cJ5_putStringAt_47b60_2 : decode cJ5_putStringAt_47b60 2 = .ok (.invokevirtual 397, 3) := by decide +kernel
theorem wr_8_159 : (Jvm.Cond.methodLink "java/lang/AbstractStringBuilder" (397 : Nat) ({ cls := "java/lang/AbstractStringBuilder", name := "inflateIfNeededFor", desc := "(Ljava/lang/String;)V" } : Jvm.MethodName)) ∈ gw := gw_8 159 rfl rfl
theorem wr_8_162 : (Jvm.Cond.code ({ cls := "java/lang/AbstractStringBuilder", name := "inflateIfNeededFor", desc := "(Ljava/lang/String;)V" } : Jvm.MethodName) prog_21_method_71_code (2 : Nat) (Option.none : Option Jvm.ClassFile.FieldType)) ∈ gw := gw_8 162 rfl rfl
theorem wr_8_161 : (Jvm.Cond.instanceMethod ({ cls := "java/lang/AbstractStringBuilder", name := "inflateIfNeededFor", desc := "(Ljava/lang/String;)V" } : Jvm.MethodName)) ∈ gw := gw_8 161 rfl rfl
theorem wr_s_5 : Cond.selects "java/lang/StringBuilder" ⟨"java/lang/AbstractStringBuilder", "inflateIfNeededFor", "(Ljava/lang/String;)V"⟩ ⟨"java/lang/AbstractStringBuilder", "inflateIfNeededFor", "(Ljava/lang/String;)V"⟩ ∈ gw := gw_s _ 5 rfl rfl rfl
theorem dr_cJ5_putStringAt_47b60_5 : decode cJ5_putStringAt_47b60 5 = .ok (.aload_n 2, 1) := by decide +kernel
theorem dr_cJ5_putStringAt_47b60_6 : decode cJ5_putStringAt_47b60 6 = .ok (.aload_n 0, 1) := by decide +kernel
theorem dr_cJ5_putStringAt_47b60_7 : decode cJ5_putStringAt_47b60 7 = .ok (.getfield 15, 3) := by decide +kernel
theorem dr_cJ5_putStringAt_47b60_10 : decode cJ5_putStringAt_47b60 10 = .ok (.iload_n 1, 1) := by decide +kernel
theorem dr_cJ5_putStringAt_47b60_11 : decode cJ5_putStringAt_47b60 11 = .ok (.aload_n 0, 1) := by decide +kernel
theorem dr_cJ5_putStringAt_47b60_12 : decode cJ5_putStringAt_47b60 12 = .ok (.getfield 22, 3) := by decide +kernel
theorem dr_cJ5_putStringAt_47b60_15 : decode cJ5_putStringAt_47b60 15 = .ok (.invokevirtual 399, 3) := by decide +kernel
theorem wr_8_164 : (Jvm.Cond.methodLink "java/lang/AbstractStringBuilder" (399 : Nat) ({ cls := "java/lang/String", name := "getBytes", desc := "([BIB)V" } : Jvm.MethodName)) ∈ gw := gw_8 164 rfl rfl
theorem wr_8_167 : (Jvm.Cond.code ({ cls := "java/lang/String", name := "getBytes", desc := "([BIB)V" } : Jvm.MethodName) prog_34_method_147_code (4 : Nat) (Option.none : Option Jvm.ClassFile.FieldType)) ∈ gw := gw_8 167 rfl rfl
theorem wr_8_165 : (Jvm.Cond.instanceMethod ({ cls := "java/lang/String", name := "getBytes", desc := "([BIB)V" } : Jvm.MethodName)) ∈ gw := gw_8 165 rfl rfl
theorem wr_8_166 : (Jvm.Cond.selects "java/lang/String" ({ cls := "java/lang/String", name := "getBytes", desc := "([BIB)V" } : Jvm.MethodName) ({ cls := "java/lang/String", name := "getBytes", desc := "([BIB)V" } : Jvm.MethodName)) ∈ gw := gw_8 166 rfl rfl
theorem dr_cJ5_putStringAt_47b60_18 : decode cJ5_putStringAt_47b60 18 = .ok (.return_, 1) := by decide +kernel
theorem dr_cJ5_append_cf1ce_0 : decode cJ5_append_cf1ce 0 = .ok (.aload_n 1, 1) := by decide +kernel
theorem dr_cJ5_append_cf1ce_1 : decode cJ5_append_cf1ce 1 = .ok (.ifnonnull 8, 3) := by decide +kernel
theorem dr_cJ5_append_cf1ce_9 : decode cJ5_append_cf1ce 9 = .ok (.aload_n 1, 1) := by decide +kernel
theorem dr_cJ5_append_cf1ce_10 : decode cJ5_append_cf1ce 10 = .ok (.invokevirtual 32, 3) := by decide +kernel
theorem wr_8_154 : (Jvm.Cond.methodLink "java/lang/AbstractStringBuilder" (32 : Nat) ({ cls := "java/lang/String", name := "length", desc := "()I" } : Jvm.MethodName)) ∈ gw := gw_8 154 rfl rfl
theorem wr_3_60 : (Jvm.Cond.code ({ cls := "java/lang/String", name := "length", desc := "()I" } : Jvm.MethodName) prog_34_method_54_code (1 : Nat) (Option.some Jvm.ClassFile.FieldType.int)) ∈ gw := gw_3 60 rfl rfl
theorem wr_3_58 : (Jvm.Cond.instanceMethod ({ cls := "java/lang/String", name := "length", desc := "()I" } : Jvm.MethodName)) ∈ gw := gw_3 58 rfl rfl
theorem wr_3_59 : (Jvm.Cond.selects "java/lang/String" ({ cls := "java/lang/String", name := "length", desc := "()I" } : Jvm.MethodName) ({ cls := "java/lang/String", name := "length", desc := "()I" } : Jvm.MethodName)) ∈ gw := gw_3 59 rfl rfl
theorem dr_cJ5_append_cf1ce_13 : decode cJ5_append_cf1ce 13 = .ok (.istore_n 2, 1) := by decide +kernel
theorem dr_cJ5_append_cf1ce_14 : decode cJ5_append_cf1ce 14 = .ok (.aload_n 0, 1) := by decide +kernel
theorem dr_cJ5_append_cf1ce_15 : decode cJ5_append_cf1ce 15 = .ok (.aload_n 0, 1) := by decide +kernel
theorem dr_cJ5_append_cf1ce_16 : decode cJ5_append_cf1ce 16 = .ok (.getfield 79, 3) := by decide +kernel
theorem dr_cJ5_append_cf1ce_19 : decode cJ5_append_cf1ce 19 = .ok (.iload_n 2, 1) := by decide +kernel
theorem dr_cJ5_append_cf1ce_20 : decode cJ5_append_cf1ce 20 = .ok (.iadd, 1) := by decide +kernel
theorem dr_cJ5_append_cf1ce_21 : decode cJ5_append_cf1ce 21 = .ok (.invokevirtual 100, 3) := by decide +kernel
theorem dr_cJ5_append_cf1ce_24 : decode cJ5_append_cf1ce 24 = .ok (.aload_n 0, 1) := by decide +kernel
theorem dr_cJ5_append_cf1ce_25 : decode cJ5_append_cf1ce 25 = .ok (.aload_n 0, 1) := by decide +kernel
theorem dr_cJ5_append_cf1ce_26 : decode cJ5_append_cf1ce 26 = .ok (.getfield 79, 3) := by decide +kernel
theorem dr_cJ5_append_cf1ce_29 : decode cJ5_append_cf1ce 29 = .ok (.aload_n 1, 1) := by decide +kernel
theorem dr_cJ5_append_cf1ce_30 : decode cJ5_append_cf1ce 30 = .ok (.invokevirtual 208, 3) := by decide +kernel
theorem wr_8_155 : (Jvm.Cond.methodLink "java/lang/AbstractStringBuilder" (208 : Nat) ({ cls := "java/lang/AbstractStringBuilder", name := "putStringAt", desc := "(ILjava/lang/String;)V" } : Jvm.MethodName)) ∈ gw := gw_8 155 rfl rfl
theorem wr_8_158 : (Jvm.Cond.code ({ cls := "java/lang/AbstractStringBuilder", name := "putStringAt", desc := "(ILjava/lang/String;)V" } : Jvm.MethodName) prog_21_method_73_code (3 : Nat) (Option.none : Option Jvm.ClassFile.FieldType)) ∈ gw := gw_8 158 rfl rfl
theorem wr_8_157 : (Jvm.Cond.instanceMethod ({ cls := "java/lang/AbstractStringBuilder", name := "putStringAt", desc := "(ILjava/lang/String;)V" } : Jvm.MethodName)) ∈ gw := gw_8 157 rfl rfl
theorem wr_s_4 : Cond.selects "java/lang/StringBuilder" ⟨"java/lang/AbstractStringBuilder", "putStringAt", "(ILjava/lang/String;)V"⟩ ⟨"java/lang/AbstractStringBuilder", "putStringAt", "(ILjava/lang/String;)V"⟩ ∈ gw := gw_s _ 4 rfl rfl rfl
theorem dr_cJ5_append_cf1ce_33 : decode cJ5_append_cf1ce 33 = .ok (.aload_n 0, 1) := by decide +kernel
theorem dr_cJ5_append_cf1ce_34 : decode cJ5_append_cf1ce 34 = .ok (.dup, 1) := by decide +kernel
theorem dr_cJ5_append_cf1ce_35 : decode cJ5_append_cf1ce 35 = .ok (.getfield 79, 3) := by decide +kernel
theorem dr_cJ5_append_cf1ce_38 : decode cJ5_append_cf1ce 38 = .ok (.iload_n 2, 1) := by decide +kernel
theorem dr_cJ5_append_cf1ce_39 : decode cJ5_append_cf1ce 39 = .ok (.iadd, 1) := by decide +kernel
theorem dr_cJ5_append_cf1ce_40 : decode cJ5_append_cf1ce 40 = .ok (.putfield 79, 3) := by decide +kernel
theorem dr_cJ5_append_cf1ce_43 : decode cJ5_append_cf1ce 43 = .ok (.aload_n 0, 1) := by decide +kernel
theorem dr_cJ5_append_cf1ce_44 : decode cJ5_append_cf1ce 44 = .ok (.areturn, 1) := by decide +kernel
abbrev ky_655575_AbstractStringBuilder_append : gKey := (cJ5_append_3fe6f, 2, "java/lang/AbstractStringBuilder", (some (FieldType.object "java/lang/AbstractStringBuilder")), [], "append", fun _ _ => True)
def pp_655575_AbstractStringBuilder_append (D : va_G) (I : FieldType → ClassId) (P655563 : List Nat) (F655564 : Nat → va_E) (q655565 : Nat) (q655566 : Nat) (p655567 : Int32) (p655568 : Int32) (p655569 : Int32) (f655570 : Nat → Int32) (n655571 : Nat) : Option Value → va_W → Nat → Nat → Prop := fun r w dc ds => ∃ (P655771 : List Nat) (F655772 : Nat → va_E) (o655767 : Int32) (q655768 : Nat) (n655769 : Nat) (f655770 : Nat → Int32), r = some (.ref q655565) ∧ w = va_pl P655771 F655772 ∧ rSub P655563 P655771 ∧ rFr [q655566, q655565] P655563 F655564 F655772 ∧ F655772 q655565 = .inr (1, [.ref q655768, .int 0, .int p655568, .int o655767]) ∧ F655772 q655768 = .inl (I .byte, n655769, .inl f655770) ∧ q655768 ∈ P655771 ∧ (q655768 = q655566 ∨ q655768 ∉ P655563) ∧ dc ≤ 1 ∧ ds ≤ 2 * (n655769 - n655571) ∧ gB o655767 1 16777216 ∧ gF f655770 (-128) 127 ∧ o655767.toInt = p655569.toInt + 1 ∧ o655767.toInt ≤ (n655769 : Int) ∧ (n655571 : Int) ≤ (n655769 : Int) ∧ (n655769 : Int) ≤ 2 * (n655571 : Int) + 2 ∧ tr_RAbstractStringBuilder_append2 p655567 p655569 f655570 n655571 o655767 n655769 f655770
set_option maxRecDepth 100000 in
set_option maxHeartbeats 4000000 in
theorem cp_655575_AbstractStringBuilder_append (l : Launch) (hl0 : l.stackTraces = false) (D : va_G) (I : FieldType → ClassId) (P655563 : List Nat) (F655564 : Nat → va_E) (q655565 : Nat) (q655566 : Nat) (p655567 : Int32) (p655568 : Int32) (p655569 : Int32) (f655570 : Nat → Int32) (n655571 : Nat) (hmq655565 : q655565 ∈ P655563) (hmq655566 : q655566 ∈ P655563) (heq655565 : F655564 q655565 = .inr (1, [.ref q655566, .int 0, .int p655568, .int p655569])) (heq655566 : F655564 q655566 = .inl (I .byte, n655571, .inl f655570)) (bp655567 : gB p655567 0 255) (bp655568 : gB p655568 0 1) (bp655569 : gB p655569 0 16777216) (bf655570 : gF f655570 (-128) 127) (x655572 : (n655571 : Int) ≤ 8388608 - 100000) (x655573 : p655569.toInt ≤ (n655571 : Int)) (x655574 : ((n655571 : Int) ≤ 16777216)) : CtA (gV D I) l yJ5_append_3fe6f cJ5_append_3fe6f 2 (some (FieldType.object "java/lang/AbstractStringBuilder")) 4 84 1 (4 * n655571 + 8) [.ref q655565, .int p655567] (va_pl P655563 F655564) (pp_655575_AbstractStringBuilder_append D I P655563 F655564 q655565 q655566 p655567 p655568 p655569 f655570 n655571) gNA := by
  refine CtA_ofF hl0 (by decide +kernel) (Nat.le_of_ble_eq_true rfl) ?_
  refine G_aload_n 0 dr_cJ5_append_3fe6f_0 rfl ?_
  refine G_aload_n 0 dr_cJ5_append_3fe6f_1 rfl ?_
  refine Gp_get 3 hmq655565 heq655565 dr_cJ5_append_3fe6f_2 (gk_J4 D I) (Nat.le_of_ble_eq_true rfl) wr_7_64 rfl ?_
  refine G_iconst 1 dr_cJ5_append_3fe6f_5 (by decide +kernel) ?_
  refine G_iadd dr_cJ5_append_3fe6f_6 (G_nam fun z655576 hz655576 => ?_)
  have ez655576 : z655576.toInt = p655569.toInt + 1 := by rw [gI_add hz655576 bp655569 (gBl (show Int32.toInt 1 = 1 by decide)) (by decide) (by decide), show Int32.toInt 1 = 1 from by decide]
  have bz655576 : gB z655576 1 16777217 := gB_add (gI_add hz655576 bp655569 (gBl (show Int32.toInt 1 = 1 by decide)) (by decide) (by decide)) bp655569 (gBl (show Int32.toInt 1 = 1 by decide)) (by decide) (by decide)
  refine Gw_callVB (As := [.int z655576]) (gV_ok D I) (cp_655588_AbstractStringBuilder_ensureCapacityInternal l hl0 D I P655563 F655564 q655565 q655566 z655576 p655568 p655569 f655570 n655571 hmq655565 hmq655566 heq655565 heq655566 ⟨by omega, by omega⟩ bp655568 bp655569 bf655570 (by have qa0 : Int32.toInt 0 = 0 := (by decide); omega) (by have qa0 : Int32.toInt 0 = 0 := (by decide); omega)) dr_cJ5_append_3fe6f_7 ⟨wr_8_4, wr_1_19, wr_8_7, by decide, rfl, (Nat.le_of_ble_eq_true rfl), (Nat.le_of_ble_eq_true rfl)⟩ wr_8_6 wr_s_0 hmq655565 heq655565 rfl (show 0 + 1 ≤ 1 by first | omega | decide) (show 0 + (2 * n655571 + 2 + z655576.toInt.toNat) ≤ (4 * n655571 + 8) by first | omega | decide) (Nat.le_of_ble_eq_true rfl) (fun r655711 w655712 dc655708 ds655709 hp655710 => ?_) (fun _ _ _ _ _ z => z.elim)
  obtain ⟨P655721, F655722, q655713, n655714, f655715, rfl, rfl, hsb655723, hfr655724, he655725, he655726, hm655727, hq655728, hdc, hds, bf655715, x655716, x655717, x655718, x655719, ht655720⟩ := hp655710
  have hm655729 : q655565 ∈ P655721 := hsb655723 q655565 hmq655565
  have hm655730 : q655566 ∈ P655721 := hsb655723 q655566 hmq655566
  have hor655731 : q655713 = q655566 ∨ q655713 ∉ P655563 := hq655728.elim Or.inl (fun n => Or.inr (fun z => n ((rSub_rf (P := P655563)) _ z)))
  have hsb655732 : rSub P655563 P655721 := rSub_tr (rSub_rf (P := P655563)) hsb655723
  have he655733 : F655722 q655566 = .inl (I .byte, n655571, .inl f655570) := (hfr655724 q655566 hmq655566 (nm_c (rn_ao heq655566 heq655565) nm_n)).trans heq655566
  have hfr655734 : rFr [q655565] P655563 F655564 F655722 := rFr_call (rSub_rf (P := P655563)) (rFr_rf (W := []) (P := P655563) (F := F655564)) hfr655724 (fun b hb hn => ⟨nm_n, (nm_c (fun e => hn (e ▸ List.mem_cons_self)) nm_n)⟩)
  change G _ _ _ _ _ _ _ _ _ _ _
  refine G_widen (cs' := 1) (sl' := 2 * (n655714 - n655571)) (by omega) (by omega) ?_
  refine G_aload_n 0 dr_cJ5_append_3fe6f_10 rfl ?_
  refine Gw_callVB (As := []) (gV_ok D I) (cp_655489_AbstractStringBuilder_isLatin1 l hl0 D I P655721 F655722 q655565 q655713 p655568 p655569 f655715 n655714 hm655729 hm655727 he655725 he655726 bp655568 bp655569 bf655715 (by have qa0 : Int32.toInt 0 = 0 := (by decide); omega)) dr_cJ5_append_3fe6f_11 ⟨wr_8_33, wr_1_19, wr_8_37, by decide, rfl, (Nat.le_of_ble_eq_true rfl), (Nat.le_of_ble_eq_true rfl)⟩ wr_8_34 wr_8_36 hm655729 he655725 rfl (show 1 + 0 ≤ 1 by first | omega | decide) (show 2 * (n655714 - n655571) + 0 ≤ (4 * n655571 + 8) by first | omega | decide) (Nat.le_of_ble_eq_true rfl) (fun r655738 w655739 dc655735 ds655736 hp655737 => ?_) (fun _ _ _ _ _ z => z.elim)
  obtain ⟨rfl, rfl, hdc, hds⟩ := hp655737
  change G _ _ _ _ _ _ _ (.int 1 :: _) _ _ _
  refine G_widen (cs' := 1) (sl' := 2 * (n655714 - n655571) + 0) (by omega) (by omega) ?_
  refine G_if_eq 45 dr_cJ5_append_3fe6f_14 (by decide +kernel) (fun hc => absurd hc (by decide)) (fun _ => ?_)
  refine G_iload_n 1 dr_cJ5_append_3fe6f_17 rfl ?_
  refine Gw_callS (As := [.int p655567]) (gV_ok D I) (cp_655498_StringLatin1_canEncode l hl0 D I P655721 F655722 p655567 (gB_w bp655567 (by decide) (by decide))) dr_cJ5_append_3fe6f_18 ⟨wr_8_38, wr_1_28, wr_8_40, by decide, rfl, (Nat.le_of_ble_eq_true rfl), (Nat.le_of_ble_eq_true rfl)⟩ wr_8_39 (show 1 + 0 ≤ 1 by first | omega | decide) (show 2 * (n655714 - n655571) + 0 + 0 ≤ (4 * n655571 + 8) by first | omega | decide) (Nat.le_of_ble_eq_true rfl) (fun r655743 w655744 dc655740 ds655741 hp655742 => ?_) (fun _ _ _ _ _ z => z.elim)
  rcases hp655742 with ⟨rfl, rfl, hdc, hds, r655745, r655746⟩ | ⟨rfl, rfl, hdc, hds, r655747, r655748⟩
  · exact absurd (show False by omega) not_false
  · change G _ _ _ _ _ _ _ (.int 1 :: _) _ _ _
    refine G_widen (cs' := 1) (sl' := 2 * (n655714 - n655571) + 0 + 0) (by omega) (by omega) ?_
    refine G_if_eq 45 dr_cJ5_append_3fe6f_21 (by decide +kernel) (fun hc => absurd hc (by decide)) (fun _ => ?_)
    refine G_aload_n 0 dr_cJ5_append_3fe6f_24 rfl ?_
    refine Gp_get 0 hm655729 he655725 dr_cJ5_append_3fe6f_25 (gk_J4 D I) (Nat.le_of_ble_eq_true rfl) wr_7_60 rfl ?_
    refine G_aload_n 0 dr_cJ5_append_3fe6f_28 rfl ?_
    refine G_dup dr_cJ5_append_3fe6f_29 rfl ?_
    refine Gp_get 3 hm655729 he655725 dr_cJ5_append_3fe6f_30 (gk_J4 D I) (Nat.le_of_ble_eq_true rfl) wr_7_64 rfl ?_
    refine G_dup_x1 dr_cJ5_append_3fe6f_33 rfl rfl ?_
    refine G_iconst 1 dr_cJ5_append_3fe6f_34 (by decide +kernel) ?_
    refine G_iadd dr_cJ5_append_3fe6f_35 (G_nam fun z655750 hz655750 => ?_)
    have ez655750 : z655750.toInt = p655569.toInt + 1 := by rw [gI_add hz655750 bp655569 (gBl (show Int32.toInt 1 = 1 by decide)) (by decide) (by decide), show Int32.toInt 1 = 1 from by decide]
    have bz655750 : gB z655750 1 16777217 := gB_add (gI_add hz655750 bp655569 (gBl (show Int32.toInt 1 = 1 by decide)) (by decide) (by decide)) bp655569 (gBl (show Int32.toInt 1 = 1 by decide)) (by decide) (by decide)
    refine Gp_put 3 hm655729 he655725 dr_cJ5_append_3fe6f_36 (gk_J4 D I) (Nat.le_of_ble_eq_true rfl) wr_7_64 rfl rfl rfl (Nat.le_of_ble_eq_true rfl) (fun F655751 e655752 n655753 => ?_)
    have he655754 : F655751 q655566 = .inl (I .byte, n655571, .inl f655570) := (n655753 q655566 (rn_ao he655733 he655725)).trans he655733
    have he655755 : F655751 q655713 = .inl (I .byte, n655714, .inl f655715) := (n655753 q655713 (rn_ao he655726 he655725)).trans he655726
    have he655756 : F655751 q655565 = .inr (1, [.ref q655713, .int 0, .int p655568, .int z655750]) := e655752
    have hfr655757 : rFr [q655565] P655563 F655564 F655751 := rFr_put' List.mem_cons_self hfr655734 n655753
    refine G_iload_n 1 dr_cJ5_append_3fe6f_39 rfl ?_
    refine G_i2b dr_cJ5_append_3fe6f_40 (G_nam fun z655758 hz655758 => ?_)
    have bz655758 : gB z655758 (-128) 127 := gB_i2b hz655758
    refine Gp_bast 1 hm655727 he655755 dr_cJ5_append_3fe6f_41 rfl (gB_inr (by omega) (by omega)) (fun F655759 e655760 n655761 => ?_)
    obtain ⟨f655762, hf655762⟩ : ∃ z, z = upd f655715 p655569.toNatClampNeg (vp_nar .byte z655758) := ⟨_, rfl⟩
    rw [← hf655762] at e655760
    have he655764 : F655759 q655565 = .inr (1, [.ref q655713, .int 0, .int p655568, .int z655750]) := (n655761 q655565 (rn_oa he655756 he655755)).trans he655756
    have he655765 : F655759 q655713 = .inl (I .byte, n655714, .inl f655762) := e655760
    have hfr655766 : rFr [q655566, q655565] P655563 F655564 F655759 := rFr_eit hor655731 hfr655757 n655761
    have bf655762 : gF f655762 (-128) 127 := gF_upd hf655762 bf655715 gB_byte
    refine G_goto 75 dr_cJ5_append_3fe6f_42 (by decide +kernel) ?_
    refine G_aload_n 0 dr_cJ5_append_3fe6f_75 rfl ?_
    exact G_aretA (FieldType.object "java/lang/AbstractStringBuilder") dr_cJ5_append_3fe6f_76 rfl (by first | exact Or.inl ⟨_, rfl⟩ | exact Or.inr ⟨_, rfl⟩) (Or.inr ⟨_, rfl⟩) (Nat.le_of_ble_eq_true rfl) (show 2 * (n655714 - n655571) + 0 + 0 ≤ (4 * n655571 + 8) by omega) ⟨P655721, F655759, z655750, q655713, n655714, f655762, rfl, rfl, hsb655732, hfr655766, he655764, he655765, hm655727, hor655731, (Nat.le_of_ble_eq_true rfl), (by omega), ⟨by omega, by omega⟩, bf655762, (by have qa0 : Int32.toInt 0 = 0 := (by decide); omega), (by have qa0 : Int32.toInt 0 = 0 := (by decide); omega), (by have qa0 : Int32.toInt 0 = 0 := (by decide); omega), (by have qa0 : Int32.toInt 0 = 0 := (by decide); omega), (fun R c1 => c1 z655576 n655714 f655715 z655750 z655758 f655762 ez655576 ht655720 r655748 ez655750 hz655758 hf655762)⟩
/- tr_RStringBuilder_append2: a.0...count, a.0.value.#, a.0.value.[] -/
def tr_RStringBuilder_append2 (a1 : Int32) (a0_count : Int32) (a0_value_v : Nat → Int32) (a0_value_n : Nat) (o1 : Int32) (o2 : Nat) (o3 : Nat → Int32) : Prop := ∀ R : (Int32) → (Nat) → (Nat → Int32) → Prop,
  (∀ (x1 : Int32) (x2 : Nat) (x3 : Nat → Int32), gB x1 1 16777216 → tr_RAbstractStringBuilder_append2 a1 a0_count a0_value_v a0_value_n x1 x2 x3 → R x1 x2 x3) →
  R o1 o2 o3
abbrev ky_655562_StringBuilder_append : gKey := (cJ4_append_cf468, 2, "java/lang/StringBuilder", (some (FieldType.object "java/lang/StringBuilder")), [], "append", fun _ _ => True)
def pp_655562_StringBuilder_append (D : va_G) (I : FieldType → ClassId) (P655550 : List Nat) (F655551 : Nat → va_E) (q655552 : Nat) (q655553 : Nat) (p655554 : Int32) (p655555 : Int32) (p655556 : Int32) (f655557 : Nat → Int32) (n655558 : Nat) : Option Value → va_W → Nat → Nat → Prop := fun r w dc ds => ∃ (P655804 : List Nat) (F655805 : Nat → va_E) (o655800 : Int32) (q655801 : Nat) (n655802 : Nat) (f655803 : Nat → Int32), r = some (.ref q655552) ∧ w = va_pl P655804 F655805 ∧ rSub P655550 P655804 ∧ rFr [q655553, q655552] P655550 F655551 F655805 ∧ F655805 q655552 = .inr (1, [.ref q655801, .int 0, .int p655555, .int o655800]) ∧ F655805 q655801 = .inl (I .byte, n655802, .inl f655803) ∧ q655801 ∈ P655804 ∧ (q655801 = q655553 ∨ q655801 ∉ P655550) ∧ dc ≤ 1 ∧ ds ≤ 2 * (n655802 - n655558) ∧ gB o655800 1 16777216 ∧ gF f655803 (-128) 127 ∧ o655800.toInt = p655556.toInt + 1 ∧ o655800.toInt ≤ (n655802 : Int) ∧ (n655558 : Int) ≤ (n655802 : Int) ∧ (n655802 : Int) ≤ 2 * (n655558 : Int) + 2 ∧ tr_RStringBuilder_append2 p655554 p655556 f655557 n655558 o655800 n655802 f655803
set_option maxRecDepth 100000 in
set_option maxHeartbeats 4000000 in
theorem cp_655562_StringBuilder_append (l : Launch) (hl0 : l.stackTraces = false) (D : va_G) (I : FieldType → ClassId) (P655550 : List Nat) (F655551 : Nat → va_E) (q655552 : Nat) (q655553 : Nat) (p655554 : Int32) (p655555 : Int32) (p655556 : Int32) (f655557 : Nat → Int32) (n655558 : Nat) (hmq655552 : q655552 ∈ P655550) (hmq655553 : q655553 ∈ P655550) (heq655552 : F655551 q655552 = .inr (1, [.ref q655553, .int 0, .int p655555, .int p655556])) (heq655553 : F655551 q655553 = .inl (I .byte, n655558, .inl f655557)) (bp655554 : gB p655554 0 255) (bp655555 : gB p655555 0 1) (bp655556 : gB p655556 0 16777216) (bf655557 : gF f655557 (-128) 127) (x655559 : (n655558 : Int) ≤ 8388608 - 100000) (x655560 : p655556.toInt ≤ (n655558 : Int)) (x655561 : ((n655558 : Int) ≤ 16777216)) : CtA (gV D I) l yJ4_append_cf468 cJ4_append_cf468 2 (some (FieldType.object "java/lang/StringBuilder")) 5 105 1 (4 * n655558 + 8) [.ref q655552, .int p655554] (va_pl P655550 F655551) (pp_655562_StringBuilder_append D I P655550 F655551 q655552 q655553 p655554 p655555 p655556 f655557 n655558) gNA := by
  refine CtA_ofF hl0 (by decide +kernel) (Nat.le_of_ble_eq_true rfl) ?_
  refine G_aload_n 0 dr_cJ4_append_cf468_0 rfl ?_
  refine G_iload_n 1 dr_cJ4_append_cf468_1 rfl ?_
  refine Gw_callSU (As := [.int p655554]) (gV_ok D I) (cp_655575_AbstractStringBuilder_append l hl0 D I P655550 F655551 q655552 q655553 p655554 p655555 p655556 f655557 n655558 hmq655552 hmq655553 heq655552 heq655553 bp655554 bp655555 bp655556 bf655557 (by have qa0 : Int32.toInt 0 = 0 := (by decide); omega) (by have qa0 : Int32.toInt 0 = 0 := (by decide); omega) (by have qa0 : Int32.toInt 0 = 0 := (by decide); omega)) dr_cJ4_append_cf468_2 ⟨wr_8_1, wr_1_19, wr_8_3, by decide, rfl, (Nat.le_of_ble_eq_true rfl), (Nat.le_of_ble_eq_true rfl)⟩ wr_8_2 wr_11_224 wr_7_73 wr_7_44 (by decide) hmq655552 heq655552 rfl (show 0 + 1 ≤ 1 by first | omega | decide) (show 0 + (4 * n655558 + 8) ≤ (4 * n655558 + 8) by first | omega | decide) (Nat.le_of_ble_eq_true rfl) (fun r655776 w655777 dc655773 ds655774 hp655775 => ?_)
  obtain ⟨P655787, F655788, o655778, q655779, n655780, f655781, rfl, rfl, hsb655789, hfr655790, he655791, he655792, hm655793, hq655794, hdc, hds, bo655778, bf655781, x655782, x655783, x655784, x655785, ht655786⟩ := hp655775
  have hm655795 : q655552 ∈ P655787 := hsb655789 q655552 hmq655552
  have hm655796 : q655553 ∈ P655787 := hsb655789 q655553 hmq655553
  have hor655797 : q655779 = q655553 ∨ q655779 ∉ P655550 := hq655794.elim Or.inl (fun n => Or.inr (fun z => n ((rSub_rf (P := P655550)) _ z)))
  have hsb655798 : rSub P655550 P655787 := rSub_tr (rSub_rf (P := P655550)) hsb655789
  have hfr655799 : rFr [q655553, q655552] P655550 F655551 F655788 := rFr_call (rSub_rf (P := P655550)) (rFr_rf (W := []) (P := P655550) (F := F655551)) hfr655790 (fun b hb hn => ⟨nm_n, (nm_c (fun e => hn (e ▸ List.mem_cons_self)) (nm_c (fun e => hn (e ▸ (List.mem_cons_of_mem _ List.mem_cons_self))) nm_n))⟩)
  change G _ _ _ _ _ _ _ (.ref q655552 :: _) _ _ _
  refine G_widen (cs' := 1) (sl' := 2 * (n655780 - n655558)) (by omega) (by omega) ?_
  refine G_pop dr_cJ4_append_cf468_5 rfl ?_
  refine G_aload_n 0 dr_cJ4_append_cf468_6 rfl ?_
  exact G_aretA (FieldType.object "java/lang/StringBuilder") dr_cJ4_append_cf468_7 rfl (by first | exact Or.inl ⟨_, rfl⟩ | exact Or.inr ⟨_, rfl⟩) (Or.inr ⟨_, rfl⟩) (Nat.le_of_ble_eq_true rfl) (show 2 * (n655780 - n655558) ≤ (4 * n655558 + 8) by omega) ⟨P655787, F655788, o655778, q655779, n655780, f655781, rfl, rfl, hsb655798, hfr655799, he655791, he655792, hm655793, hor655797, (Nat.le_of_ble_eq_true rfl), (by omega), bo655778, bf655781, (by have qa0 : Int32.toInt 0 = 0 := (by decide); omega), (by have qa0 : Int32.toInt 0 = 0 := (by decide); omega), (by have qa0 : Int32.toInt 0 = 0 := (by decide); omega), (by have qa0 : Int32.toInt 0 = 0 := (by decide); omega), (fun R c1 => c1 o655778 n655780 f655781 bo655778 ht655786)⟩
/- tr_RAbstractStringBuilder_setLength: a.0...maybeLatin1 -/
def tr_RAbstractStringBuilder_setLength (a0_maybeLatin1 : Int32) (a0_count : Int32) (a0_value_n : Nat) (o1 : Int32) : Prop := ∀ R : (Int32) → Prop,
  (tr_RAbstractStringBuilder_ensureCapacityInternal (0 : Int32) a0_value_n → 0 ≤ a0_count.toInt → a0_count.toInt ≤ 0 → R a0_maybeLatin1) →
  (tr_RAbstractStringBuilder_ensureCapacityInternal (0 : Int32) a0_value_n → 0 ≤ a0_count.toInt → 0 < a0_count.toInt → R (1 : Int32)) →
  R o1
abbrev ky_655825_AbstractStringBuilder_setLength : gKey := (cJ5_setLength_d00df, 2, "java/lang/AbstractStringBuilder", none, [], "setLength", fun _ _ => True)
def pp_655825_AbstractStringBuilder_setLength (D : va_G) (I : FieldType → ClassId) (P655816 : List Nat) (F655817 : Nat → va_E) (q655818 : Nat) (q655819 : Nat) (p655820 : Int32) (p655821 : Int32) (f655822 : Nat → Int32) (n655823 : Nat) : Option Value → va_W → Nat → Nat → Prop := fun r w dc ds => ∃ (F655858 : Nat → va_E) (o655856 : Int32), r = none ∧ w = va_pl P655816 F655858 ∧ rFr [q655818] P655816 F655817 F655858 ∧ F655858 q655818 = .inr (1, [.ref q655819, .int 0, .int o655856, .int 0]) ∧ F655858 q655819 = .inl (I .byte, n655823, .inl f655822) ∧ dc ≤ 0 ∧ ds ≤ 0 ∧ gB o655856 0 1 ∧ 0 = 0 ∧ tr_RAbstractStringBuilder_setLength p655820 p655821 n655823 o655856
set_option maxRecDepth 100000 in
set_option maxHeartbeats 4000000 in
theorem cp_655825_AbstractStringBuilder_setLength (l : Launch) (hl0 : l.stackTraces = false) (D : va_G) (I : FieldType → ClassId) (P655816 : List Nat) (F655817 : Nat → va_E) (q655818 : Nat) (q655819 : Nat) (p655820 : Int32) (p655821 : Int32) (f655822 : Nat → Int32) (n655823 : Nat) (hmq655818 : q655818 ∈ P655816) (hmq655819 : q655819 ∈ P655816) (heq655818 : F655817 q655818 = .inr (1, [.ref q655819, .int 0, .int p655820, .int p655821])) (heq655819 : F655817 q655819 = .inl (I .byte, n655823, .inl f655822)) (bp655820 : gB p655820 0 1) (bp655821 : gB p655821 0 16777216) (bf655822 : gF f655822 (-128) 127) (x655824 : ((n655823 : Int) ≤ 16777216)) : CtA (gV D I) l yJ5_setLength_d00df cJ5_setLength_d00df 2 none 1 22 0 0 [.ref q655818, .int 0] (va_pl P655816 F655817) (pp_655825_AbstractStringBuilder_setLength D I P655816 F655817 q655818 q655819 p655820 p655821 f655822 n655823) gNA := by
  refine CtA_ofF hl0 (by decide +kernel) (Nat.le_of_ble_eq_true rfl) ?_
  refine G_iload_n 1 dr_cJ5_setLength_d00df_0 rfl ?_
  refine G_if_ge 13 dr_cJ5_setLength_d00df_1 (by decide +kernel) (fun _ => ?_) (fun hc => absurd hc (by decide))
  refine G_aload_n 0 dr_cJ5_setLength_d00df_13 rfl ?_
  refine G_iload_n 1 dr_cJ5_setLength_d00df_14 rfl ?_
  refine Gw_callVB (As := [.int 0]) (gV_ok D I) (cp_655467_AbstractStringBuilder_ensureCapacityInternal l hl0 D I P655816 F655817 q655818 q655819 0 p655820 p655821 f655822 n655823 hmq655818 hmq655819 heq655818 heq655819 (gB_w (gBl (show Int32.toInt 0 = 0 by decide)) (by decide) (by decide)) bp655820 bp655821 bf655822 (by have qa0 : Int32.toInt 0 = 0 := (by decide); omega) (by have qa0 : Int32.toInt 0 = 0 := (by decide); omega)) dr_cJ5_setLength_d00df_15 ⟨wr_8_4, wr_1_19, wr_8_7, by decide, rfl, (Nat.le_of_ble_eq_true rfl), (Nat.le_of_ble_eq_true rfl)⟩ wr_8_6 wr_s_0 hmq655818 heq655818 rfl (show 0 + 0 ≤ 0 by first | omega | decide) (show 0 + 0 ≤ 0 by first | omega | decide) (Nat.le_of_ble_eq_true rfl) (fun r655829 w655830 dc655826 ds655827 hp655828 => ?_) (fun _ _ _ _ _ z => z.elim)
  obtain ⟨rfl, rfl, hdc, hds, ht655831⟩ := hp655828
  change G _ _ _ _ _ _ _ _ _ _ _
  refine G_widen (cs' := 0) (sl' := 0) (by omega) (by omega) ?_
  refine G_aload_n 0 dr_cJ5_setLength_d00df_18 rfl ?_
  refine Gp_get 3 hmq655818 heq655818 dr_cJ5_setLength_d00df_19 (gk_J4 D I) (Nat.le_of_ble_eq_true rfl) wr_7_64 rfl ?_
  refine G_iload_n 1 dr_cJ5_setLength_d00df_22 rfl ?_
  refine G_icmp_ge 63 dr_cJ5_setLength_d00df_23 (by decide +kernel) (fun hc655832 => ?_) (fun hc => absurd (show False by have := gj_nleL hc (show Int32.toInt 0 = 0 by decide); omega) not_false)
  have r655834 : 0 ≤ p655821.toInt := gj_leL hc655832 (show Int32.toInt 0 = 0 by decide)
  refine G_aload_n 0 dr_cJ5_setLength_d00df_63 rfl ?_
  refine Gp_get 3 hmq655818 heq655818 dr_cJ5_setLength_d00df_64 (gk_J4 D I) (Nat.le_of_ble_eq_true rfl) wr_7_64 rfl ?_
  refine G_iload_n 1 dr_cJ5_setLength_d00df_67 rfl ?_
  refine G_icmp_le 76 dr_cJ5_setLength_d00df_68 (by decide +kernel) (fun hc655835 => ?_) (fun hc655835 => ?_)
  · have r655836 : p655821.toInt ≤ 0 := gj_le hc655835 (show Int32.toInt 0 = 0 by decide)
    have bp655821' : gB p655821 0 0 := ⟨by omega, by omega⟩
    refine G_aload_n 0 dr_cJ5_setLength_d00df_76 rfl ?_
    refine G_iload_n 1 dr_cJ5_setLength_d00df_77 rfl ?_
    refine Gp_put 3 hmq655818 heq655818 dr_cJ5_setLength_d00df_78 (gk_J4 D I) (Nat.le_of_ble_eq_true rfl) wr_7_64 rfl rfl rfl (Nat.le_of_ble_eq_true rfl) (fun F655837 e655838 n655839 => ?_)
    have he655840 : F655837 q655819 = .inl (I .byte, n655823, .inl f655822) := (n655839 q655819 (rn_ao heq655819 heq655818)).trans heq655819
    have he655841 : F655837 q655818 = .inr (1, [.ref q655819, .int 0, .int p655820, .int 0]) := e655838
    have hfr655842 : rFr [q655818] P655816 F655817 F655837 := rFr_put (rFr_rf (W := []) (P := P655816) (F := F655817)) n655839
    exact G_vretA dr_cJ5_setLength_d00df_81 rfl (Nat.le_of_ble_eq_true rfl) (Nat.le_of_ble_eq_true rfl) ⟨F655837, p655820, rfl, rfl, hfr655842, he655841, he655840, (Nat.le_of_ble_eq_true rfl), (Nat.le_of_ble_eq_true rfl), bp655820, (by have qa0 : Int32.toInt 0 = 0 := (by decide); omega), (fun R c1 c2 => c1 ht655831 r655834 r655836)⟩
  · have r655843 : 0 < p655821.toInt := gj_nle hc655835 (show Int32.toInt 0 = 0 by decide)
    have bp655821' : gB p655821 1 16777216 := ⟨by omega, by omega⟩
    refine G_aload_n 0 dr_cJ5_setLength_d00df_71 rfl ?_
    refine G_iconst 1 dr_cJ5_setLength_d00df_72 (by decide +kernel) ?_
    refine Gp_put 2 hmq655818 heq655818 dr_cJ5_setLength_d00df_73 (gk_J4 D I) (Nat.le_of_ble_eq_true rfl) wr_7_62 rfl rfl rfl (Nat.le_of_ble_eq_true rfl) (fun F655844 e655845 n655846 => ?_)
    have he655847 : F655844 q655819 = .inl (I .byte, n655823, .inl f655822) := (n655846 q655819 (rn_ao heq655819 heq655818)).trans heq655819
    have he655848 : F655844 q655818 = .inr (1, [.ref q655819, .int 0, .int 1, .int p655821]) := e655845
    have hfr655849 : rFr [q655818] P655816 F655817 F655844 := rFr_put (rFr_rf (W := []) (P := P655816) (F := F655817)) n655846
    refine G_aload_n 0 dr_cJ5_setLength_d00df_76 rfl ?_
    refine G_iload_n 1 dr_cJ5_setLength_d00df_77 rfl ?_
    refine Gp_put 3 hmq655818 he655848 dr_cJ5_setLength_d00df_78 (gk_J4 D I) (Nat.le_of_ble_eq_true rfl) wr_7_64 rfl rfl rfl (Nat.le_of_ble_eq_true rfl) (fun F655850 e655851 n655852 => ?_)
    have he655853 : F655850 q655819 = .inl (I .byte, n655823, .inl f655822) := (n655852 q655819 (rn_ao he655847 he655848)).trans he655847
    have he655854 : F655850 q655818 = .inr (1, [.ref q655819, .int 0, .int 1, .int 0]) := e655851
    have hfr655855 : rFr [q655818] P655816 F655817 F655850 := rFr_put' List.mem_cons_self hfr655849 n655852
    exact G_vretA dr_cJ5_setLength_d00df_81 rfl (Nat.le_of_ble_eq_true rfl) (Nat.le_of_ble_eq_true rfl) ⟨F655850, 1, rfl, rfl, hfr655855, he655854, he655853, (Nat.le_of_ble_eq_true rfl), (Nat.le_of_ble_eq_true rfl), (gB_w (gBl (show Int32.toInt 1 = 1 by decide)) (by decide) (by decide)), (by have qa0 : Int32.toInt 0 = 0 := (by decide); have qa1 : Int32.toInt 1 = 1 := (by decide); omega), (fun R c1 c2 => c2 ht655831 r655834 r655843)⟩
/- tr_RStringBuilder_setLength: a.0...maybeLatin1 -/
def tr_RStringBuilder_setLength (a0_maybeLatin1 : Int32) (a0_count : Int32) (a0_value_n : Nat) (o1 : Int32) : Prop := ∀ R : (Int32) → Prop,
  (∀ (x1 : Int32), gB x1 0 1 → tr_RAbstractStringBuilder_setLength a0_maybeLatin1 a0_count a0_value_n x1 → R x1) →
  R o1
abbrev ky_655815_StringBuilder_setLength : gKey := (cJ4_setLength_d00df, 2, "java/lang/StringBuilder", none, [], "setLength", fun _ _ => True)
def pp_655815_StringBuilder_setLength (D : va_G) (I : FieldType → ClassId) (P655806 : List Nat) (F655807 : Nat → va_E) (q655808 : Nat) (q655809 : Nat) (p655810 : Int32) (p655811 : Int32) (f655812 : Nat → Int32) (n655813 : Nat) : Option Value → va_W → Nat → Nat → Prop := fun r w dc ds => ∃ (F655875 : Nat → va_E) (o655873 : Int32), r = none ∧ w = va_pl P655806 F655875 ∧ rFr [q655808] P655806 F655807 F655875 ∧ F655875 q655808 = .inr (1, [.ref q655809, .int 0, .int o655873, .int 0]) ∧ F655875 q655809 = .inl (I .byte, n655813, .inl f655812) ∧ dc ≤ 0 ∧ ds ≤ 0 ∧ gB o655873 0 1 ∧ 0 = 0 ∧ tr_RStringBuilder_setLength p655810 p655811 n655813 o655873
set_option maxRecDepth 100000 in
set_option maxHeartbeats 4000000 in
theorem cp_655815_StringBuilder_setLength (l : Launch) (hl0 : l.stackTraces = false) (D : va_G) (I : FieldType → ClassId) (P655806 : List Nat) (F655807 : Nat → va_E) (q655808 : Nat) (q655809 : Nat) (p655810 : Int32) (p655811 : Int32) (f655812 : Nat → Int32) (n655813 : Nat) (hmq655808 : q655808 ∈ P655806) (hmq655809 : q655809 ∈ P655806) (heq655808 : F655807 q655808 = .inr (1, [.ref q655809, .int 0, .int p655810, .int p655811])) (heq655809 : F655807 q655809 = .inl (I .byte, n655813, .inl f655812)) (bp655810 : gB p655810 0 1) (bp655811 : gB p655811 0 16777216) (bf655812 : gF f655812 (-128) 127) (x655814 : ((n655813 : Int) ≤ 16777216)) : CtA (gV D I) l yJ4_setLength_d00df cJ4_setLength_d00df 2 none 2 43 0 0 [.ref q655808, .int 0] (va_pl P655806 F655807) (pp_655815_StringBuilder_setLength D I P655806 F655807 q655808 q655809 p655810 p655811 f655812 n655813) gNA := by
  refine CtA_ofF hl0 (by decide +kernel) (Nat.le_of_ble_eq_true rfl) ?_
  refine G_aload_n 0 dr_cJ4_setLength_d00df_0 rfl ?_
  refine G_iload_n 1 dr_cJ4_setLength_d00df_1 rfl ?_
  refine Gw_callSU (As := [.int 0]) (gV_ok D I) (cp_655825_AbstractStringBuilder_setLength l hl0 D I P655806 F655807 q655808 q655809 p655810 p655811 f655812 n655813 hmq655808 hmq655809 heq655808 heq655809 bp655810 bp655811 bf655812 (by have qa0 : Int32.toInt 0 = 0 := (by decide); omega)) dr_cJ4_setLength_d00df_2 ⟨wr_11_129, wr_1_19, wr_11_131, by decide, rfl, (Nat.le_of_ble_eq_true rfl), (Nat.le_of_ble_eq_true rfl)⟩ wr_11_130 wr_11_233 wr_7_73 wr_7_44 (by decide) hmq655808 heq655808 rfl (show 0 + 0 ≤ 0 by first | omega | decide) (show 0 + 0 ≤ 0 by first | omega | decide) (Nat.le_of_ble_eq_true rfl) (fun r655862 w655863 dc655859 ds655860 hp655861 => ?_)
  obtain ⟨F655867, o655864, rfl, rfl, hfr655869, he655870, he655871, hdc, hds, bo655864, x655865, ht655866⟩ := hp655861
  have hfr655872 : rFr [q655808] P655806 F655807 F655867 := rFr_call (rSub_rf (P := P655806)) (rFr_rf (W := []) (P := P655806) (F := F655807)) hfr655869 (fun b hb hn => ⟨nm_n, (nm_c (fun e => hn (e ▸ List.mem_cons_self)) nm_n)⟩)
  change G _ _ _ _ _ _ _ _ _ _ _
  refine G_widen (cs' := 0) (sl' := 0) (by omega) (by omega) ?_
  exact G_vretA dr_cJ4_setLength_d00df_5 rfl (Nat.le_of_ble_eq_true rfl) (Nat.le_of_ble_eq_true rfl) ⟨F655867, o655864, rfl, rfl, hfr655872, he655870, he655871, (Nat.le_of_ble_eq_true rfl), (Nat.le_of_ble_eq_true rfl), bo655864, (by have qa0 : Int32.toInt 0 = 0 := (by decide); omega), (fun R c1 => c1 o655864 bo655864 ht655866)⟩
abbrev ky_655887_AbstractStringBuilder_init : gKey := (cJ5_init_d00df, 2, "java/lang/AbstractStringBuilder", none, [], "<init>", fun _ _ => True)
def pp_655887_AbstractStringBuilder_init (D : va_G) (I : FieldType → ClassId) (P655882 : List Nat) (F655883 : Nat → va_E) (q655884 : Nat) (p655885 : Int32) (p655886 : Int32) : Option Value → va_W → Nat → Nat → Prop := fun r w dc ds => ∃ (P655915 : List Nat) (F655916 : Nat → va_E) (q655914 : Nat), r = none ∧ w = va_pl P655915 F655916 ∧ rSub P655882 P655915 ∧ rFr [q655884] P655882 F655883 F655916 ∧ F655916 q655884 = .inr (1, [.ref q655914, .int 0, .int p655885, .int p655886]) ∧ F655916 q655914 = .inl (I .byte, 16, .inl (fun _ => 0)) ∧ q655914 ∈ P655915 ∧ q655914 ∉ P655882 ∧ dc ≤ 1 ∧ ds ≤ 16
set_option maxRecDepth 100000 in
set_option maxHeartbeats 4000000 in
theorem cp_655887_AbstractStringBuilder_init (l : Launch) (hl0 : l.stackTraces = false) (D : va_G) (I : FieldType → ClassId) (P655882 : List Nat) (F655883 : Nat → va_E) (q655884 : Nat) (p655885 : Int32) (p655886 : Int32) (hmq655884 : q655884 ∈ P655882) (heq655884 : F655883 q655884 = .inr (1, [.null, .int 0, .int p655885, .int p655886])) (bp655885 : gB p655885 0 1) (bp655886 : gB p655886 0 16777216) : CtA (gV D I) l yJ5_init_d00df cJ5_init_d00df 2 none 1 12 1 16 [.ref q655884, .int 16] (va_pl P655882 F655883) (pp_655887_AbstractStringBuilder_init D I P655882 F655883 q655884 p655885 p655886) gNA := by
  refine CtA_ofF hl0 (by decide +kernel) (Nat.le_of_ble_eq_true rfl) ?_
  refine G_aload_n 0 dr_cJ5_init_d00df_0 rfl ?_
  refine G_obj dr_cJ5_init_d00df_1 wr_7_51 wr_1_51 wr_1_52 (Nat.le_of_ble_eq_true rfl) (Nat.le_of_ble_eq_true rfl) ?_
  refine G_gets dr_cJ5_init_d00df_4 wr_7_52 gz_cs (fun x hx => ?_)
  subst hx
  refine G_if_eq 25 dr_cJ5_init_d00df_7 (by decide +kernel) (fun hc => absurd hc (by decide)) (fun _ => ?_)
  refine G_aload_n 0 dr_cJ5_init_d00df_10 rfl ?_
  refine G_iload_n 1 dr_cJ5_init_d00df_11 rfl ?_
  refine G_newa 1 (16, .inl (fun _ => 0)) dr_cJ5_init_d00df_12 rfl rfl (by intro C h; cases h) wr_1_66 (fun _ => ga_byte _ _) (by decide) (by decide) (by decide) (show 0 + 1 ≤ 1 by first | omega | decide) (show 0 + 16 ≤ 16 by first | omega | decide) (fun q655888 => Gp_in (fun P655889 F655890 hq655891 hP655892 e655893 n655894 => ?_))
  refine G_widen (cs' := 1) (sl' := 16) (by omega) (by omega) ?_
  have he655895 : F655890 q655884 = .inr (1, [.null, .int 0, .int p655885, .int p655886]) := (n655894 q655884 (fun h => hq655891 (h ▸ hmq655884))).trans heq655884
  have he655896 : F655890 q655888 = .inl (I .byte, 16, .inl (fun _ => 0)) := e655893
  have hm655897 : q655884 ∈ P655889 := (hP655892 q655884).mpr (Or.inl hmq655884)
  have hm655898 : q655888 ∈ P655889 := (hP655892 q655888).mpr (Or.inr rfl)
  have hq655899 : q655888 ∉ P655882 := fun z => hq655891 ((rSub_rf (P := P655882)) q655888 z)
  have hfr655900 : rFr [] P655882 F655883 F655890 := rFr_new (rSub_rf (P := P655882)) hq655891 (rFr_rf (W := []) (P := P655882) (F := F655883)) n655894
  have hsb655901 : rSub P655882 P655889 := rSub_new (rSub_rf (P := P655882)) hP655892
  refine Gp_put 0 hm655897 he655895 dr_cJ5_init_d00df_14 (gk_J4 D I) (Nat.le_of_ble_eq_true rfl) wr_7_60 rfl rfl rfl (Nat.le_of_ble_eq_true rfl) (fun F655902 e655903 n655904 => ?_)
  have he655905 : F655902 q655888 = .inl (I .byte, 16, .inl (fun _ => 0)) := (n655904 q655888 (fun h => hq655899 (h ▸ hmq655884))).trans he655896
  have he655906 : F655902 q655884 = .inr (1, [.ref q655888, .int 0, .int p655885, .int p655886]) := e655903
  have hfr655907 : rFr [q655884] P655882 F655883 F655902 := rFr_put hfr655900 n655904
  refine G_aload_n 0 dr_cJ5_init_d00df_17 rfl ?_
  refine G_iconst 0 dr_cJ5_init_d00df_18 (by decide +kernel) ?_
  refine Gp_put 1 hm655897 he655906 dr_cJ5_init_d00df_19 (gk_J4 D I) (Nat.le_of_ble_eq_true rfl) wr_7_61 rfl rfl rfl (Nat.le_of_ble_eq_true rfl) (fun F655908 e655909 n655910 => ?_)
  have he655911 : F655908 q655888 = .inl (I .byte, 16, .inl (fun _ => 0)) := (n655910 q655888 (fun h => hq655899 (h ▸ hmq655884))).trans he655905
  have he655912 : F655908 q655884 = .inr (1, [.ref q655888, .int 0, .int p655885, .int p655886]) := e655909
  have hfr655913 : rFr [q655884] P655882 F655883 F655908 := rFr_put' List.mem_cons_self hfr655907 n655910
  refine G_goto 38 dr_cJ5_init_d00df_22 (by decide +kernel) ?_
  exact G_vretA dr_cJ5_init_d00df_38 rfl (Nat.le_of_ble_eq_true rfl) (Nat.le_of_ble_eq_true rfl) ⟨P655889, F655908, q655888, rfl, rfl, hsb655901, hfr655913, he655912, he655911, hm655898, hq655899, (Nat.le_of_ble_eq_true rfl), (Nat.le_of_ble_eq_true rfl)⟩
abbrev ky_655881_StringBuilder_init : gKey := (cJ4_init_da8c8, 1, "java/lang/StringBuilder", none, [], "<init>", fun _ _ => True)
def pp_655881_StringBuilder_init (D : va_G) (I : FieldType → ClassId) (P655876 : List Nat) (F655877 : Nat → va_E) (q655878 : Nat) (p655879 : Int32) (p655880 : Int32) : Option Value → va_W → Nat → Nat → Prop := fun r w dc ds => ∃ (P655936 : List Nat) (F655937 : Nat → va_E) (q655935 : Nat), r = none ∧ w = va_pl P655936 F655937 ∧ rSub P655876 P655936 ∧ rFr [q655878] P655876 F655877 F655937 ∧ F655937 q655878 = .inr (1, [.ref q655935, .int 0, .int p655879, .int p655880]) ∧ F655937 q655935 = .inl (I .byte, 16, .inl (fun _ => 0)) ∧ q655935 ∈ P655936 ∧ q655935 ∉ P655876 ∧ dc ≤ 1 ∧ ds ≤ 16
set_option maxRecDepth 100000 in
set_option maxHeartbeats 4000000 in
theorem cp_655881_StringBuilder_init (l : Launch) (hl0 : l.stackTraces = false) (D : va_G) (I : FieldType → ClassId) (P655876 : List Nat) (F655877 : Nat → va_E) (q655878 : Nat) (p655879 : Int32) (p655880 : Int32) (hmq655878 : q655878 ∈ P655876) (heq655878 : F655877 q655878 = .inr (1, [.null, .int 0, .int p655879, .int p655880])) (bp655879 : gB p655879 0 1) (bp655880 : gB p655880 0 16777216) : CtA (gV D I) l yJ4_init_da8c8 cJ4_init_da8c8 1 none 2 33 1 16 [.ref q655878] (va_pl P655876 F655877) (pp_655881_StringBuilder_init D I P655876 F655877 q655878 p655879 p655880) gNA := by
  refine CtA_ofF hl0 (by decide +kernel) (Nat.le_of_ble_eq_true rfl) ?_
  refine G_aload_n 0 dr_cJ4_init_da8c8_0 rfl ?_
  refine G_bipush 16 dr_cJ4_init_da8c8_1 (by decide +kernel) ?_
  refine Gw_callI (As := [.int 16]) (gV_ok D I) (cp_655887_AbstractStringBuilder_init l hl0 D I P655876 F655877 q655878 p655879 p655880 hmq655878 heq655878 bp655879 bp655880) dr_cJ4_init_da8c8_3 ⟨wr_7_48, wr_1_19, wr_7_50, by decide, rfl, (Nat.le_of_ble_eq_true rfl), (Nat.le_of_ble_eq_true rfl)⟩ wr_7_49 rfl (show 0 + 1 ≤ 1 by first | omega | decide) (show 0 + 16 ≤ 16 by first | omega | decide) (Nat.le_of_ble_eq_true rfl) (fun r655920 w655921 dc655917 ds655918 hp655919 => ?_)
  obtain ⟨P655923, F655924, q655922, rfl, rfl, hsb655925, hfr655926, he655927, he655928, hm655929, hq655930, hdc, hds⟩ := hp655919
  have hm655931 : q655878 ∈ P655923 := hsb655925 q655878 hmq655878
  have hq655932 : q655922 ∉ P655876 := fun z => hq655930 ((rSub_rf (P := P655876)) q655922 z)
  have hsb655933 : rSub P655876 P655923 := rSub_tr (rSub_rf (P := P655876)) hsb655925
  have hfr655934 : rFr [q655878] P655876 F655877 F655924 := rFr_call (rSub_rf (P := P655876)) (rFr_rf (W := []) (P := P655876) (F := F655877)) hfr655926 (fun b hb hn => ⟨nm_n, (nm_c (fun e => hn (e ▸ List.mem_cons_self)) nm_n)⟩)
  change G _ _ _ _ _ _ _ _ _ _ _
  refine G_widen (cs' := 1) (sl' := 16) (by omega) (by omega) ?_
  exact G_vretA dr_cJ4_init_da8c8_6 rfl (Nat.le_of_ble_eq_true rfl) (Nat.le_of_ble_eq_true rfl) ⟨P655923, F655924, q655922, rfl, rfl, hsb655933, hfr655934, he655927, he655928, hm655929, hq655932, (Nat.le_of_ble_eq_true rfl), (Nat.le_of_ble_eq_true rfl)⟩
abbrev ky_655994_String_coder : gKey := (cJ0_coder_7d493, 1, "java/lang/String", (some FieldType.byte), [], "coder", fun _ _ => True)
def pp_655994_String_coder (D : va_G) (I : FieldType → ClassId) (P655985 : List Nat) (F655986 : Nat → va_E) (q655987 : Nat) (q655988 : Nat) (p655989 : Int32) (p655990 : Int32) (f655991 : Nat → Int32) (n655992 : Nat) : Option Value → va_W → Nat → Nat → Prop := fun r w dc ds => r = some (.int 0) ∧ w = va_pl P655985 F655986 ∧ dc ≤ 0 ∧ ds ≤ 0
set_option maxRecDepth 100000 in
set_option maxHeartbeats 4000000 in
theorem cp_655994_String_coder (l : Launch) (hl0 : l.stackTraces = false) (D : va_G) (I : FieldType → ClassId) (P655985 : List Nat) (F655986 : Nat → va_E) (q655987 : Nat) (q655988 : Nat) (p655989 : Int32) (p655990 : Int32) (f655991 : Nat → Int32) (n655992 : Nat) (hmq655987 : q655987 ∈ P655985) (hmq655988 : q655988 ∈ P655985) (heq655987 : F655986 q655987 = .inr (0, [.ref q655988, .int 0, .int p655989, .int p655990])) (heq655988 : F655986 q655988 = .inl (I .byte, n655992, .inl f655991)) (bp655990 : gB p655990 0 1) (bf655991 : gF f655991 (-128) 127) (x655993 : ((n655992 : Int) ≤ 16777216)) : CtA (gV D I) l yJ0_coder_7d493 cJ0_coder_7d493 1 (some FieldType.byte) 0 0 0 0 [.ref q655987] (va_pl P655985 F655986) (pp_655994_String_coder D I P655985 F655986 q655987 q655988 p655989 p655990 f655991 n655992) gNA := by
  refine CtA_ofF hl0 (by decide +kernel) (Nat.le_of_ble_eq_true rfl) ?_
  have bp655989 := gB_any p655989
  refine G_gets dr_cJ0_coder_7d493_0 wr_3_65 gz_cs (fun x hx => ?_)
  subst hx
  refine G_if_eq 13 dr_cJ0_coder_7d493_3 (by decide +kernel) (fun hc => absurd hc (by decide)) (fun _ => ?_)
  refine G_aload_n 0 dr_cJ0_coder_7d493_6 rfl ?_
  refine Gp_get 1 hmq655987 heq655987 dr_cJ0_coder_7d493_7 (gk_J0 D I) (Nat.le_of_ble_eq_true rfl) wr_8_183 rfl ?_
  refine G_goto 14 dr_cJ0_coder_7d493_10 (by decide +kernel) ?_
  exact G_zretA FieldType.byte dr_cJ0_coder_7d493_14 rfl rfl (Nat.le_of_ble_eq_true rfl) (Nat.le_of_ble_eq_true rfl) ⟨rfl, rfl, (Nat.le_of_ble_eq_true rfl), (Nat.le_of_ble_eq_true rfl)⟩
/- tr_RString_length: result -/
def tr_RString_length (a0_value_n : Nat) (o1 : Int32) : Prop := ∀ R : (Int32) → Prop,
  (∀ (x1 : Int32) (x2 : Int32), x1.toInt = (a0_value_n : Nat) → x2.toInt = x1.toInt / 1 → R x2) →
  R o1
abbrev ky_655983_String_length : gKey := (cJ0_length_8abf5, 1, "java/lang/String", (some FieldType.int), [], "length", fun _ _ => True)
def pp_655983_String_length (D : va_G) (I : FieldType → ClassId) (P655974 : List Nat) (F655975 : Nat → va_E) (q655976 : Nat) (q655977 : Nat) (p655978 : Int32) (p655979 : Int32) (f655980 : Nat → Int32) (n655981 : Nat) : Option Value → va_W → Nat → Nat → Prop := fun r w dc ds => ∃ (o656001 : Int32), r = some (.int o656001) ∧ w = va_pl P655974 F655975 ∧ dc ≤ 0 ∧ ds ≤ 0 ∧ gB o656001 0 16777216 ∧ o656001.toInt = (n655981 : Int) ∧ tr_RString_length n655981 o656001
set_option maxRecDepth 100000 in
set_option maxHeartbeats 4000000 in
theorem cp_655983_String_length (l : Launch) (hl0 : l.stackTraces = false) (D : va_G) (I : FieldType → ClassId) (P655974 : List Nat) (F655975 : Nat → va_E) (q655976 : Nat) (q655977 : Nat) (p655978 : Int32) (p655979 : Int32) (f655980 : Nat → Int32) (n655981 : Nat) (hmq655976 : q655976 ∈ P655974) (hmq655977 : q655977 ∈ P655974) (heq655976 : F655975 q655976 = .inr (0, [.ref q655977, .int 0, .int p655978, .int p655979])) (heq655977 : F655975 q655977 = .inl (I .byte, n655981, .inl f655980)) (bp655979 : gB p655979 0 1) (bf655980 : gF f655980 (-128) 127) (x655982 : ((n655981 : Int) ≤ 16777216)) : CtA (gV D I) l yJ0_length_8abf5 cJ0_length_8abf5 1 (some FieldType.int) 1 20 0 0 [.ref q655976] (va_pl P655974 F655975) (pp_655983_String_length D I P655974 F655975 q655976 q655977 p655978 p655979 f655980 n655981) gNA := by
  refine CtA_ofF hl0 (by decide +kernel) (Nat.le_of_ble_eq_true rfl) ?_
  have bp655978 := gB_any p655978
  refine G_aload_n 0 dr_cJ0_length_8abf5_0 rfl ?_
  refine Gp_get 0 hmq655976 heq655976 dr_cJ0_length_8abf5_1 (gk_J0 D I) (Nat.le_of_ble_eq_true rfl) wr_8_182 rfl ?_
  refine Gp_alen (Int32.ofNat n655981) 1 hmq655977 heq655977 dr_cJ0_length_8abf5_4 rfl rfl (G_nam fun z655984 hz655984 => ?_)
  have ez655984 : z655984.toInt = (n655981 : Nat) := gI_ofM hz655984 (by omega)
  have bz655984 : gB z655984 0 16777216 := ⟨by omega, by omega⟩
  refine G_aload_n 0 dr_cJ0_length_8abf5_5 rfl ?_
  refine Gw_callV (As := []) (gV_ok D I) (cp_655994_String_coder l hl0 D I P655974 F655975 q655976 q655977 p655978 p655979 f655980 n655981 hmq655976 hmq655977 heq655976 heq655977 bp655979 bf655980 (by have qa0 : Int32.toInt 0 = 0 := (by decide); omega)) dr_cJ0_length_8abf5_6 ⟨wr_3_61, wr_1_21, wr_3_64, by decide, rfl, (Nat.le_of_ble_eq_true rfl), (Nat.le_of_ble_eq_true rfl)⟩ wr_3_62 wr_3_63 hmq655976 heq655976 rfl (show 0 + 0 ≤ 0 by first | omega | decide) (show 0 + 0 ≤ 0 by first | omega | decide) (Nat.le_of_ble_eq_true rfl) (fun r655998 w655999 dc655995 ds655996 hp655997 => ?_) (fun _ _ _ _ _ z => z.elim)
  obtain ⟨rfl, rfl, hdc, hds⟩ := hp655997
  change G _ _ _ _ _ _ _ (.int 0 :: _) _ _ _
  refine G_widen (cs' := 0) (sl' := 0) (by omega) (by omega) ?_
  refine G_ishr dr_cJ0_length_8abf5_9 (G_nam fun z656000 hz656000 => ?_)
  have ez656000 : z656000.toInt = z655984.toInt / 1 := gI_shr (k := 0) hz656000 (by decide)
  have bz656000 : gB z656000 0 16777216 := ⟨by omega, by omega⟩
  exact G_iretA dr_cJ0_length_8abf5_10 rfl (Nat.le_of_ble_eq_true rfl) (Nat.le_of_ble_eq_true rfl) ⟨z656000, rfl, rfl, (Nat.le_of_ble_eq_true rfl), (Nat.le_of_ble_eq_true rfl), bz656000, (by have qa0 : Int32.toInt 0 = 0 := (by decide); omega), (fun R c1 => c1 z655984 z656000 ez655984 ez656000)⟩
abbrev ky_656052_AbstractStringBuilder_inflateIfNeededFor : gKey := (cJ5_inflateIfNeededFor_a7421, 2, "java/lang/AbstractStringBuilder", none, [], "inflateIfNeededFor", fun _ _ => True)
def pp_656052_AbstractStringBuilder_inflateIfNeededFor (D : va_G) (I : FieldType → ClassId) (P656036 : List Nat) (F656037 : Nat → va_E) (q656038 : Nat) (q656039 : Nat) (q656040 : Nat) (q656041 : Nat) (p656042 : Int32) (p656043 : Int32) (p656044 : Int32) (p656045 : Int32) (f656046 : Nat → Int32) (n656047 : Nat) (f656048 : Nat → Int32) (n656049 : Nat) : Option Value → va_W → Nat → Nat → Prop := fun r w dc ds => r = none ∧ w = va_pl P656036 F656037 ∧ dc ≤ 0 ∧ ds ≤ 0
set_option maxRecDepth 100000 in
set_option maxHeartbeats 4000000 in
theorem cp_656052_AbstractStringBuilder_inflateIfNeededFor (l : Launch) (hl0 : l.stackTraces = false) (D : va_G) (I : FieldType → ClassId) (P656036 : List Nat) (F656037 : Nat → va_E) (q656038 : Nat) (q656039 : Nat) (q656040 : Nat) (q656041 : Nat) (p656042 : Int32) (p656043 : Int32) (p656044 : Int32) (p656045 : Int32) (f656046 : Nat → Int32) (n656047 : Nat) (f656048 : Nat → Int32) (n656049 : Nat) (hmq656038 : q656038 ∈ P656036) (hmq656039 : q656039 ∈ P656036) (hmq656040 : q656040 ∈ P656036) (hmq656041 : q656041 ∈ P656036) (heq656038 : F656037 q656038 = .inr (1, [.ref q656040, .int 0, .int p656042, .int p656043])) (heq656039 : F656037 q656039 = .inr (0, [.ref q656041, .int 0, .int p656044, .int p656045])) (heq656040 : F656037 q656040 = .inl (I .byte, n656047, .inl f656046)) (heq656041 : F656037 q656041 = .inl (I .byte, n656049, .inl f656048)) (hneq656040q656041 : q656040 ≠ q656041) (bp656042 : gB p656042 0 1) (bp656043 : gB p656043 0 16777216) (bp656045 : gB p656045 0 1) (bf656046 : gF f656046 (-128) 127) (bf656048 : gF f656048 (-128) 127) (x656050 : ((n656047 : Int) ≤ 16777216)) (x656051 : ((n656049 : Int) ≤ 16777216)) : CtA (gV D I) l yJ5_inflateIfNeededFor_a7421 cJ5_inflateIfNeededFor_a7421 2 none 1 20 0 0 [.ref q656038, .ref q656039] (va_pl P656036 F656037) (pp_656052_AbstractStringBuilder_inflateIfNeededFor D I P656036 F656037 q656038 q656039 q656040 q656041 p656042 p656043 p656044 p656045 f656046 n656047 f656048 n656049) gNA := by
  refine CtA_ofF hl0 (by decide +kernel) (Nat.le_of_ble_eq_true rfl) ?_
  have bp656044 := gB_any p656044
  refine G_gets dr_cJ5_inflateIfNeededFor_a7421_0 wr_7_52 gz_cs (fun x hx => ?_)
  subst hx
  refine G_if_eq 21 dr_cJ5_inflateIfNeededFor_a7421_3 (by decide +kernel) (fun hc => absurd hc (by decide)) (fun _ => ?_)
  refine G_aload_n 0 dr_cJ5_inflateIfNeededFor_a7421_6 rfl ?_
  refine Gp_get 1 hmq656038 heq656038 dr_cJ5_inflateIfNeededFor_a7421_7 (gk_J4 D I) (Nat.le_of_ble_eq_true rfl) wr_7_61 rfl ?_
  refine G_aload_n 1 dr_cJ5_inflateIfNeededFor_a7421_10 rfl ?_
  refine Gw_callV (As := []) (gV_ok D I) (cp_655994_String_coder l hl0 D I P656036 F656037 q656039 q656041 p656044 p656045 f656048 n656049 hmq656039 hmq656041 heq656039 heq656041 bp656045 bf656048 (by have qa0 : Int32.toInt 0 = 0 := (by decide); omega)) dr_cJ5_inflateIfNeededFor_a7421_11 ⟨wr_8_163, wr_1_21, wr_3_64, by decide, rfl, (Nat.le_of_ble_eq_true rfl), (Nat.le_of_ble_eq_true rfl)⟩ wr_3_62 wr_3_63 hmq656039 heq656039 rfl (show 0 + 0 ≤ 0 by first | omega | decide) (show 0 + 0 ≤ 0 by first | omega | decide) (Nat.le_of_ble_eq_true rfl) (fun r656056 w656057 dc656053 ds656054 hp656055 => ?_) (fun _ _ _ _ _ z => z.elim)
  obtain ⟨rfl, rfl, hdc, hds⟩ := hp656055
  change G _ _ _ _ _ _ _ (.int 0 :: _) _ _ _
  refine G_widen (cs' := 0) (sl' := 0) (by omega) (by omega) ?_
  refine G_icmp_eq 21 dr_cJ5_inflateIfNeededFor_a7421_14 (by decide +kernel) (fun _ => ?_) (fun hc => absurd hc (by decide))
  exact G_vretA dr_cJ5_inflateIfNeededFor_a7421_21 rfl (Nat.le_of_ble_eq_true rfl) (Nat.le_of_ble_eq_true rfl) ⟨rfl, rfl, (Nat.le_of_ble_eq_true rfl), (Nat.le_of_ble_eq_true rfl)⟩
/- tr_RString_getBytes: a.1.[] -/
def tr_RString_getBytes (a2 : Int32) (a1_v : Nat → Int32) (a0_value_v : Nat → Int32) (a0_value_n : Nat) (o1 : Nat → Int32) : Prop := ∀ R : (Nat → Int32) → Prop,
  (∀ (x1 : Int32) (x2 : Int32) (x3 : Nat → Int32), x1.toInt = a2.toInt * 1 → x2.toInt = (a0_value_n : Nat) → x3 = va_cpy a0_value_v a1_v (0 : Int32).toNatClampNeg x1.toNatClampNeg x2.toNatClampNeg → R x3) →
  R o1
abbrev ky_656078_String_getBytes : gKey := (cJ0_getBytes_840e7, 4, "java/lang/String", none, [], "getBytes", fun _ _ => True)
def pp_656078_String_getBytes (D : va_G) (I : FieldType → ClassId) (P656063 : List Nat) (F656064 : Nat → va_E) (q656065 : Nat) (q656066 : Nat) (q656067 : Nat) (p656068 : Int32) (p656069 : Int32) (p656070 : Int32) (f656071 : Nat → Int32) (n656072 : Nat) (f656073 : Nat → Int32) (n656074 : Nat) : Option Value → va_W → Nat → Nat → Prop := fun r w dc ds => ∃ (F656096 : Nat → va_E) (f656094 : Nat → Int32), r = none ∧ w = va_pl P656063 F656096 ∧ rFr [q656066] P656063 F656064 F656096 ∧ F656096 q656065 = .inr (0, [.ref q656067, .int 0, .int p656069, .int p656070]) ∧ F656096 q656066 = .inl (I .byte, n656072, .inl f656094) ∧ F656096 q656067 = .inl (I .byte, n656074, .inl f656073) ∧ dc ≤ 0 ∧ ds ≤ 0 ∧ gF f656094 (-128) 127 ∧ sK f656071 f656094 p656068.toInt ∧ sF f656073 f656094 p656068.toInt (n656074 : Int) ∧ tr_RString_getBytes p656068 f656071 f656073 n656074 f656094
set_option maxRecDepth 100000 in
set_option maxHeartbeats 4000000 in
theorem cp_656078_String_getBytes (l : Launch) (hl0 : l.stackTraces = false) (D : va_G) (I : FieldType → ClassId) (P656063 : List Nat) (F656064 : Nat → va_E) (q656065 : Nat) (q656066 : Nat) (q656067 : Nat) (p656068 : Int32) (p656069 : Int32) (p656070 : Int32) (f656071 : Nat → Int32) (n656072 : Nat) (f656073 : Nat → Int32) (n656074 : Nat) (hmq656065 : q656065 ∈ P656063) (hmq656066 : q656066 ∈ P656063) (hmq656067 : q656067 ∈ P656063) (heq656065 : F656064 q656065 = .inr (0, [.ref q656067, .int 0, .int p656069, .int p656070])) (heq656066 : F656064 q656066 = .inl (I .byte, n656072, .inl f656071)) (heq656067 : F656064 q656067 = .inl (I .byte, n656074, .inl f656073)) (hneq656066q656067 : q656066 ≠ q656067) (bp656068 : gB p656068 0 16777216) (bp656070 : gB p656070 0 1) (bf656071 : gF f656071 (-128) 127) (bf656073 : gF f656073 (-128) 127) (x656075 : p656068.toInt + (n656074 : Int) ≤ (n656072 : Int)) (x656076 : ((n656072 : Int) ≤ 16777216)) (x656077 : ((n656074 : Int) ≤ 16777216)) : CtA (gV D I) l yJ0_getBytes_840e7 cJ0_getBytes_840e7 4 none 1 20 0 0 [.ref q656065, .ref q656066, .int p656068, .int 0] (va_pl P656063 F656064) (pp_656078_String_getBytes D I P656063 F656064 q656065 q656066 q656067 p656068 p656069 p656070 f656071 n656072 f656073 n656074) gNA := by
  refine CtA_ofF hl0 (by decide +kernel) (Nat.le_of_ble_eq_true rfl) ?_
  have bp656069 := gB_any p656069
  refine G_aload_n 0 dr_cJ0_getBytes_840e7_0 rfl ?_
  refine Gw_callV (As := []) (gV_ok D I) (cp_655994_String_coder l hl0 D I P656063 F656064 q656065 q656067 p656069 p656070 f656073 n656074 hmq656065 hmq656067 heq656065 heq656067 bp656070 bf656073 (by have qa0 : Int32.toInt 0 = 0 := (by decide); omega)) dr_cJ0_getBytes_840e7_1 ⟨wr_3_61, wr_1_21, wr_3_64, by decide, rfl, (Nat.le_of_ble_eq_true rfl), (Nat.le_of_ble_eq_true rfl)⟩ wr_3_62 wr_3_63 hmq656065 heq656065 rfl (show 0 + 0 ≤ 0 by first | omega | decide) (show 0 + 0 ≤ 0 by first | omega | decide) (Nat.le_of_ble_eq_true rfl) (fun r656082 w656083 dc656079 ds656080 hp656081 => ?_) (fun _ _ _ _ _ z => z.elim)
  obtain ⟨rfl, rfl, hdc, hds⟩ := hp656081
  change G _ _ _ _ _ _ _ (.int 0 :: _) _ _ _
  refine G_widen (cs' := 0) (sl' := 0) (by omega) (by omega) ?_
  refine G_iload_n 3 dr_cJ0_getBytes_840e7_4 rfl ?_
  refine G_icmp_ne 28 dr_cJ0_getBytes_840e7_5 (by decide +kernel) (fun hc => absurd hc (by decide)) (fun _ => ?_)
  refine G_aload_n 0 dr_cJ0_getBytes_840e7_8 rfl ?_
  refine Gp_get 0 hmq656065 heq656065 dr_cJ0_getBytes_840e7_9 (gk_J0 D I) (Nat.le_of_ble_eq_true rfl) wr_8_182 rfl ?_
  refine G_iconst 0 dr_cJ0_getBytes_840e7_12 (by decide +kernel) ?_
  refine G_aload_n 1 dr_cJ0_getBytes_840e7_13 rfl ?_
  refine G_iload_n 2 dr_cJ0_getBytes_840e7_14 rfl ?_
  refine G_iload_n 3 dr_cJ0_getBytes_840e7_15 rfl ?_
  refine G_ishl dr_cJ0_getBytes_840e7_16 (G_nam fun z656084 hz656084 => ?_)
  have ez656084 : z656084.toInt = p656068.toInt * 1 := gI_shl (k := 0) hz656084 (by decide) bp656068 (by decide) (by decide)
  have bz656084 : gB z656084 0 16777216 := ⟨by omega, by omega⟩
  refine G_aload_n 0 dr_cJ0_getBytes_840e7_17 rfl ?_
  refine Gp_get 0 hmq656065 heq656065 dr_cJ0_getBytes_840e7_18 (gk_J0 D I) (Nat.le_of_ble_eq_true rfl) wr_8_182 rfl ?_
  refine Gp_alen (Int32.ofNat n656074) 1 hmq656067 heq656067 dr_cJ0_getBytes_840e7_21 rfl rfl (G_nam fun z656085 hz656085 => ?_)
  have ez656085 : z656085.toInt = (n656074 : Nat) := gI_ofM hz656085 (by omega)
  have bz656085 : gB z656085 0 16777216 := ⟨by omega, by omega⟩
  refine Gp_copyp 1 hmq656067 hmq656066 heq656067 heq656066 dr_cJ0_getBytes_840e7_22 wr_8_168 wr_5_113 wr_5_112 wr_1_34 rfl rfl (fun j => gT_byte (bf656073 j)) (by decide) (by omega) (by omega) (by have qa0 : Int32.toInt 0 = 0 := (by decide); omega) (by have qa0 : Int32.toInt 0 = 0 := (by decide); omega) (Nat.le_of_ble_eq_true rfl) (Nat.le_of_ble_eq_true rfl) (fun F656086 e656087 n656088 => ?_)
  obtain ⟨f656089, hf656089⟩ : ∃ z, z = va_cpy f656073 f656071 (0 : Int32).toNatClampNeg z656084.toNatClampNeg z656085.toNatClampNeg := ⟨_, rfl⟩
  rw [← hf656089] at e656087
  have bf656089 : gF f656089 (-128) 127 := gF_cpy hf656089 bf656073 bf656071
  have he656090 : F656086 q656065 = .inr (0, [.ref q656067, .int 0, .int p656069, .int p656070]) := (n656088 q656065 (rn_oa heq656065 heq656066)).trans heq656065
  have he656091 : F656086 q656067 = .inl (I .byte, n656074, .inl f656073) := (n656088 q656067 (Ne.symm hneq656066q656067)).trans heq656067
  have he656092 : F656086 q656066 = .inl (I .byte, n656072, .inl f656089) := e656087
  have hfr656093 : rFr [q656066] P656063 F656064 F656086 := rFr_put (rFr_rf (W := []) (P := P656063) (F := F656064)) n656088
  refine G_goto 43 dr_cJ0_getBytes_840e7_25 (by decide +kernel) ?_
  exact G_vretA dr_cJ0_getBytes_840e7_43 rfl (Nat.le_of_ble_eq_true rfl) (Nat.le_of_ble_eq_true rfl) ⟨F656086, f656089, rfl, rfl, hfr656093, he656090, he656092, he656091, (Nat.le_of_ble_eq_true rfl), (Nat.le_of_ble_eq_true rfl), bf656089, (sK_cpy hf656089 (by omega)), (sF_cpy hf656089 (by decide) (by omega) (by omega)), (fun R c1 => c1 z656084 z656085 f656089 ez656084 ez656085 hf656089)⟩
/- tr_RAbstractStringBuilder_putStringAt: a.0.value.[] -/
def tr_RAbstractStringBuilder_putStringAt (a1 : Int32) (a0_value_v : Nat → Int32) (a2_value_v : Nat → Int32) (a2_value_n : Nat) (o1 : Nat → Int32) : Prop := ∀ R : (Nat → Int32) → Prop,
  (∀ (x1 : Nat → Int32), tr_RString_getBytes a1 a0_value_v a2_value_v a2_value_n x1 → R x1) →
  R o1
abbrev ky_656035_AbstractStringBuilder_putStringAt : gKey := (cJ5_putStringAt_47b60, 3, "java/lang/AbstractStringBuilder", none, [], "putStringAt", fun _ _ => True)
def pp_656035_AbstractStringBuilder_putStringAt (D : va_G) (I : FieldType → ClassId) (P656017 : List Nat) (F656018 : Nat → va_E) (q656019 : Nat) (q656020 : Nat) (q656021 : Nat) (q656022 : Nat) (p656023 : Int32) (p656024 : Int32) (p656025 : Int32) (p656026 : Int32) (p656027 : Int32) (f656028 : Nat → Int32) (n656029 : Nat) (f656030 : Nat → Int32) (n656031 : Nat) : Option Value → va_W → Nat → Nat → Prop := fun r w dc ds => ∃ (F656116 : Nat → va_E) (f656114 : Nat → Int32), r = none ∧ w = va_pl P656017 F656116 ∧ rFr [q656021] P656017 F656018 F656116 ∧ F656116 q656019 = .inr (1, [.ref q656021, .int 0, .int p656024, .int p656025]) ∧ F656116 q656020 = .inr (0, [.ref q656022, .int 0, .int p656026, .int p656027]) ∧ F656116 q656021 = .inl (I .byte, n656029, .inl f656114) ∧ F656116 q656022 = .inl (I .byte, n656031, .inl f656030) ∧ dc ≤ 0 ∧ ds ≤ 0 ∧ gF f656114 (-128) 127 ∧ sK f656028 f656114 p656023.toInt ∧ sF f656030 f656114 p656023.toInt (n656031 : Int) ∧ tr_RAbstractStringBuilder_putStringAt p656023 f656028 f656030 n656031 f656114
set_option maxRecDepth 100000 in
set_option maxHeartbeats 4000000 in
theorem cp_656035_AbstractStringBuilder_putStringAt (l : Launch) (hl0 : l.stackTraces = false) (D : va_G) (I : FieldType → ClassId) (P656017 : List Nat) (F656018 : Nat → va_E) (q656019 : Nat) (q656020 : Nat) (q656021 : Nat) (q656022 : Nat) (p656023 : Int32) (p656024 : Int32) (p656025 : Int32) (p656026 : Int32) (p656027 : Int32) (f656028 : Nat → Int32) (n656029 : Nat) (f656030 : Nat → Int32) (n656031 : Nat) (hmq656019 : q656019 ∈ P656017) (hmq656020 : q656020 ∈ P656017) (hmq656021 : q656021 ∈ P656017) (hmq656022 : q656022 ∈ P656017) (heq656019 : F656018 q656019 = .inr (1, [.ref q656021, .int 0, .int p656024, .int p656025])) (heq656020 : F656018 q656020 = .inr (0, [.ref q656022, .int 0, .int p656026, .int p656027])) (heq656021 : F656018 q656021 = .inl (I .byte, n656029, .inl f656028)) (heq656022 : F656018 q656022 = .inl (I .byte, n656031, .inl f656030)) (hneq656021q656022 : q656021 ≠ q656022) (bp656023 : gB p656023 0 16777216) (bp656024 : gB p656024 0 1) (bp656025 : gB p656025 0 16777216) (bp656027 : gB p656027 0 1) (bf656028 : gF f656028 (-128) 127) (bf656030 : gF f656030 (-128) 127) (x656032 : p656023.toInt + (n656031 : Int) ≤ (n656029 : Int)) (x656033 : ((n656029 : Int) ≤ 16777216)) (x656034 : ((n656031 : Int) ≤ 16777216)) : CtA (gV D I) l yJ5_putStringAt_47b60 cJ5_putStringAt_47b60 3 none 2 43 0 0 [.ref q656019, .int p656023, .ref q656020] (va_pl P656017 F656018) (pp_656035_AbstractStringBuilder_putStringAt D I P656017 F656018 q656019 q656020 q656021 q656022 p656023 p656024 p656025 p656026 p656027 f656028 n656029 f656030 n656031) gNA := by
  refine CtA_ofF hl0 (by decide +kernel) (Nat.le_of_ble_eq_true rfl) ?_
  have bp656026 := gB_any p656026
  refine G_aload_n 0 dr_cJ5_putStringAt_47b60_0 rfl ?_
  refine G_aload_n 2 dr_cJ5_putStringAt_47b60_1 rfl ?_
  refine Gw_callVB (As := [.ref q656020]) (gV_ok D I) (cp_656052_AbstractStringBuilder_inflateIfNeededFor l hl0 D I P656017 F656018 q656019 q656020 q656021 q656022 p656024 p656025 p656026 p656027 f656028 n656029 f656030 n656031 hmq656019 hmq656020 hmq656021 hmq656022 heq656019 heq656020 heq656021 heq656022 hneq656021q656022 bp656024 bp656025 bp656027 bf656028 bf656030 (by have qa0 : Int32.toInt 0 = 0 := (by decide); omega) (by have qa0 : Int32.toInt 0 = 0 := (by decide); omega)) dr_cJ5_putStringAt_47b60_2 ⟨wr_8_159, wr_1_19, wr_8_162, by decide, rfl, (Nat.le_of_ble_eq_true rfl), (Nat.le_of_ble_eq_true rfl)⟩ wr_8_161 wr_s_5 hmq656019 heq656019 rfl (show 0 + 0 ≤ 0 by first | omega | decide) (show 0 + 0 ≤ 0 by first | omega | decide) (Nat.le_of_ble_eq_true rfl) (fun r656061 w656062 dc656058 ds656059 hp656060 => ?_) (fun _ _ _ _ _ z => z.elim)
  obtain ⟨rfl, rfl, hdc, hds⟩ := hp656060
  change G _ _ _ _ _ _ _ _ _ _ _
  refine G_widen (cs' := 0) (sl' := 0) (by omega) (by omega) ?_
  refine G_aload_n 2 dr_cJ5_putStringAt_47b60_5 rfl ?_
  refine G_aload_n 0 dr_cJ5_putStringAt_47b60_6 rfl ?_
  refine Gp_get 0 hmq656019 heq656019 dr_cJ5_putStringAt_47b60_7 (gk_J4 D I) (Nat.le_of_ble_eq_true rfl) wr_7_60 rfl ?_
  refine G_iload_n 1 dr_cJ5_putStringAt_47b60_10 rfl ?_
  refine G_aload_n 0 dr_cJ5_putStringAt_47b60_11 rfl ?_
  refine Gp_get 1 hmq656019 heq656019 dr_cJ5_putStringAt_47b60_12 (gk_J4 D I) (Nat.le_of_ble_eq_true rfl) wr_7_61 rfl ?_
  refine Gw_callV (As := [.ref q656021, .int p656023, .int 0]) (gV_ok D I) (cp_656078_String_getBytes l hl0 D I P656017 F656018 q656020 q656021 q656022 p656023 p656026 p656027 f656028 n656029 f656030 n656031 hmq656020 hmq656021 hmq656022 heq656020 heq656021 heq656022 hneq656021q656022 bp656023 bp656027 bf656028 bf656030 (by have qa0 : Int32.toInt 0 = 0 := (by decide); omega) (by have qa0 : Int32.toInt 0 = 0 := (by decide); omega) (by have qa0 : Int32.toInt 0 = 0 := (by decide); omega)) dr_cJ5_putStringAt_47b60_15 ⟨wr_8_164, wr_1_21, wr_8_167, by decide, rfl, (Nat.le_of_ble_eq_true rfl), (Nat.le_of_ble_eq_true rfl)⟩ wr_8_165 wr_8_166 hmq656020 heq656020 rfl (show 0 + 0 ≤ 0 by first | omega | decide) (show 0 + 0 ≤ 0 by first | omega | decide) (Nat.le_of_ble_eq_true rfl) (fun r656100 w656101 dc656097 ds656098 hp656099 => ?_) (fun _ _ _ _ _ z => z.elim)
  obtain ⟨F656106, f656102, rfl, rfl, hfr656108, he656109, he656110, he656111, hdc, hds, bf656102, x656103, x656104, ht656105⟩ := hp656099
  have he656112 : F656106 q656019 = .inr (1, [.ref q656021, .int 0, .int p656024, .int p656025]) := (hfr656108 q656019 hmq656019 (nm_c (rn_oa heq656019 heq656021) nm_n)).trans heq656019
  have hfr656113 : rFr [q656021] P656017 F656018 F656106 := rFr_call (rSub_rf (P := P656017)) (rFr_rf (W := []) (P := P656017) (F := F656018)) hfr656108 (fun b hb hn => ⟨nm_n, (nm_c (fun e => hn (e ▸ List.mem_cons_self)) nm_n)⟩)
  change G _ _ _ _ _ _ _ _ _ _ _
  refine G_widen (cs' := 0) (sl' := 0) (by omega) (by omega) ?_
  exact G_vretA dr_cJ5_putStringAt_47b60_18 rfl (Nat.le_of_ble_eq_true rfl) (Nat.le_of_ble_eq_true rfl) ⟨F656106, f656102, rfl, rfl, hfr656113, he656112, he656109, he656110, he656111, (Nat.le_of_ble_eq_true rfl), (Nat.le_of_ble_eq_true rfl), bf656102, (sK_c x656103 (by omega)), (by assumption), (fun R c1 => c1 f656102 ht656105)⟩
/- tr_RAbstractStringBuilder_append3: a.0...count, a.0.value.[] -/
def tr_RAbstractStringBuilder_append3 (a0_count : Int32) (a0_value_v : Nat → Int32) (a0_value_n : Nat) (a1_value_v : Nat → Int32) (a1_value_n : Nat) (o1 : Int32) (o2 : Nat → Int32) : Prop := ∀ R : (Int32) → (Nat → Int32) → Prop,
  (∀ (x1 : Int32) (x2 : Int32) (x3 : Nat → Int32) (x4 : Int32), gB x1 0 16777216 → tr_RString_length a1_value_n x1 → x2.toInt = a0_count.toInt + x1.toInt → tr_RAbstractStringBuilder_ensureCapacityInternal x2 a0_value_n → tr_RAbstractStringBuilder_putStringAt a0_count a0_value_v a1_value_v a1_value_n x3 → x4.toInt = a0_count.toInt + x1.toInt → R x4 x3) →
  R o1 o2
abbrev ky_655973_AbstractStringBuilder_append : gKey := (cJ5_append_cf1ce, 3, "java/lang/AbstractStringBuilder", (some (FieldType.object "java/lang/AbstractStringBuilder")), [], "append", fun _ _ => True)
def pp_655973_AbstractStringBuilder_append (D : va_G) (I : FieldType → ClassId) (P655956 : List Nat) (F655957 : Nat → va_E) (q655958 : Nat) (q655959 : Nat) (q655960 : Nat) (q655961 : Nat) (p655962 : Int32) (p655963 : Int32) (p655964 : Int32) (p655965 : Int32) (f655966 : Nat → Int32) (n655967 : Nat) (f655968 : Nat → Int32) (n655969 : Nat) : Option Value → va_W → Nat → Nat → Prop := fun r w dc ds => ∃ (F656146 : Nat → va_E) (o656143 : Int32) (f656144 : Nat → Int32), r = some (.ref q655958) ∧ w = va_pl P655956 F656146 ∧ rFr [q655958, q655960] P655956 F655957 F656146 ∧ F656146 q655958 = .inr (1, [.ref q655960, .int 0, .int p655962, .int o656143]) ∧ F656146 q655959 = .inr (0, [.ref q655961, .int 0, .int p655964, .int p655965]) ∧ F656146 q655960 = .inl (I .byte, n655967, .inl f656144) ∧ F656146 q655961 = .inl (I .byte, n655969, .inl f655968) ∧ dc ≤ 0 ∧ ds ≤ 0 ∧ gB o656143 0 16777216 ∧ gF f656144 (-128) 127 ∧ o656143.toInt = p655963.toInt + (n655969 : Int) ∧ sK f655966 f656144 p655963.toInt ∧ sF f655968 f656144 p655963.toInt (n655969 : Int) ∧ tr_RAbstractStringBuilder_append3 p655963 f655966 n655967 f655968 n655969 o656143 f656144
set_option maxRecDepth 100000 in
set_option maxHeartbeats 4000000 in
theorem cp_655973_AbstractStringBuilder_append (l : Launch) (hl0 : l.stackTraces = false) (D : va_G) (I : FieldType → ClassId) (P655956 : List Nat) (F655957 : Nat → va_E) (q655958 : Nat) (q655959 : Nat) (q655960 : Nat) (q655961 : Nat) (p655962 : Int32) (p655963 : Int32) (p655964 : Int32) (p655965 : Int32) (f655966 : Nat → Int32) (n655967 : Nat) (f655968 : Nat → Int32) (n655969 : Nat) (hmq655958 : q655958 ∈ P655956) (hmq655959 : q655959 ∈ P655956) (hmq655960 : q655960 ∈ P655956) (hmq655961 : q655961 ∈ P655956) (heq655958 : F655957 q655958 = .inr (1, [.ref q655960, .int 0, .int p655962, .int p655963])) (heq655959 : F655957 q655959 = .inr (0, [.ref q655961, .int 0, .int p655964, .int p655965])) (heq655960 : F655957 q655960 = .inl (I .byte, n655967, .inl f655966)) (heq655961 : F655957 q655961 = .inl (I .byte, n655969, .inl f655968)) (hneq655960q655961 : q655960 ≠ q655961) (bp655962 : gB p655962 0 1) (bp655963 : gB p655963 0 16777216) (bp655965 : gB p655965 0 1) (bf655966 : gF f655966 (-128) 127) (bf655968 : gF f655968 (-128) 127) (x655970 : p655963.toInt + (n655969 : Int) ≤ (n655967 : Int)) (x655971 : ((n655967 : Int) ≤ 16777216)) (x655972 : ((n655969 : Int) ≤ 16777216)) : CtA (gV D I) l yJ5_append_cf1ce cJ5_append_cf1ce 3 (some (FieldType.object "java/lang/AbstractStringBuilder")) 3 65 0 0 [.ref q655958, .ref q655959] (va_pl P655956 F655957) (pp_655973_AbstractStringBuilder_append D I P655956 F655957 q655958 q655959 q655960 q655961 p655962 p655963 p655964 p655965 f655966 n655967 f655968 n655969) gNA := by
  refine CtA_ofF hl0 (by decide +kernel) (Nat.le_of_ble_eq_true rfl) ?_
  have bp655964 := gB_any p655964
  refine G_aload_n 1 dr_cJ5_append_cf1ce_0 rfl ?_
  refine G_ifnonnull 9 dr_cJ5_append_cf1ce_1 (by decide +kernel) ?_
  refine G_aload_n 1 dr_cJ5_append_cf1ce_9 rfl ?_
  refine Gw_callV (As := []) (gV_ok D I) (cp_655983_String_length l hl0 D I P655956 F655957 q655959 q655961 p655964 p655965 f655968 n655969 hmq655959 hmq655961 heq655959 heq655961 bp655965 bf655968 (by have qa0 : Int32.toInt 0 = 0 := (by decide); omega)) dr_cJ5_append_cf1ce_10 ⟨wr_8_154, wr_1_21, wr_3_60, by decide, rfl, (Nat.le_of_ble_eq_true rfl), (Nat.le_of_ble_eq_true rfl)⟩ wr_3_58 wr_3_59 hmq655959 heq655959 rfl (show 0 + 0 ≤ 0 by first | omega | decide) (show 0 + 0 ≤ 0 by first | omega | decide) (Nat.le_of_ble_eq_true rfl) (fun r656005 w656006 dc656002 ds656003 hp656004 => ?_) (fun _ _ _ _ _ z => z.elim)
  obtain ⟨o656007, rfl, rfl, hdc, hds, bo656007, x656008, ht656009⟩ := hp656004
  change G _ _ _ _ _ _ _ (.int o656007 :: _) _ _ _
  refine G_widen (cs' := 0) (sl' := 0) (by omega) (by omega) ?_
  refine G_istore_n (L' := [(2, .int o656007), (0, .ref q655958), (1, .ref q655959)]) dr_cJ5_append_cf1ce_13 (Nat.le_of_ble_eq_true rfl) rfl ?_
  refine G_aload_n 1 dr_cJ5_append_cf1ce_14 rfl ?_
  refine G_aload_n 1 dr_cJ5_append_cf1ce_15 rfl ?_
  refine Gp_get 3 hmq655958 heq655958 dr_cJ5_append_cf1ce_16 (gk_J4 D I) (Nat.le_of_ble_eq_true rfl) wr_7_64 rfl ?_
  refine G_iload_n 0 dr_cJ5_append_cf1ce_19 rfl ?_
  refine G_iadd dr_cJ5_append_cf1ce_20 (G_nam fun z656010 hz656010 => ?_)
  have ez656010 : z656010.toInt = p655963.toInt + o656007.toInt := by rw [gI_add hz656010 bp655963 bo656007 (by decide) (by decide)]
  have bz656010 : gB z656010 0 33554432 := gB_add (gI_add hz656010 bp655963 bo656007 (by decide) (by decide)) bp655963 bo656007 (by decide) (by decide)
  refine Gw_callVB (As := [.int z656010]) (gV_ok D I) (cp_655467_AbstractStringBuilder_ensureCapacityInternal l hl0 D I P655956 F655957 q655958 q655960 z656010 p655962 p655963 f655966 n655967 hmq655958 hmq655960 heq655958 heq655960 ⟨by omega, by omega⟩ bp655962 bp655963 bf655966 (by have qa0 : Int32.toInt 0 = 0 := (by decide); omega) (by have qa0 : Int32.toInt 0 = 0 := (by decide); omega)) dr_cJ5_append_cf1ce_21 ⟨wr_8_4, wr_1_19, wr_8_7, by decide, rfl, (Nat.le_of_ble_eq_true rfl), (Nat.le_of_ble_eq_true rfl)⟩ wr_8_6 wr_s_0 hmq655958 heq655958 rfl (show 0 + 0 ≤ 0 by first | omega | decide) (show 0 + 0 ≤ 0 by first | omega | decide) (Nat.le_of_ble_eq_true rfl) (fun r656014 w656015 dc656011 ds656012 hp656013 => ?_) (fun _ _ _ _ _ z => z.elim)
  obtain ⟨rfl, rfl, hdc, hds, ht656016⟩ := hp656013
  change G _ _ _ _ _ _ _ _ _ _ _
  refine G_widen (cs' := 0) (sl' := 0) (by omega) (by omega) ?_
  refine G_aload_n 1 dr_cJ5_append_cf1ce_24 rfl ?_
  refine G_aload_n 1 dr_cJ5_append_cf1ce_25 rfl ?_
  refine Gp_get 3 hmq655958 heq655958 dr_cJ5_append_cf1ce_26 (gk_J4 D I) (Nat.le_of_ble_eq_true rfl) wr_7_64 rfl ?_
  refine G_aload_n 2 dr_cJ5_append_cf1ce_29 rfl ?_
  refine Gw_callVB (As := [.int p655963, .ref q655959]) (gV_ok D I) (cp_656035_AbstractStringBuilder_putStringAt l hl0 D I P655956 F655957 q655958 q655959 q655960 q655961 p655963 p655962 p655963 p655964 p655965 f655966 n655967 f655968 n655969 hmq655958 hmq655959 hmq655960 hmq655961 heq655958 heq655959 heq655960 heq655961 hneq655960q655961 bp655963 bp655962 bp655963 bp655965 bf655966 bf655968 (by have qa0 : Int32.toInt 0 = 0 := (by decide); omega) (by have qa0 : Int32.toInt 0 = 0 := (by decide); omega) (by have qa0 : Int32.toInt 0 = 0 := (by decide); omega)) dr_cJ5_append_cf1ce_30 ⟨wr_8_155, wr_1_19, wr_8_158, by decide, rfl, (Nat.le_of_ble_eq_true rfl), (Nat.le_of_ble_eq_true rfl)⟩ wr_8_157 wr_s_4 hmq655958 heq655958 rfl (show 0 + 0 ≤ 0 by first | omega | decide) (show 0 + 0 ≤ 0 by first | omega | decide) (Nat.le_of_ble_eq_true rfl) (fun r656120 w656121 dc656117 ds656118 hp656119 => ?_) (fun _ _ _ _ _ z => z.elim)
  obtain ⟨F656126, f656122, rfl, rfl, hfr656128, he656129, he656130, he656131, he656132, hdc, hds, bf656122, x656123, x656124, ht656125⟩ := hp656119
  have hfr656133 : rFr [q655960] P655956 F655957 F656126 := rFr_call (rSub_rf (P := P655956)) (rFr_rf (W := []) (P := P655956) (F := F655957)) hfr656128 (fun b hb hn => ⟨nm_n, (nm_c (fun e => hn (e ▸ List.mem_cons_self)) nm_n)⟩)
  change G _ _ _ _ _ _ _ _ _ _ _
  refine G_widen (cs' := 0) (sl' := 0) (by omega) (by omega) ?_
  refine G_aload_n 1 dr_cJ5_append_cf1ce_33 rfl ?_
  refine G_dup dr_cJ5_append_cf1ce_34 rfl ?_
  refine Gp_get 3 hmq655958 he656129 dr_cJ5_append_cf1ce_35 (gk_J4 D I) (Nat.le_of_ble_eq_true rfl) wr_7_64 rfl ?_
  refine G_iload_n 0 dr_cJ5_append_cf1ce_38 rfl ?_
  refine G_iadd dr_cJ5_append_cf1ce_39 (G_nam fun z656134 hz656134 => ?_)
  have ez656134 : z656134.toInt = p655963.toInt + o656007.toInt := by rw [gI_add hz656134 bp655963 bo656007 (by decide) (by decide)]
  have bz656134 : gB z656134 0 33554432 := gB_add (gI_add hz656134 bp655963 bo656007 (by decide) (by decide)) bp655963 bo656007 (by decide) (by decide)
  refine Gp_put 3 hmq655958 he656129 dr_cJ5_append_cf1ce_40 (gk_J4 D I) (Nat.le_of_ble_eq_true rfl) wr_7_64 rfl rfl rfl (Nat.le_of_ble_eq_true rfl) (fun F656135 e656136 n656137 => ?_)
  have he656138 : F656135 q655959 = .inr (0, [.ref q655961, .int 0, .int p655964, .int p655965]) := (n656137 q655959 (rn_oo he656130 he656129 (by decide))).trans he656130
  have he656139 : F656135 q655960 = .inl (I .byte, n655967, .inl f656122) := (n656137 q655960 (rn_ao he656131 he656129)).trans he656131
  have he656140 : F656135 q655961 = .inl (I .byte, n655969, .inl f655968) := (n656137 q655961 (rn_ao he656132 he656129)).trans he656132
  have he656141 : F656135 q655958 = .inr (1, [.ref q655960, .int 0, .int p655962, .int z656134]) := e656136
  have hfr656142 : rFr [q655958, q655960] P655956 F655957 F656135 := rFr_put hfr656133 n656137
  refine G_aload_n 1 dr_cJ5_append_cf1ce_43 rfl ?_
  exact G_aretA (FieldType.object "java/lang/AbstractStringBuilder") dr_cJ5_append_cf1ce_44 rfl (by first | exact Or.inl ⟨_, rfl⟩ | exact Or.inr ⟨_, rfl⟩) (Or.inr ⟨_, rfl⟩) (Nat.le_of_ble_eq_true rfl) (Nat.le_of_ble_eq_true rfl) ⟨F656135, z656134, f656122, rfl, rfl, hfr656142, he656141, he656138, he656139, he656140, (Nat.le_of_ble_eq_true rfl), (Nat.le_of_ble_eq_true rfl), ⟨by omega, by omega⟩, bf656122, (by have qa0 : Int32.toInt 0 = 0 := (by decide); omega), (sK_c x656123 (by omega)), (by assumption), (fun R c1 => c1 o656007 z656010 f656122 z656134 bo656007 ht656009 ez656010 ht656016 ht656125 ez656134)⟩
/- tr_RStringBuilder_append3: a.0...count, a.0.value.[] -/
def tr_RStringBuilder_append3 (a0_count : Int32) (a0_value_v : Nat → Int32) (a0_value_n : Nat) (a1_value_v : Nat → Int32) (a1_value_n : Nat) (o1 : Int32) (o2 : Nat → Int32) : Prop := ∀ R : (Int32) → (Nat → Int32) → Prop,
  (∀ (x1 : Int32) (x2 : Nat → Int32), gB x1 0 16777216 → tr_RAbstractStringBuilder_append3 a0_count a0_value_v a0_value_n a1_value_v a1_value_n x1 x2 → R x1 x2) →
  R o1 o2
