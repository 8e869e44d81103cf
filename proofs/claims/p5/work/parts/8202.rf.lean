theorem dr_cJ5_setLength_d00df_0 : decode cJ5_setLength_d00df 0 = .ok (.iload_n 1, 1) := by decide +kernel
theorem dr_cJ5_setLength_d00df_1 : decode cJ5_setLength_d00df 1 = .ok (.ifCond .ge 12, 3) := by decide +kernel
theorem dr_cJ5_setLength_d00df_13 : decode cJ5_setLength_d00df 13 = .ok (.aload_n 0, 1) := by decide +kernel
theorem dr_cJ5_setLength_d00df_14 : decode cJ5_setLength_d00df 14 = .ok (.iload_n 1, 1) := by decide +kernel
theorem dr_cJ5_setLength_d00df_15 : decode cJ5_setLength_d00df 15 = .ok (.invokevirtual 100, 3) := by decide +kernel
theorem dr_cJ5_setLength_d00df_18 : decode cJ5_setLength_d00df 18 = .ok (.aload_n 0, 1) := by decide +kernel
theorem dr_cJ5_setLength_d00df_19 : decode cJ5_setLength_d00df 19 = .ok (.getfield 79, 3) := by decide +kernel
theorem dr_cJ5_setLength_d00df_22 : decode cJ5_setLength_d00df 22 = .ok (.iload_n 1, 1) := by decide +kernel
theorem dr_cJ5_setLength_d00df_23 : decode cJ5_setLength_d00df 23 = .ok (.if_icmp .ge 40, 3) := by decide +kernel
theorem dr_cJ5_setLength_d00df_63 : decode cJ5_setLength_d00df 63 = .ok (.aload_n 0, 1) := by decide +kernel
theorem dr_cJ5_setLength_d00df_64 : decode cJ5_setLength_d00df 64 = .ok (.getfield 79, 3) := by decide +kernel
theorem dr_cJ5_setLength_d00df_67 : decode cJ5_setLength_d00df 67 = .ok (.iload_n 1, 1) := by decide +kernel
theorem dr_cJ5_setLength_d00df_68 : decode cJ5_setLength_d00df 68 = .ok (.if_icmp .le 8, 3) := by decide +kernel
theorem dr_cJ5_setLength_d00df_76 : decode cJ5_setLength_d00df 76 = .ok (.aload_n 0, 1) := by decide +kernel
theorem dr_cJ5_setLength_d00df_77 : decode cJ5_setLength_d00df 77 = .ok (.iload_n 1, 1) := by decide +kernel
theorem dr_cJ5_setLength_d00df_78 : decode cJ5_setLength_d00df 78 = .ok (.putfield 79, 3) := by decide +kernel
theorem dr_cJ5_setLength_d00df_81 : decode cJ5_setLength_d00df 81 = .ok (.return_, 1) := by decide +kernel
theorem dr_cJ5_setLength_d00df_71 : decode cJ5_setLength_d00df 71 = .ok (.aload_n 0, 1) := by decide +kernel
theorem dr_cJ5_setLength_d00df_72 : decode cJ5_setLength_d00df 72 = .ok (.iconst 1, 1) := by decide +kernel
theorem dr_cJ5_setLength_d00df_73 : decode cJ5_setLength_d00df 73 = .ok (.putfield 73, 3) := by decide +kernel
theorem wr_7_62 : (Jvm.Cond.fieldLink "java/lang/AbstractStringBuilder" (73 : Nat) "java/lang/AbstractStringBuilder" "maybeLatin1" "Z") ∈ gw := gw_7 62 rfl rfl
theorem dr_cJ4_setLength_d00df_0 : decode cJ4_setLength_d00df 0 = .ok (.aload_n 0, 1) := by decide +kernel
theorem dr_cJ4_setLength_d00df_1 : decode cJ4_setLength_d00df 1 = .ok (.iload_n 1, 1) := by decide +kernel
theorem dr_cJ4_setLength_d00df_2 : decode cJ4_setLength_d00df 2 = .ok (.invokespecial 333, 3) := by decide +kernel
theorem wr_11_125 : (Jvm.Cond.methodLink "java/lang/StringBuilder" (333 : Nat) ({ cls := "java/lang/AbstractStringBuilder", name := "setLength", desc := "(I)V" } : Jvm.MethodName)) ∈ gw := gw_11 125 rfl rfl
theorem wr_11_127 : (Jvm.Cond.code ({ cls := "java/lang/AbstractStringBuilder", name := "setLength", desc := "(I)V" } : Jvm.MethodName) prog_21_method_13_code (2 : Nat) (Option.none : Option Jvm.ClassFile.FieldType)) ∈ gw := gw_11 127 rfl rfl
theorem wr_11_126 : (Jvm.Cond.instanceMethod ({ cls := "java/lang/AbstractStringBuilder", name := "setLength", desc := "(I)V" } : Jvm.MethodName)) ∈ gw := gw_11 126 rfl rfl
theorem wr_11_229 : (Jvm.Cond.sameMethod "java/lang/AbstractStringBuilder" "java/lang/AbstractStringBuilder" "setLength" "(I)V") ∈ gw := gw_11 229 rfl rfl
theorem dr_cJ4_setLength_d00df_5 : decode cJ4_setLength_d00df 5 = .ok (.return_, 1) := by decide +kernel
theorem dr_cJ5_init_d00df_0 : decode cJ5_init_d00df 0 = .ok (.aload_n 0, 1) := by decide +kernel
theorem dr_cJ5_init_d00df_1 : decode cJ5_init_d00df 1 = .ok (.invokespecial 3, 3) := by decide +kernel
theorem wr_7_51 : (Jvm.Cond.methodLink "java/lang/AbstractStringBuilder" (3 : Nat) ({ cls := "java/lang/Object", name := "<init>", desc := "()V" } : Jvm.MethodName)) ∈ gw := gw_7 51 rfl rfl
theorem dr_cJ5_init_d00df_4 : decode cJ5_init_d00df 4 = .ok (.getstatic 18, 3) := by decide +kernel
theorem dr_cJ5_init_d00df_7 : decode cJ5_init_d00df 7 = .ok (.ifCond .eq 18, 3) := by decide +kernel
theorem dr_cJ5_init_d00df_10 : decode cJ5_init_d00df 10 = .ok (.aload_n 0, 1) := by decide +kernel
theorem dr_cJ5_init_d00df_11 : decode cJ5_init_d00df 11 = .ok (.iload_n 1, 1) := by decide +kernel
theorem dr_cJ5_init_d00df_12 : decode cJ5_init_d00df 12 = .ok (.newarray .byte, 2) := by decide +kernel
theorem dr_cJ5_init_d00df_14 : decode cJ5_init_d00df 14 = .ok (.putfield 15, 3) := by decide +kernel
theorem dr_cJ5_init_d00df_17 : decode cJ5_init_d00df 17 = .ok (.aload_n 0, 1) := by decide +kernel
theorem dr_cJ5_init_d00df_18 : decode cJ5_init_d00df 18 = .ok (.iconst 0, 1) := by decide +kernel
theorem dr_cJ5_init_d00df_19 : decode cJ5_init_d00df 19 = .ok (.putfield 22, 3) := by decide +kernel
theorem dr_cJ5_init_d00df_22 : decode cJ5_init_d00df 22 = .ok (.goto 16, 3) := by decide +kernel
theorem dr_cJ5_init_d00df_38 : decode cJ5_init_d00df 38 = .ok (.return_, 1) := by decide +kernel
theorem dr_cJ4_init_da8c8_0 : decode cJ4_init_da8c8 0 = .ok (.aload_n 0, 1) := by decide +kernel
theorem dr_cJ4_init_da8c8_1 : decode cJ4_init_da8c8 1 = .ok (.bipush 16, 2) := by decide +kernel
theorem dr_cJ4_init_da8c8_3 : decode cJ4_init_da8c8 3 = .ok (.invokespecial 1, 3) := by decide +kernel
theorem wr_7_48 : (Jvm.Cond.methodLink "java/lang/StringBuilder" (1 : Nat) ({ cls := "java/lang/AbstractStringBuilder", name := "<init>", desc := "(I)V" } : Jvm.MethodName)) ∈ gw := gw_7 48 rfl rfl
theorem wr_7_50 : (Jvm.Cond.code ({ cls := "java/lang/AbstractStringBuilder", name := "<init>", desc := "(I)V" } : Jvm.MethodName) prog_21_method_2_code (2 : Nat) (Option.none : Option Jvm.ClassFile.FieldType)) ∈ gw := gw_7 50 rfl rfl
theorem wr_7_49 : (Jvm.Cond.instanceMethod ({ cls := "java/lang/AbstractStringBuilder", name := "<init>", desc := "(I)V" } : Jvm.MethodName)) ∈ gw := gw_7 49 rfl rfl
theorem dr_cJ4_init_da8c8_6 : decode cJ4_init_da8c8 6 = .ok (.return_, 1) := by decide +kernel
theorem dr_cJ0_coder_7d493_0 : decode cJ0_coder_7d493 0 = .ok (.getstatic 38, 3) := by decide +kernel
theorem wr_3_65 : (Jvm.Cond.fieldLink "java/lang/String" (38 : Nat) "java/lang/String" "COMPACT_STRINGS" "Z") ∈ gw := gw_3 65 rfl rfl
theorem dr_cJ0_coder_7d493_3 : decode cJ0_coder_7d493 3 = .ok (.ifCond .eq 10, 3) := by decide +kernel
theorem dr_cJ0_coder_7d493_6 : decode cJ0_coder_7d493 6 = .ok (.aload_n 0, 1) := by decide +kernel
theorem dr_cJ0_coder_7d493_7 : decode cJ0_coder_7d493 7 = .ok (.getfield 15, 3) := by decide +kernel
theorem wr_8_179 : (Jvm.Cond.fieldLink "java/lang/String" (15 : Nat) "java/lang/String" "coder" "B") ∈ gw := gw_8 179 rfl rfl
theorem dr_cJ0_coder_7d493_10 : decode cJ0_coder_7d493 10 = .ok (.goto 4, 3) := by decide +kernel
theorem dr_cJ0_coder_7d493_14 : decode cJ0_coder_7d493 14 = .ok (.ireturn, 1) := by decide +kernel
theorem dr_cJ0_length_8abf5_0 : decode cJ0_length_8abf5 0 = .ok (.aload_n 0, 1) := by decide +kernel
theorem dr_cJ0_length_8abf5_1 : decode cJ0_length_8abf5 1 = .ok (.getfield 9, 3) := by decide +kernel
theorem wr_8_178 : (Jvm.Cond.fieldLink "java/lang/String" (9 : Nat) "java/lang/String" "value" "[B") ∈ gw := gw_8 178 rfl rfl
theorem dr_cJ0_length_8abf5_4 : decode cJ0_length_8abf5 4 = .ok (.arraylength, 1) := by decide +kernel
theorem dr_cJ0_length_8abf5_5 : decode cJ0_length_8abf5 5 = .ok (.aload_n 0, 1) := by decide +kernel
theorem dr_cJ0_length_8abf5_6 : decode cJ0_length_8abf5 6 = .ok (.invokevirtual 335, 3) := by decide +kernel
theorem wr_3_61 : (Jvm.Cond.methodLink "java/lang/String" (335 : Nat) ({ cls := "java/lang/String", name := "coder", desc := "()B" } : Jvm.MethodName)) ∈ gw := gw_3 61 rfl rfl
theorem wr_3_64 : (Jvm.Cond.code ({ cls := "java/lang/String", name := "coder", desc := "()B" } : Jvm.MethodName) prog_34_method_152_code (1 : Nat) (Option.some Jvm.ClassFile.FieldType.byte)) ∈ gw := gw_3 64 rfl rfl
theorem wr_3_62 : (Jvm.Cond.instanceMethod ({ cls := "java/lang/String", name := "coder", desc := "()B" } : Jvm.MethodName)) ∈ gw := gw_3 62 rfl rfl
theorem wr_3_63 : (Jvm.Cond.selects "java/lang/String" ({ cls := "java/lang/String", name := "coder", desc := "()B" } : Jvm.MethodName) ({ cls := "java/lang/String", name := "coder", desc := "()B" } : Jvm.MethodName)) ∈ gw := gw_3 63 rfl rfl
theorem dr_cJ0_length_8abf5_9 : decode cJ0_length_8abf5 9 = .ok (.ishr, 1) := by decide +kernel
theorem dr_cJ0_length_8abf5_10 : decode cJ0_length_8abf5 10 = .ok (.ireturn, 1) := by decide +kernel
theorem dr_cJ5_inflateIfNeededFor_a7421_0 : decode cJ5_inflateIfNeededFor_a7421 0 = .ok (.getstatic 18, 3) := by decide +kernel
theorem dr_cJ5_inflateIfNeededFor_a7421_3 : decode cJ5_inflateIfNeededFor_a7421 3 = .ok (.ifCond .eq 18, 3) := by decide +kernel
theorem dr_cJ5_inflateIfNeededFor_a7421_6 : decode cJ5_inflateIfNeededFor_a7421 6 = .ok (.aload_n 0, 1) := by decide +kernel
theorem dr_cJ5_inflateIfNeededFor_a7421_7 : decode cJ5_inflateIfNeededFor_a7421 7 = .ok (.getfield 22, 3) := by decide +kernel
theorem dr_cJ5_inflateIfNeededFor_a7421_10 : decode cJ5_inflateIfNeededFor_a7421 10 = .ok (.aload_n 1, 1) := by decide +kernel
theorem dr_cJ5_inflateIfNeededFor_a7421_11 : decode cJ5_inflateIfNeededFor_a7421 11 = .ok (.invokevirtual 40, 3) := by decide +kernel
theorem wr_8_159 : (Jvm.Cond.methodLink "java/lang/AbstractStringBuilder" (40 : Nat) ({ cls := "java/lang/String", name := "coder", desc := "()B" } : Jvm.MethodName)) ∈ gw := gw_8 159 rfl rfl
theorem dr_cJ5_inflateIfNeededFor_a7421_14 : decode cJ5_inflateIfNeededFor_a7421 14 = .ok (.if_icmp .eq 7, 3) := by decide +kernel
theorem dr_cJ5_inflateIfNeededFor_a7421_21 : decode cJ5_inflateIfNeededFor_a7421 21 = .ok (.return_, 1) := by decide +kernel
theorem dr_cJ0_getBytes_840e7_0 : decode cJ0_getBytes_840e7 0 = .ok (.aload_n 0, 1) := by decide +kernel
theorem dr_cJ0_getBytes_840e7_1 : decode cJ0_getBytes_840e7 1 = .ok (.invokevirtual 335, 3) := by decide +kernel
theorem dr_cJ0_getBytes_840e7_4 : decode cJ0_getBytes_840e7 4 = .ok (.iload_n 3, 1) := by decide +kernel
theorem dr_cJ0_getBytes_840e7_5 : decode cJ0_getBytes_840e7 5 = .ok (.if_icmp .ne 23, 3) := by decide +kernel
theorem dr_cJ0_getBytes_840e7_8 : decode cJ0_getBytes_840e7 8 = .ok (.aload_n 0, 1) := by decide +kernel
theorem dr_cJ0_getBytes_840e7_9 : decode cJ0_getBytes_840e7 9 = .ok (.getfield 9, 3) := by decide +kernel
theorem dr_cJ0_getBytes_840e7_12 : decode cJ0_getBytes_840e7 12 = .ok (.iconst 0, 1) := by decide +kernel
theorem dr_cJ0_getBytes_840e7_13 : decode cJ0_getBytes_840e7 13 = .ok (.aload_n 1, 1) := by decide +kernel
theorem dr_cJ0_getBytes_840e7_14 : decode cJ0_getBytes_840e7 14 = .ok (.iload_n 2, 1) := by decide +kernel
theorem dr_cJ0_getBytes_840e7_15 : decode cJ0_getBytes_840e7 15 = .ok (.iload_n 3, 1) := by decide +kernel
theorem dr_cJ0_getBytes_840e7_16 : decode cJ0_getBytes_840e7 16 = .ok (.ishl, 1) := by decide +kernel
theorem dr_cJ0_getBytes_840e7_17 : decode cJ0_getBytes_840e7 17 = .ok (.aload_n 0, 1) := by decide +kernel
theorem dr_cJ0_getBytes_840e7_18 : decode cJ0_getBytes_840e7 18 = .ok (.getfield 9, 3) := by decide +kernel
theorem dr_cJ0_getBytes_840e7_21 : decode cJ0_getBytes_840e7 21 = .ok (.arraylength, 1) := by decide +kernel
theorem dr_cJ0_getBytes_840e7_22 : decode cJ0_getBytes_840e7 22 = .ok (.invokestatic 212, 3) := by decide +kernel
theorem wr_8_164 : (Jvm.Cond.methodLink "java/lang/String" (212 : Nat) ({ cls := "java/lang/System", name := "arraycopy", desc := "(Ljava/lang/Object;ILjava/lang/Object;II)V" } : Jvm.MethodName)) ∈ gw := gw_8 164 rfl rfl
theorem dr_cJ0_getBytes_840e7_25 : decode cJ0_getBytes_840e7 25 = .ok (.goto 18, 3) := by decide +kernel
theorem dr_cJ0_getBytes_840e7_43 : decode cJ0_getBytes_840e7 43 = .ok (.return_, 1) := by decide +kernel
theorem dr_cJ5_putStringAt_47b60_0 : decode cJ5_putStringAt_47b60 0 = .ok (.aload_n 0, 1) := by decide +kernel
theorem dr_cJ5_putStringAt_47b60_1 : decode cJ5_putStringAt_47b60 1 = .ok (.aload_n 2, 1) := by decide +kernel
theorem dr_cJ5_putStringAt_47b60_2 : decode cJ5_putStringAt_47b60 2 = .ok (.invokevirtual 397, 3) := by decide +kernel
theorem wr_8_155 : (Jvm.Cond.methodLink "java/lang/AbstractStringBuilder" (397 : Nat) ({ cls := "java/lang/AbstractStringBuilder", name := "inflateIfNeededFor", desc := "(Ljava/lang/String;)V" } : Jvm.MethodName)) ∈ gw := gw_8 155 rfl rfl
theorem wr_8_158 : (Jvm.Cond.code ({ cls := "java/lang/AbstractStringBuilder", name := "inflateIfNeededFor", desc := "(Ljava/lang/String;)V" } : Jvm.MethodName) prog_21_method_71_code (2 : Nat) (Option.none : Option Jvm.ClassFile.FieldType)) ∈ gw := gw_8 158 rfl rfl
theorem wr_8_157 : (Jvm.Cond.instanceMethod ({ cls := "java/lang/AbstractStringBuilder", name := "inflateIfNeededFor", desc := "(Ljava/lang/String;)V" } : Jvm.MethodName)) ∈ gw := gw_8 157 rfl rfl
theorem wr_s_5 : Cond.selects "java/lang/StringBuilder" ⟨"java/lang/AbstractStringBuilder", "inflateIfNeededFor", "(Ljava/lang/String;)V"⟩ ⟨"java/lang/AbstractStringBuilder", "inflateIfNeededFor", "(Ljava/lang/String;)V"⟩ ∈ gw := gw_s _ 5 rfl rfl rfl
theorem dr_cJ5_putStringAt_47b60_5 : decode cJ5_putStringAt_47b60 5 = .ok (.aload_n 2, 1) := by decide +kernel
theorem dr_cJ5_putStringAt_47b60_6 : decode cJ5_putStringAt_47b60 6 = .ok (.aload_n 0, 1) := by decide +kernel
theorem dr_cJ5_putStringAt_47b60_7 : decode cJ5_putStringAt_47b60 7 = .ok (.getfield 15, 3) := by decide +kernel
theorem dr_cJ5_putStringAt_47b60_10 : decode cJ5_putStringAt_47b60 10 = .ok (.iload_n 1, 1) := by decide +kernel
theorem dr_cJ5_putStringAt_47b60_11 : decode cJ5_putStringAt_47b60 11 = .ok (.aload_n 0, 1) := by decide +kernel
theorem dr_cJ5_putStringAt_47b60_12 : decode cJ5_putStringAt_47b60 12 = .ok (.getfield 22, 3) := by decide +kernel
theorem dr_cJ5_putStringAt_47b60_15 : decode cJ5_putStringAt_47b60 15 = .ok (.invokevirtual 399, 3) := by decide +kernel
theorem wr_8_160 : (Jvm.Cond.methodLink "java/lang/AbstractStringBuilder" (399 : Nat) ({ cls := "java/lang/String", name := "getBytes", desc := "([BIB)V" } : Jvm.MethodName)) ∈ gw := gw_8 160 rfl rfl
theorem wr_8_163 : (Jvm.Cond.code ({ cls := "java/lang/String", name := "getBytes", desc := "([BIB)V" } : Jvm.MethodName) prog_34_method_147_code (4 : Nat) (Option.none : Option Jvm.ClassFile.FieldType)) ∈ gw := gw_8 163 rfl rfl
theorem wr_8_161 : (Jvm.Cond.instanceMethod ({ cls := "java/lang/String", name := "getBytes", desc := "([BIB)V" } : Jvm.MethodName)) ∈ gw := gw_8 161 rfl rfl
theorem wr_8_162 : (Jvm.Cond.selects "java/lang/String" ({ cls := "java/lang/String", name := "getBytes", desc := "([BIB)V" } : Jvm.MethodName) ({ cls := "java/lang/String", name := "getBytes", desc := "([BIB)V" } : Jvm.MethodName)) ∈ gw := gw_8 162 rfl rfl
theorem dr_cJ5_putStringAt_47b60_18 : decode cJ5_putStringAt_47b60 18 = .ok (.return_, 1) := by decide +kernel
theorem dr_cJ5_append_cf1ce_0 : decode cJ5_append_cf1ce 0 = .ok (.aload_n 1, 1) := by decide +kernel
theorem dr_cJ5_append_cf1ce_1 : decode cJ5_append_cf1ce 1 = .ok (.ifnonnull 8, 3) := by decide +kernel
theorem dr_cJ5_append_cf1ce_9 : decode cJ5_append_cf1ce 9 = .ok (.aload_n 1, 1) := by decide +kernel
theorem dr_cJ5_append_cf1ce_10 : decode cJ5_append_cf1ce 10 = .ok (.invokevirtual 32, 3) := by decide +kernel
theorem wr_8_150 : (Jvm.Cond.methodLink "java/lang/AbstractStringBuilder" (32 : Nat) ({ cls := "java/lang/String", name := "length", desc := "()I" } : Jvm.MethodName)) ∈ gw := gw_8 150 rfl rfl
theorem wr_3_60 : (Jvm.Cond.code ({ cls := "java/lang/String", name := "length", desc := "()I" } : Jvm.MethodName) prog_34_method_54_code (1 : Nat) (Option.some Jvm.ClassFile.FieldType.int)) ∈ gw := gw_3 60 rfl rfl
theorem wr_3_58 : (Jvm.Cond.instanceMethod ({ cls := "java/lang/String", name := "length", desc := "()I" } : Jvm.MethodName)) ∈ gw := gw_3 58 rfl rfl
theorem wr_3_59 : (Jvm.Cond.selects "java/lang/String" ({ cls := "java/lang/String", name := "length", desc := "()I" } : Jvm.MethodName) ({ cls := "java/lang/String", name := "length", desc := "()I" } : Jvm.MethodName)) ∈ gw := gw_3 59 rfl rfl
theorem dr_cJ5_append_cf1ce_13 : decode cJ5_append_cf1ce 13 = .ok (.istore_n 2, 1) := by decide +kernel
theorem dr_cJ5_append_cf1ce_14 : decode cJ5_append_cf1ce 14 = .ok (.aload_n 0, 1) := by decide +kernel
theorem dr_cJ5_append_cf1ce_15 : decode cJ5_append_cf1ce 15 = .ok (.aload_n 0, 1) := by decide +kernel
theorem dr_cJ5_append_cf1ce_16 : decode cJ5_append_cf1ce 16 = .ok (.getfield 79, 3) := by decide +kernel
theorem dr_cJ5_append_cf1ce_19 : decode cJ5_append_cf1ce 19 = .ok (.iload_n 2, 1) := by decide +kernel
theorem dr_cJ5_append_cf1ce_20 : decode cJ5_append_cf1ce 20 = .ok (.iadd, 1) := by decide +kernel
theorem dr_cJ5_append_cf1ce_21 : decode cJ5_append_cf1ce 21 = .ok (.invokevirtual 100, 3) := by decide +kernel
theorem dr_cJ5_append_cf1ce_24 : decode cJ5_append_cf1ce 24 = .ok (.aload_n 0, 1) := by decide +kernel
theorem dr_cJ5_append_cf1ce_25 : decode cJ5_append_cf1ce 25 = .ok (.aload_n 0, 1) := by decide +kernel
theorem dr_cJ5_append_cf1ce_26 : decode cJ5_append_cf1ce 26 = .ok (.getfield 79, 3) := by decide +kernel
theorem dr_cJ5_append_cf1ce_29 : decode cJ5_append_cf1ce 29 = .ok (.aload_n 1, 1) := by decide +kernel
theorem dr_cJ5_append_cf1ce_30 : decode cJ5_append_cf1ce 30 = .ok (.invokevirtual 208, 3) := by decide +kernel
theorem wr_8_151 : (Jvm.Cond.methodLink "java/lang/AbstractStringBuilder" (208 : Nat) ({ cls := "java/lang/AbstractStringBuilder", name := "putStringAt", desc := "(ILjava/lang/String;)V" } : Jvm.MethodName)) ∈ gw := gw_8 151 rfl rfl
theorem wr_8_154 : (Jvm.Cond.code ({ cls := "java/lang/AbstractStringBuilder", name := "putStringAt", desc := "(ILjava/lang/String;)V" } : Jvm.MethodName) prog_21_method_73_code (3 : Nat) (Option.none : Option Jvm.ClassFile.FieldType)) ∈ gw := gw_8 154 rfl rfl
theorem wr_8_153 : (Jvm.Cond.instanceMethod ({ cls := "java/lang/AbstractStringBuilder", name := "putStringAt", desc := "(ILjava/lang/String;)V" } : Jvm.MethodName)) ∈ gw := gw_8 153 rfl rfl
theorem wr_s_4 : Cond.selects "java/lang/StringBuilder" ⟨"java/lang/AbstractStringBuilder", "putStringAt", "(ILjava/lang/String;)V"⟩ ⟨"java/lang/AbstractStringBuilder", "putStringAt", "(ILjava/lang/String;)V"⟩ ∈ gw := gw_s _ 4 rfl rfl rfl
theorem dr_cJ5_append_cf1ce_33 : decode cJ5_append_cf1ce 33 = .ok (.aload_n 0, 1) := by decide +kernel
theorem dr_cJ5_append_cf1ce_34 : decode cJ5_append_cf1ce 34 = .ok (.dup, 1) := by decide +kernel
theorem dr_cJ5_append_cf1ce_35 : decode cJ5_append_cf1ce 35 = .ok (.getfield 79, 3) := by decide +kernel
theorem dr_cJ5_append_cf1ce_38 : decode cJ5_append_cf1ce 38 = .ok (.iload_n 2, 1) := by decide +kernel
theorem dr_cJ5_append_cf1ce_39 : decode cJ5_append_cf1ce 39 = .ok (.iadd, 1) := by decide +kernel
theorem dr_cJ5_append_cf1ce_40 : decode cJ5_append_cf1ce 40 = .ok (.putfield 79, 3) := by decide +kernel
theorem dr_cJ5_append_cf1ce_43 : decode cJ5_append_cf1ce 43 = .ok (.aload_n 0, 1) := by decide +kernel
theorem dr_cJ5_append_cf1ce_44 : decode cJ5_append_cf1ce 44 = .ok (.areturn, 1) := by decide +kernel
abbrev ky_640120_AbstractStringBuilder_append : gKey := (cJ5_append_3fe6f, 2, "java/lang/AbstractStringBuilder", (some (FieldType.object "java/lang/AbstractStringBuilder")), [], "append", fun _ _ => True)
def pp_640120_AbstractStringBuilder_append (D : va_G) (I : FieldType → ClassId) (P640108 : List Nat) (F640109 : Nat → va_E) (q640110 : Nat) (q640111 : Nat) (p640112 : Int32) (p640113 : Int32) (p640114 : Int32) (f640115 : Nat → Int32) (n640116 : Nat) : Option Value → va_W → Nat → Nat → Prop := fun r w dc ds => ∃ (P640310 : List Nat) (F640311 : Nat → va_E) (o640306 : Int32) (q640307 : Nat) (n640308 : Nat) (f640309 : Nat → Int32), r = some (.ref q640110) ∧ w = va_pl P640310 F640311 ∧ rSub P640108 P640310 ∧ rFr [q640111, q640110] P640108 F640109 F640311 ∧ F640311 q640110 = .inr (1, [.ref q640307, .int 0, .int p640113, .int o640306]) ∧ F640311 q640307 = .inl (I .byte, n640308, .inl f640309) ∧ q640307 ∈ P640310 ∧ (q640307 = q640111 ∨ q640307 ∉ P640108) ∧ dc ≤ 1 ∧ ds ≤ 2 * (n640308 - n640116) ∧ gB o640306 1 16777216 ∧ gF f640309 (-128) 127 ∧ o640306.toInt = p640114.toInt + 1 ∧ o640306.toInt ≤ (n640308 : Int) ∧ (n640116 : Int) ≤ (n640308 : Int) ∧ (n640308 : Int) ≤ 2 * (n640116 : Int) + 2
set_option maxRecDepth 100000 in
set_option maxHeartbeats 4000000 in
theorem cp_640120_AbstractStringBuilder_append (l : Launch) (hl0 : l.stackTraces = false) (D : va_G) (I : FieldType → ClassId) (P640108 : List Nat) (F640109 : Nat → va_E) (q640110 : Nat) (q640111 : Nat) (p640112 : Int32) (p640113 : Int32) (p640114 : Int32) (f640115 : Nat → Int32) (n640116 : Nat) (hmq640110 : q640110 ∈ P640108) (hmq640111 : q640111 ∈ P640108) (heq640110 : F640109 q640110 = .inr (1, [.ref q640111, .int 0, .int p640113, .int p640114])) (heq640111 : F640109 q640111 = .inl (I .byte, n640116, .inl f640115)) (bp640112 : gB p640112 0 255) (bp640113 : gB p640113 0 1) (bp640114 : gB p640114 0 16777216) (bf640115 : gF f640115 (-128) 127) (x640117 : (n640116 : Int) ≤ 8388608 - 100000) (x640118 : p640114.toInt ≤ (n640116 : Int)) (x640119 : ((n640116 : Int) ≤ 16777216)) : CtA (gV D I) l yJ5_append_3fe6f cJ5_append_3fe6f 2 (some (FieldType.object "java/lang/AbstractStringBuilder")) 4 84 1 (4 * n640116 + 8) [.ref q640110, .int p640112] (va_pl P640108 F640109) (pp_640120_AbstractStringBuilder_append D I P640108 F640109 q640110 q640111 p640112 p640113 p640114 f640115 n640116) gNA := by
  refine CtA_ofF hl0 (by decide +kernel) (Nat.le_of_ble_eq_true rfl) ?_
  refine G_aload_n 0 dr_cJ5_append_3fe6f_0 rfl ?_
  refine G_aload_n 0 dr_cJ5_append_3fe6f_1 rfl ?_
  refine Gp_get 3 hmq640110 heq640110 dr_cJ5_append_3fe6f_2 (gk_J4 D I) (Nat.le_of_ble_eq_true rfl) wr_7_64 rfl ?_
  refine G_iconst 1 dr_cJ5_append_3fe6f_5 (by decide +kernel) ?_
  refine G_iadd dr_cJ5_append_3fe6f_6 (G_nam fun z640121 hz640121 => ?_)
  have ez640121 : z640121.toInt = p640114.toInt + 1 := by rw [gI_add hz640121 bp640114 (gBl (show Int32.toInt 1 = 1 by decide)) (by decide) (by decide), show Int32.toInt 1 = 1 from by decide]
  have bz640121 : gB z640121 1 16777217 := gB_add (gI_add hz640121 bp640114 (gBl (show Int32.toInt 1 = 1 by decide)) (by decide) (by decide)) bp640114 (gBl (show Int32.toInt 1 = 1 by decide)) (by decide) (by decide)
  refine Gw_callVB (As := [.int z640121]) (gV_ok D I) (cp_640133_AbstractStringBuilder_ensureCapacityInternal l hl0 D I P640108 F640109 q640110 q640111 z640121 p640113 p640114 f640115 n640116 hmq640110 hmq640111 heq640110 heq640111 ⟨by omega, by omega⟩ bp640113 bp640114 bf640115 (by have qa0 : Int32.toInt 0 = 0 := (by decide); omega) (by have qa0 : Int32.toInt 0 = 0 := (by decide); omega)) dr_cJ5_append_3fe6f_7 ⟨wr_8_0, wr_1_19, wr_8_3, by decide, rfl, (Nat.le_of_ble_eq_true rfl), (Nat.le_of_ble_eq_true rfl)⟩ wr_8_2 wr_s_0 hmq640110 heq640110 rfl (show 0 + 1 ≤ 1 by first | omega | decide) (show 0 + (2 * n640116 + 2 + z640121.toInt.toNat) ≤ (4 * n640116 + 8) by first | omega | decide) (Nat.le_of_ble_eq_true rfl) (fun r640253 w640254 dc640250 ds640251 hp640252 => ?_) (fun _ _ _ _ _ z => z.elim)
  obtain ⟨P640262, F640263, q640255, n640256, f640257, rfl, rfl, hsb640264, hfr640265, he640266, he640267, hm640268, hq640269, hdc, hds, bf640257, x640258, x640259, x640260, x640261⟩ := hp640252
  have hm640270 : q640110 ∈ P640262 := hsb640264 q640110 hmq640110
  have hm640271 : q640111 ∈ P640262 := hsb640264 q640111 hmq640111
  have hor640272 : q640255 = q640111 ∨ q640255 ∉ P640108 := hq640269.elim Or.inl (fun n => Or.inr (fun z => n ((rSub_rf (P := P640108)) _ z)))
  have hsb640273 : rSub P640108 P640262 := rSub_tr (rSub_rf (P := P640108)) hsb640264
  have he640274 : F640263 q640111 = .inl (I .byte, n640116, .inl f640115) := (hfr640265 q640111 hmq640111 (nm_c (rn_ao heq640111 heq640110) nm_n)).trans heq640111
  have hfr640275 : rFr [q640110] P640108 F640109 F640263 := rFr_call (rSub_rf (P := P640108)) (rFr_rf (W := []) (P := P640108) (F := F640109)) hfr640265 (fun b hb hn => ⟨nm_n, (nm_c (fun e => hn (e ▸ List.mem_cons_self)) nm_n)⟩)
  change G _ _ _ _ _ _ _ _ _ _ _
  refine G_widen (cs' := 1) (sl' := 2 * (n640256 - n640116)) (by omega) (by omega) ?_
  refine G_aload_n 0 dr_cJ5_append_3fe6f_10 rfl ?_
  refine Gw_callVB (As := []) (gV_ok D I) (cp_640037_AbstractStringBuilder_isLatin1 l hl0 D I P640262 F640263 q640110 q640255 p640113 p640114 f640257 n640256 hm640270 hm640268 he640266 he640267 bp640113 bp640114 bf640257 (by have qa0 : Int32.toInt 0 = 0 := (by decide); omega)) dr_cJ5_append_3fe6f_11 ⟨wr_8_29, wr_1_19, wr_8_33, by decide, rfl, (Nat.le_of_ble_eq_true rfl), (Nat.le_of_ble_eq_true rfl)⟩ wr_8_30 wr_8_32 hm640270 he640266 rfl (show 1 + 0 ≤ 1 by first | omega | decide) (show 2 * (n640256 - n640116) + 0 ≤ (4 * n640116 + 8) by first | omega | decide) (Nat.le_of_ble_eq_true rfl) (fun r640279 w640280 dc640276 ds640277 hp640278 => ?_) (fun _ _ _ _ _ z => z.elim)
  obtain ⟨rfl, rfl, hdc, hds⟩ := hp640278
  change G _ _ _ _ _ _ _ (.int 1 :: _) _ _ _
  refine G_widen (cs' := 1) (sl' := 2 * (n640256 - n640116) + 0) (by omega) (by omega) ?_
  refine G_if_eq 45 dr_cJ5_append_3fe6f_14 (by decide +kernel) (fun hc => absurd hc (by decide)) (fun _ => ?_)
  refine G_iload_n 1 dr_cJ5_append_3fe6f_17 rfl ?_
  refine Gw_callS (As := [.int p640112]) (gV_ok D I) (cp_640046_StringLatin1_canEncode l hl0 D I P640262 F640263 p640112 (gB_w bp640112 (by decide) (by decide))) dr_cJ5_append_3fe6f_18 ⟨wr_8_34, wr_1_28, wr_8_36, by decide, rfl, (Nat.le_of_ble_eq_true rfl), (Nat.le_of_ble_eq_true rfl)⟩ wr_8_35 (show 1 + 0 ≤ 1 by first | omega | decide) (show 2 * (n640256 - n640116) + 0 + 0 ≤ (4 * n640116 + 8) by first | omega | decide) (Nat.le_of_ble_eq_true rfl) (fun r640284 w640285 dc640281 ds640282 hp640283 => ?_) (fun _ _ _ _ _ z => z.elim)
  rcases hp640283 with ⟨rfl, rfl, hdc, hds, r640286⟩ | ⟨rfl, rfl, hdc, hds, r640287⟩
  · exact absurd (show False by omega) not_false
  · change G _ _ _ _ _ _ _ (.int 1 :: _) _ _ _
    refine G_widen (cs' := 1) (sl' := 2 * (n640256 - n640116) + 0 + 0) (by omega) (by omega) ?_
    refine G_if_eq 45 dr_cJ5_append_3fe6f_21 (by decide +kernel) (fun hc => absurd hc (by decide)) (fun _ => ?_)
    refine G_aload_n 0 dr_cJ5_append_3fe6f_24 rfl ?_
    refine Gp_get 0 hm640270 he640266 dr_cJ5_append_3fe6f_25 (gk_J4 D I) (Nat.le_of_ble_eq_true rfl) wr_7_60 rfl ?_
    refine G_aload_n 0 dr_cJ5_append_3fe6f_28 rfl ?_
    refine G_dup dr_cJ5_append_3fe6f_29 rfl ?_
    refine Gp_get 3 hm640270 he640266 dr_cJ5_append_3fe6f_30 (gk_J4 D I) (Nat.le_of_ble_eq_true rfl) wr_7_64 rfl ?_
    refine G_dup_x1 dr_cJ5_append_3fe6f_33 rfl rfl ?_
    refine G_iconst 1 dr_cJ5_append_3fe6f_34 (by decide +kernel) ?_
    refine G_iadd dr_cJ5_append_3fe6f_35 (G_nam fun z640289 hz640289 => ?_)
    have ez640289 : z640289.toInt = p640114.toInt + 1 := by rw [gI_add hz640289 bp640114 (gBl (show Int32.toInt 1 = 1 by decide)) (by decide) (by decide), show Int32.toInt 1 = 1 from by decide]
    have bz640289 : gB z640289 1 16777217 := gB_add (gI_add hz640289 bp640114 (gBl (show Int32.toInt 1 = 1 by decide)) (by decide) (by decide)) bp640114 (gBl (show Int32.toInt 1 = 1 by decide)) (by decide) (by decide)
    refine Gp_put 3 hm640270 he640266 dr_cJ5_append_3fe6f_36 (gk_J4 D I) (Nat.le_of_ble_eq_true rfl) wr_7_64 rfl rfl rfl (Nat.le_of_ble_eq_true rfl) (fun F640290 e640291 n640292 => ?_)
    have he640293 : F640290 q640111 = .inl (I .byte, n640116, .inl f640115) := (n640292 q640111 (rn_ao he640274 he640266)).trans he640274
    have he640294 : F640290 q640255 = .inl (I .byte, n640256, .inl f640257) := (n640292 q640255 (rn_ao he640267 he640266)).trans he640267
    have he640295 : F640290 q640110 = .inr (1, [.ref q640255, .int 0, .int p640113, .int z640289]) := e640291
    have hfr640296 : rFr [q640110] P640108 F640109 F640290 := rFr_put' List.mem_cons_self hfr640275 n640292
    refine G_iload_n 1 dr_cJ5_append_3fe6f_39 rfl ?_
    refine G_i2b dr_cJ5_append_3fe6f_40 (G_nam fun z640297 hz640297 => ?_)
    have bz640297 : gB z640297 (-128) 127 := gB_i2b hz640297
    refine Gp_bast 1 hm640268 he640294 dr_cJ5_append_3fe6f_41 rfl (gB_inr (by omega) (by omega)) (fun F640298 e640299 n640300 => ?_)
    obtain ⟨f640301, hf640301⟩ : ∃ z, z = upd f640257 p640114.toNatClampNeg (vp_nar .byte z640297) := ⟨_, rfl⟩
    rw [← hf640301] at e640299
    have he640303 : F640298 q640110 = .inr (1, [.ref q640255, .int 0, .int p640113, .int z640289]) := (n640300 q640110 (rn_oa he640295 he640294)).trans he640295
    have he640304 : F640298 q640255 = .inl (I .byte, n640256, .inl f640301) := e640299
    have hfr640305 : rFr [q640111, q640110] P640108 F640109 F640298 := rFr_eit hor640272 hfr640296 n640300
    have bf640301 : gF f640301 (-128) 127 := gF_upd hf640301 bf640257 gB_byte
    refine G_goto 75 dr_cJ5_append_3fe6f_42 (by decide +kernel) ?_
    refine G_aload_n 0 dr_cJ5_append_3fe6f_75 rfl ?_
    exact G_aretA (FieldType.object "java/lang/AbstractStringBuilder") dr_cJ5_append_3fe6f_76 rfl (by first | exact Or.inl ⟨_, rfl⟩ | exact Or.inr ⟨_, rfl⟩) (Or.inr ⟨_, rfl⟩) (Nat.le_of_ble_eq_true rfl) (show 2 * (n640256 - n640116) + 0 + 0 ≤ (4 * n640116 + 8) by omega) ⟨P640262, F640298, z640289, q640255, n640256, f640301, rfl, rfl, hsb640273, hfr640305, he640303, he640304, hm640268, hor640272, (Nat.le_of_ble_eq_true rfl), (by omega), ⟨by omega, by omega⟩, bf640301, (by have qa0 : Int32.toInt 0 = 0 := (by decide); omega), (by have qa0 : Int32.toInt 0 = 0 := (by decide); omega), (by have qa0 : Int32.toInt 0 = 0 := (by decide); omega), (by have qa0 : Int32.toInt 0 = 0 := (by decide); omega)⟩
abbrev ky_640107_StringBuilder_append : gKey := (cJ4_append_cf468, 2, "java/lang/StringBuilder", (some (FieldType.object "java/lang/StringBuilder")), [], "append", fun _ _ => True)
def pp_640107_StringBuilder_append (D : va_G) (I : FieldType → ClassId) (P640095 : List Nat) (F640096 : Nat → va_E) (q640097 : Nat) (q640098 : Nat) (p640099 : Int32) (p640100 : Int32) (p640101 : Int32) (f640102 : Nat → Int32) (n640103 : Nat) : Option Value → va_W → Nat → Nat → Prop := fun r w dc ds => ∃ (P640342 : List Nat) (F640343 : Nat → va_E) (o640338 : Int32) (q640339 : Nat) (n640340 : Nat) (f640341 : Nat → Int32), r = some (.ref q640097) ∧ w = va_pl P640342 F640343 ∧ rSub P640095 P640342 ∧ rFr [q640098, q640097] P640095 F640096 F640343 ∧ F640343 q640097 = .inr (1, [.ref q640339, .int 0, .int p640100, .int o640338]) ∧ F640343 q640339 = .inl (I .byte, n640340, .inl f640341) ∧ q640339 ∈ P640342 ∧ (q640339 = q640098 ∨ q640339 ∉ P640095) ∧ dc ≤ 1 ∧ ds ≤ 2 * (n640340 - n640103) ∧ gB o640338 1 16777216 ∧ gF f640341 (-128) 127 ∧ o640338.toInt = p640101.toInt + 1 ∧ o640338.toInt ≤ (n640340 : Int) ∧ (n640103 : Int) ≤ (n640340 : Int) ∧ (n640340 : Int) ≤ 2 * (n640103 : Int) + 2
set_option maxRecDepth 100000 in
set_option maxHeartbeats 4000000 in
theorem cp_640107_StringBuilder_append (l : Launch) (hl0 : l.stackTraces = false) (D : va_G) (I : FieldType → ClassId) (P640095 : List Nat) (F640096 : Nat → va_E) (q640097 : Nat) (q640098 : Nat) (p640099 : Int32) (p640100 : Int32) (p640101 : Int32) (f640102 : Nat → Int32) (n640103 : Nat) (hmq640097 : q640097 ∈ P640095) (hmq640098 : q640098 ∈ P640095) (heq640097 : F640096 q640097 = .inr (1, [.ref q640098, .int 0, .int p640100, .int p640101])) (heq640098 : F640096 q640098 = .inl (I .byte, n640103, .inl f640102)) (bp640099 : gB p640099 0 255) (bp640100 : gB p640100 0 1) (bp640101 : gB p640101 0 16777216) (bf640102 : gF f640102 (-128) 127) (x640104 : (n640103 : Int) ≤ 8388608 - 100000) (x640105 : p640101.toInt ≤ (n640103 : Int)) (x640106 : ((n640103 : Int) ≤ 16777216)) : CtA (gV D I) l yJ4_append_cf468 cJ4_append_cf468 2 (some (FieldType.object "java/lang/StringBuilder")) 5 105 1 (4 * n640103 + 8) [.ref q640097, .int p640099] (va_pl P640095 F640096) (pp_640107_StringBuilder_append D I P640095 F640096 q640097 q640098 p640099 p640100 p640101 f640102 n640103) gNA := by
  refine CtA_ofF hl0 (by decide +kernel) (Nat.le_of_ble_eq_true rfl) ?_
  refine G_aload_n 0 dr_cJ4_append_cf468_0 rfl ?_
  refine G_iload_n 1 dr_cJ4_append_cf468_1 rfl ?_
  refine Gw_callSU (As := [.int p640099]) (gV_ok D I) (cp_640120_AbstractStringBuilder_append l hl0 D I P640095 F640096 q640097 q640098 p640099 p640100 p640101 f640102 n640103 hmq640097 hmq640098 heq640097 heq640098 bp640099 bp640100 bp640101 bf640102 (by have qa0 : Int32.toInt 0 = 0 := (by decide); omega) (by have qa0 : Int32.toInt 0 = 0 := (by decide); omega) (by have qa0 : Int32.toInt 0 = 0 := (by decide); omega)) dr_cJ4_append_cf468_2 ⟨wr_7_237, wr_1_19, wr_7_239, by decide, rfl, (Nat.le_of_ble_eq_true rfl), (Nat.le_of_ble_eq_true rfl)⟩ wr_7_238 wr_11_220 wr_7_73 wr_7_44 (by decide) hmq640097 heq640097 rfl (show 0 + 1 ≤ 1 by first | omega | decide) (show 0 + (4 * n640103 + 8) ≤ (4 * n640103 + 8) by first | omega | decide) (Nat.le_of_ble_eq_true rfl) (fun r640315 w640316 dc640312 ds640313 hp640314 => ?_)
  obtain ⟨P640325, F640326, o640317, q640318, n640319, f640320, rfl, rfl, hsb640327, hfr640328, he640329, he640330, hm640331, hq640332, hdc, hds, bo640317, bf640320, x640321, x640322, x640323, x640324⟩ := hp640314
  have hm640333 : q640097 ∈ P640325 := hsb640327 q640097 hmq640097
  have hm640334 : q640098 ∈ P640325 := hsb640327 q640098 hmq640098
  have hor640335 : q640318 = q640098 ∨ q640318 ∉ P640095 := hq640332.elim Or.inl (fun n => Or.inr (fun z => n ((rSub_rf (P := P640095)) _ z)))
  have hsb640336 : rSub P640095 P640325 := rSub_tr (rSub_rf (P := P640095)) hsb640327
  have hfr640337 : rFr [q640098, q640097] P640095 F640096 F640326 := rFr_call (rSub_rf (P := P640095)) (rFr_rf (W := []) (P := P640095) (F := F640096)) hfr640328 (fun b hb hn => ⟨nm_n, (nm_c (fun e => hn (e ▸ List.mem_cons_self)) (nm_c (fun e => hn (e ▸ (List.mem_cons_of_mem _ List.mem_cons_self))) nm_n))⟩)
  change G _ _ _ _ _ _ _ (.ref q640097 :: _) _ _ _
  refine G_widen (cs' := 1) (sl' := 2 * (n640319 - n640103)) (by omega) (by omega) ?_
  refine G_pop dr_cJ4_append_cf468_5 rfl ?_
  refine G_aload_n 0 dr_cJ4_append_cf468_6 rfl ?_
  exact G_aretA (FieldType.object "java/lang/StringBuilder") dr_cJ4_append_cf468_7 rfl (by first | exact Or.inl ⟨_, rfl⟩ | exact Or.inr ⟨_, rfl⟩) (Or.inr ⟨_, rfl⟩) (Nat.le_of_ble_eq_true rfl) (show 2 * (n640319 - n640103) ≤ (4 * n640103 + 8) by omega) ⟨P640325, F640326, o640317, q640318, n640319, f640320, rfl, rfl, hsb640336, hfr640337, he640329, he640330, hm640331, hor640335, (Nat.le_of_ble_eq_true rfl), (by omega), bo640317, bf640320, (by have qa0 : Int32.toInt 0 = 0 := (by decide); omega), (by have qa0 : Int32.toInt 0 = 0 := (by decide); omega), (by have qa0 : Int32.toInt 0 = 0 := (by decide); omega), (by have qa0 : Int32.toInt 0 = 0 := (by decide); omega)⟩
abbrev ky_640363_AbstractStringBuilder_setLength : gKey := (cJ5_setLength_d00df, 2, "java/lang/AbstractStringBuilder", none, [], "setLength", fun _ _ => True)
def pp_640363_AbstractStringBuilder_setLength (D : va_G) (I : FieldType → ClassId) (P640354 : List Nat) (F640355 : Nat → va_E) (q640356 : Nat) (q640357 : Nat) (p640358 : Int32) (p640359 : Int32) (f640360 : Nat → Int32) (n640361 : Nat) : Option Value → va_W → Nat → Nat → Prop := fun r w dc ds => ∃ (F640395 : Nat → va_E) (o640393 : Int32), r = none ∧ w = va_pl P640354 F640395 ∧ rFr [q640356] P640354 F640355 F640395 ∧ F640395 q640356 = .inr (1, [.ref q640357, .int 0, .int o640393, .int 0]) ∧ F640395 q640357 = .inl (I .byte, n640361, .inl f640360) ∧ dc ≤ 0 ∧ ds ≤ 0 ∧ gB o640393 0 1 ∧ 0 = 0
set_option maxRecDepth 100000 in
set_option maxHeartbeats 4000000 in
theorem cp_640363_AbstractStringBuilder_setLength (l : Launch) (hl0 : l.stackTraces = false) (D : va_G) (I : FieldType → ClassId) (P640354 : List Nat) (F640355 : Nat → va_E) (q640356 : Nat) (q640357 : Nat) (p640358 : Int32) (p640359 : Int32) (f640360 : Nat → Int32) (n640361 : Nat) (hmq640356 : q640356 ∈ P640354) (hmq640357 : q640357 ∈ P640354) (heq640356 : F640355 q640356 = .inr (1, [.ref q640357, .int 0, .int p640358, .int p640359])) (heq640357 : F640355 q640357 = .inl (I .byte, n640361, .inl f640360)) (bp640358 : gB p640358 0 1) (bp640359 : gB p640359 0 16777216) (bf640360 : gF f640360 (-128) 127) (x640362 : ((n640361 : Int) ≤ 16777216)) : CtA (gV D I) l yJ5_setLength_d00df cJ5_setLength_d00df 2 none 1 22 0 0 [.ref q640356, .int 0] (va_pl P640354 F640355) (pp_640363_AbstractStringBuilder_setLength D I P640354 F640355 q640356 q640357 p640358 p640359 f640360 n640361) gNA := by
  refine CtA_ofF hl0 (by decide +kernel) (Nat.le_of_ble_eq_true rfl) ?_
  refine G_iload_n 1 dr_cJ5_setLength_d00df_0 rfl ?_
  refine G_if_ge 13 dr_cJ5_setLength_d00df_1 (by decide +kernel) (fun _ => ?_) (fun hc => absurd hc (by decide))
  refine G_aload_n 0 dr_cJ5_setLength_d00df_13 rfl ?_
  refine G_iload_n 1 dr_cJ5_setLength_d00df_14 rfl ?_
  refine Gw_callVB (As := [.int 0]) (gV_ok D I) (cp_640016_AbstractStringBuilder_ensureCapacityInternal l hl0 D I P640354 F640355 q640356 q640357 0 p640358 p640359 f640360 n640361 hmq640356 hmq640357 heq640356 heq640357 (gB_w (gBl (show Int32.toInt 0 = 0 by decide)) (by decide) (by decide)) bp640358 bp640359 bf640360 (by have qa0 : Int32.toInt 0 = 0 := (by decide); omega) (by have qa0 : Int32.toInt 0 = 0 := (by decide); omega)) dr_cJ5_setLength_d00df_15 ⟨wr_8_0, wr_1_19, wr_8_3, by decide, rfl, (Nat.le_of_ble_eq_true rfl), (Nat.le_of_ble_eq_true rfl)⟩ wr_8_2 wr_s_0 hmq640356 heq640356 rfl (show 0 + 0 ≤ 0 by first | omega | decide) (show 0 + 0 ≤ 0 by first | omega | decide) (Nat.le_of_ble_eq_true rfl) (fun r640367 w640368 dc640364 ds640365 hp640366 => ?_) (fun _ _ _ _ _ z => z.elim)
  obtain ⟨rfl, rfl, hdc, hds⟩ := hp640366
  change G _ _ _ _ _ _ _ _ _ _ _
  refine G_widen (cs' := 0) (sl' := 0) (by omega) (by omega) ?_
  refine G_aload_n 0 dr_cJ5_setLength_d00df_18 rfl ?_
  refine Gp_get 3 hmq640356 heq640356 dr_cJ5_setLength_d00df_19 (gk_J4 D I) (Nat.le_of_ble_eq_true rfl) wr_7_64 rfl ?_
  refine G_iload_n 1 dr_cJ5_setLength_d00df_22 rfl ?_
  refine G_icmp_ge 63 dr_cJ5_setLength_d00df_23 (by decide +kernel) (fun hc640369 => ?_) (fun hc => absurd (show False by have := gj_nleL hc (show Int32.toInt 0 = 0 by decide); omega) not_false)
  have r640371 : 0 ≤ p640359.toInt := gj_leL hc640369 (show Int32.toInt 0 = 0 by decide)
  refine G_aload_n 0 dr_cJ5_setLength_d00df_63 rfl ?_
  refine Gp_get 3 hmq640356 heq640356 dr_cJ5_setLength_d00df_64 (gk_J4 D I) (Nat.le_of_ble_eq_true rfl) wr_7_64 rfl ?_
  refine G_iload_n 1 dr_cJ5_setLength_d00df_67 rfl ?_
  refine G_icmp_le 76 dr_cJ5_setLength_d00df_68 (by decide +kernel) (fun hc640372 => ?_) (fun hc640372 => ?_)
  · have r640373 : p640359.toInt ≤ 0 := gj_le hc640372 (show Int32.toInt 0 = 0 by decide)
    have bp640359' : gB p640359 0 0 := ⟨by omega, by omega⟩
    refine G_aload_n 0 dr_cJ5_setLength_d00df_76 rfl ?_
    refine G_iload_n 1 dr_cJ5_setLength_d00df_77 rfl ?_
    refine Gp_put 3 hmq640356 heq640356 dr_cJ5_setLength_d00df_78 (gk_J4 D I) (Nat.le_of_ble_eq_true rfl) wr_7_64 rfl rfl rfl (Nat.le_of_ble_eq_true rfl) (fun F640374 e640375 n640376 => ?_)
    have he640377 : F640374 q640357 = .inl (I .byte, n640361, .inl f640360) := (n640376 q640357 (rn_ao heq640357 heq640356)).trans heq640357
    have he640378 : F640374 q640356 = .inr (1, [.ref q640357, .int 0, .int p640358, .int 0]) := e640375
    have hfr640379 : rFr [q640356] P640354 F640355 F640374 := rFr_put (rFr_rf (W := []) (P := P640354) (F := F640355)) n640376
    exact G_vretA dr_cJ5_setLength_d00df_81 rfl (Nat.le_of_ble_eq_true rfl) (Nat.le_of_ble_eq_true rfl) ⟨F640374, p640358, rfl, rfl, hfr640379, he640378, he640377, (Nat.le_of_ble_eq_true rfl), (Nat.le_of_ble_eq_true rfl), bp640358, (by have qa0 : Int32.toInt 0 = 0 := (by decide); omega)⟩
  · have r640380 : 0 < p640359.toInt := gj_nle hc640372 (show Int32.toInt 0 = 0 by decide)
    have bp640359' : gB p640359 1 16777216 := ⟨by omega, by omega⟩
    refine G_aload_n 0 dr_cJ5_setLength_d00df_71 rfl ?_
    refine G_iconst 1 dr_cJ5_setLength_d00df_72 (by decide +kernel) ?_
    refine Gp_put 2 hmq640356 heq640356 dr_cJ5_setLength_d00df_73 (gk_J4 D I) (Nat.le_of_ble_eq_true rfl) wr_7_62 rfl rfl rfl (Nat.le_of_ble_eq_true rfl) (fun F640381 e640382 n640383 => ?_)
    have he640384 : F640381 q640357 = .inl (I .byte, n640361, .inl f640360) := (n640383 q640357 (rn_ao heq640357 heq640356)).trans heq640357
    have he640385 : F640381 q640356 = .inr (1, [.ref q640357, .int 0, .int 1, .int p640359]) := e640382
    have hfr640386 : rFr [q640356] P640354 F640355 F640381 := rFr_put (rFr_rf (W := []) (P := P640354) (F := F640355)) n640383
    refine G_aload_n 0 dr_cJ5_setLength_d00df_76 rfl ?_
    refine G_iload_n 1 dr_cJ5_setLength_d00df_77 rfl ?_
    refine Gp_put 3 hmq640356 he640385 dr_cJ5_setLength_d00df_78 (gk_J4 D I) (Nat.le_of_ble_eq_true rfl) wr_7_64 rfl rfl rfl (Nat.le_of_ble_eq_true rfl) (fun F640387 e640388 n640389 => ?_)
    have he640390 : F640387 q640357 = .inl (I .byte, n640361, .inl f640360) := (n640389 q640357 (rn_ao he640384 he640385)).trans he640384
    have he640391 : F640387 q640356 = .inr (1, [.ref q640357, .int 0, .int 1, .int 0]) := e640388
    have hfr640392 : rFr [q640356] P640354 F640355 F640387 := rFr_put' List.mem_cons_self hfr640386 n640389
    exact G_vretA dr_cJ5_setLength_d00df_81 rfl (Nat.le_of_ble_eq_true rfl) (Nat.le_of_ble_eq_true rfl) ⟨F640387, 1, rfl, rfl, hfr640392, he640391, he640390, (Nat.le_of_ble_eq_true rfl), (Nat.le_of_ble_eq_true rfl), (gB_w (gBl (show Int32.toInt 1 = 1 by decide)) (by decide) (by decide)), (by have qa0 : Int32.toInt 0 = 0 := (by decide); have qa1 : Int32.toInt 1 = 1 := (by decide); omega)⟩
abbrev ky_640353_StringBuilder_setLength : gKey := (cJ4_setLength_d00df, 2, "java/lang/StringBuilder", none, [], "setLength", fun _ _ => True)
def pp_640353_StringBuilder_setLength (D : va_G) (I : FieldType → ClassId) (P640344 : List Nat) (F640345 : Nat → va_E) (q640346 : Nat) (q640347 : Nat) (p640348 : Int32) (p640349 : Int32) (f640350 : Nat → Int32) (n640351 : Nat) : Option Value → va_W → Nat → Nat → Prop := fun r w dc ds => ∃ (F640411 : Nat → va_E) (o640409 : Int32), r = none ∧ w = va_pl P640344 F640411 ∧ rFr [q640346] P640344 F640345 F640411 ∧ F640411 q640346 = .inr (1, [.ref q640347, .int 0, .int o640409, .int 0]) ∧ F640411 q640347 = .inl (I .byte, n640351, .inl f640350) ∧ dc ≤ 0 ∧ ds ≤ 0 ∧ gB o640409 0 1 ∧ 0 = 0
set_option maxRecDepth 100000 in
set_option maxHeartbeats 4000000 in
theorem cp_640353_StringBuilder_setLength (l : Launch) (hl0 : l.stackTraces = false) (D : va_G) (I : FieldType → ClassId) (P640344 : List Nat) (F640345 : Nat → va_E) (q640346 : Nat) (q640347 : Nat) (p640348 : Int32) (p640349 : Int32) (f640350 : Nat → Int32) (n640351 : Nat) (hmq640346 : q640346 ∈ P640344) (hmq640347 : q640347 ∈ P640344) (heq640346 : F640345 q640346 = .inr (1, [.ref q640347, .int 0, .int p640348, .int p640349])) (heq640347 : F640345 q640347 = .inl (I .byte, n640351, .inl f640350)) (bp640348 : gB p640348 0 1) (bp640349 : gB p640349 0 16777216) (bf640350 : gF f640350 (-128) 127) (x640352 : ((n640351 : Int) ≤ 16777216)) : CtA (gV D I) l yJ4_setLength_d00df cJ4_setLength_d00df 2 none 2 43 0 0 [.ref q640346, .int 0] (va_pl P640344 F640345) (pp_640353_StringBuilder_setLength D I P640344 F640345 q640346 q640347 p640348 p640349 f640350 n640351) gNA := by
  refine CtA_ofF hl0 (by decide +kernel) (Nat.le_of_ble_eq_true rfl) ?_
  refine G_aload_n 0 dr_cJ4_setLength_d00df_0 rfl ?_
  refine G_iload_n 1 dr_cJ4_setLength_d00df_1 rfl ?_
  refine Gw_callSU (As := [.int 0]) (gV_ok D I) (cp_640363_AbstractStringBuilder_setLength l hl0 D I P640344 F640345 q640346 q640347 p640348 p640349 f640350 n640351 hmq640346 hmq640347 heq640346 heq640347 bp640348 bp640349 bf640350 (by have qa0 : Int32.toInt 0 = 0 := (by decide); omega)) dr_cJ4_setLength_d00df_2 ⟨wr_11_125, wr_1_19, wr_11_127, by decide, rfl, (Nat.le_of_ble_eq_true rfl), (Nat.le_of_ble_eq_true rfl)⟩ wr_11_126 wr_11_229 wr_7_73 wr_7_44 (by decide) hmq640346 heq640346 rfl (show 0 + 0 ≤ 0 by first | omega | decide) (show 0 + 0 ≤ 0 by first | omega | decide) (Nat.le_of_ble_eq_true rfl) (fun r640399 w640400 dc640396 ds640397 hp640398 => ?_)
  obtain ⟨F640403, o640401, rfl, rfl, hfr640405, he640406, he640407, hdc, hds, bo640401, x640402⟩ := hp640398
  have hfr640408 : rFr [q640346] P640344 F640345 F640403 := rFr_call (rSub_rf (P := P640344)) (rFr_rf (W := []) (P := P640344) (F := F640345)) hfr640405 (fun b hb hn => ⟨nm_n, (nm_c (fun e => hn (e ▸ List.mem_cons_self)) nm_n)⟩)
  change G _ _ _ _ _ _ _ _ _ _ _
  refine G_widen (cs' := 0) (sl' := 0) (by omega) (by omega) ?_
  exact G_vretA dr_cJ4_setLength_d00df_5 rfl (Nat.le_of_ble_eq_true rfl) (Nat.le_of_ble_eq_true rfl) ⟨F640403, o640401, rfl, rfl, hfr640408, he640406, he640407, (Nat.le_of_ble_eq_true rfl), (Nat.le_of_ble_eq_true rfl), bo640401, (by have qa0 : Int32.toInt 0 = 0 := (by decide); omega)⟩
abbrev ky_640423_AbstractStringBuilder_init : gKey := (cJ5_init_d00df, 2, "java/lang/AbstractStringBuilder", none, [], "<init>", fun _ _ => True)
def pp_640423_AbstractStringBuilder_init (D : va_G) (I : FieldType → ClassId) (P640418 : List Nat) (F640419 : Nat → va_E) (q640420 : Nat) (p640421 : Int32) (p640422 : Int32) : Option Value → va_W → Nat → Nat → Prop := fun r w dc ds => ∃ (P640451 : List Nat) (F640452 : Nat → va_E) (q640450 : Nat), r = none ∧ w = va_pl P640451 F640452 ∧ rSub P640418 P640451 ∧ rFr [q640420] P640418 F640419 F640452 ∧ F640452 q640420 = .inr (1, [.ref q640450, .int 0, .int p640421, .int p640422]) ∧ F640452 q640450 = .inl (I .byte, 16, .inl (fun _ => 0)) ∧ q640450 ∈ P640451 ∧ q640450 ∉ P640418 ∧ dc ≤ 1 ∧ ds ≤ 16
set_option maxRecDepth 100000 in
set_option maxHeartbeats 4000000 in
theorem cp_640423_AbstractStringBuilder_init (l : Launch) (hl0 : l.stackTraces = false) (D : va_G) (I : FieldType → ClassId) (P640418 : List Nat) (F640419 : Nat → va_E) (q640420 : Nat) (p640421 : Int32) (p640422 : Int32) (hmq640420 : q640420 ∈ P640418) (heq640420 : F640419 q640420 = .inr (1, [.null, .int 0, .int p640421, .int p640422])) (bp640421 : gB p640421 0 1) (bp640422 : gB p640422 0 16777216) : CtA (gV D I) l yJ5_init_d00df cJ5_init_d00df 2 none 1 12 1 16 [.ref q640420, .int 16] (va_pl P640418 F640419) (pp_640423_AbstractStringBuilder_init D I P640418 F640419 q640420 p640421 p640422) gNA := by
  refine CtA_ofF hl0 (by decide +kernel) (Nat.le_of_ble_eq_true rfl) ?_
  refine G_aload_n 0 dr_cJ5_init_d00df_0 rfl ?_
  refine G_obj dr_cJ5_init_d00df_1 wr_7_51 wr_1_51 wr_1_52 (Nat.le_of_ble_eq_true rfl) (Nat.le_of_ble_eq_true rfl) ?_
  refine G_gets dr_cJ5_init_d00df_4 wr_7_52 gz_cs (fun x hx => ?_)
  subst hx
  refine G_if_eq 25 dr_cJ5_init_d00df_7 (by decide +kernel) (fun hc => absurd hc (by decide)) (fun _ => ?_)
  refine G_aload_n 0 dr_cJ5_init_d00df_10 rfl ?_
  refine G_iload_n 1 dr_cJ5_init_d00df_11 rfl ?_
  refine G_newa 1 (16, .inl (fun _ => 0)) dr_cJ5_init_d00df_12 rfl rfl (by intro C h; cases h) wr_1_66 (fun _ => ga_byte _ _) (by decide) (by decide) (by decide) (show 0 + 1 ≤ 1 by first | omega | decide) (show 0 + 16 ≤ 16 by first | omega | decide) (fun q640424 => Gp_in (fun P640425 F640426 hq640427 hP640428 e640429 n640430 => ?_))
  refine G_widen (cs' := 1) (sl' := 16) (by omega) (by omega) ?_
  have he640431 : F640426 q640420 = .inr (1, [.null, .int 0, .int p640421, .int p640422]) := (n640430 q640420 (fun h => hq640427 (h ▸ hmq640420))).trans heq640420
  have he640432 : F640426 q640424 = .inl (I .byte, 16, .inl (fun _ => 0)) := e640429
  have hm640433 : q640420 ∈ P640425 := (hP640428 q640420).mpr (Or.inl hmq640420)
  have hm640434 : q640424 ∈ P640425 := (hP640428 q640424).mpr (Or.inr rfl)
  have hq640435 : q640424 ∉ P640418 := fun z => hq640427 ((rSub_rf (P := P640418)) q640424 z)
  have hfr640436 : rFr [] P640418 F640419 F640426 := rFr_new (rSub_rf (P := P640418)) hq640427 (rFr_rf (W := []) (P := P640418) (F := F640419)) n640430
  have hsb640437 : rSub P640418 P640425 := rSub_new (rSub_rf (P := P640418)) hP640428
  refine Gp_put 0 hm640433 he640431 dr_cJ5_init_d00df_14 (gk_J4 D I) (Nat.le_of_ble_eq_true rfl) wr_7_60 rfl rfl rfl (Nat.le_of_ble_eq_true rfl) (fun F640438 e640439 n640440 => ?_)
  have he640441 : F640438 q640424 = .inl (I .byte, 16, .inl (fun _ => 0)) := (n640440 q640424 (fun h => hq640435 (h ▸ hmq640420))).trans he640432
  have he640442 : F640438 q640420 = .inr (1, [.ref q640424, .int 0, .int p640421, .int p640422]) := e640439
  have hfr640443 : rFr [q640420] P640418 F640419 F640438 := rFr_put hfr640436 n640440
  refine G_aload_n 0 dr_cJ5_init_d00df_17 rfl ?_
  refine G_iconst 0 dr_cJ5_init_d00df_18 (by decide +kernel) ?_
  refine Gp_put 1 hm640433 he640442 dr_cJ5_init_d00df_19 (gk_J4 D I) (Nat.le_of_ble_eq_true rfl) wr_7_61 rfl rfl rfl (Nat.le_of_ble_eq_true rfl) (fun F640444 e640445 n640446 => ?_)
  have he640447 : F640444 q640424 = .inl (I .byte, 16, .inl (fun _ => 0)) := (n640446 q640424 (fun h => hq640435 (h ▸ hmq640420))).trans he640441
  have he640448 : F640444 q640420 = .inr (1, [.ref q640424, .int 0, .int p640421, .int p640422]) := e640445
  have hfr640449 : rFr [q640420] P640418 F640419 F640444 := rFr_put' List.mem_cons_self hfr640443 n640446
  refine G_goto 38 dr_cJ5_init_d00df_22 (by decide +kernel) ?_
  exact G_vretA dr_cJ5_init_d00df_38 rfl (Nat.le_of_ble_eq_true rfl) (Nat.le_of_ble_eq_true rfl) ⟨P640425, F640444, q640424, rfl, rfl, hsb640437, hfr640449, he640448, he640447, hm640434, hq640435, (Nat.le_of_ble_eq_true rfl), (Nat.le_of_ble_eq_true rfl)⟩
abbrev ky_640417_StringBuilder_init : gKey := (cJ4_init_da8c8, 1, "java/lang/StringBuilder", none, [], "<init>", fun _ _ => True)
def pp_640417_StringBuilder_init (D : va_G) (I : FieldType → ClassId) (P640412 : List Nat) (F640413 : Nat → va_E) (q640414 : Nat) (p640415 : Int32) (p640416 : Int32) : Option Value → va_W → Nat → Nat → Prop := fun r w dc ds => ∃ (P640472 : List Nat) (F640473 : Nat → va_E) (q640471 : Nat), r = none ∧ w = va_pl P640472 F640473 ∧ rSub P640412 P640472 ∧ rFr [q640414] P640412 F640413 F640473 ∧ F640473 q640414 = .inr (1, [.ref q640471, .int 0, .int p640415, .int p640416]) ∧ F640473 q640471 = .inl (I .byte, 16, .inl (fun _ => 0)) ∧ q640471 ∈ P640472 ∧ q640471 ∉ P640412 ∧ dc ≤ 1 ∧ ds ≤ 16
set_option maxRecDepth 100000 in
set_option maxHeartbeats 4000000 in
theorem cp_640417_StringBuilder_init (l : Launch) (hl0 : l.stackTraces = false) (D : va_G) (I : FieldType → ClassId) (P640412 : List Nat) (F640413 : Nat → va_E) (q640414 : Nat) (p640415 : Int32) (p640416 : Int32) (hmq640414 : q640414 ∈ P640412) (heq640414 : F640413 q640414 = .inr (1, [.null, .int 0, .int p640415, .int p640416])) (bp640415 : gB p640415 0 1) (bp640416 : gB p640416 0 16777216) : CtA (gV D I) l yJ4_init_da8c8 cJ4_init_da8c8 1 none 2 33 1 16 [.ref q640414] (va_pl P640412 F640413) (pp_640417_StringBuilder_init D I P640412 F640413 q640414 p640415 p640416) gNA := by
  refine CtA_ofF hl0 (by decide +kernel) (Nat.le_of_ble_eq_true rfl) ?_
  refine G_aload_n 0 dr_cJ4_init_da8c8_0 rfl ?_
  refine G_bipush 16 dr_cJ4_init_da8c8_1 (by decide +kernel) ?_
  refine Gw_callI (As := [.int 16]) (gV_ok D I) (cp_640423_AbstractStringBuilder_init l hl0 D I P640412 F640413 q640414 p640415 p640416 hmq640414 heq640414 bp640415 bp640416) dr_cJ4_init_da8c8_3 ⟨wr_7_48, wr_1_19, wr_7_50, by decide, rfl, (Nat.le_of_ble_eq_true rfl), (Nat.le_of_ble_eq_true rfl)⟩ wr_7_49 rfl (show 0 + 1 ≤ 1 by first | omega | decide) (show 0 + 16 ≤ 16 by first | omega | decide) (Nat.le_of_ble_eq_true rfl) (fun r640456 w640457 dc640453 ds640454 hp640455 => ?_)
  obtain ⟨P640459, F640460, q640458, rfl, rfl, hsb640461, hfr640462, he640463, he640464, hm640465, hq640466, hdc, hds⟩ := hp640455
  have hm640467 : q640414 ∈ P640459 := hsb640461 q640414 hmq640414
  have hq640468 : q640458 ∉ P640412 := fun z => hq640466 ((rSub_rf (P := P640412)) q640458 z)
  have hsb640469 : rSub P640412 P640459 := rSub_tr (rSub_rf (P := P640412)) hsb640461
  have hfr640470 : rFr [q640414] P640412 F640413 F640460 := rFr_call (rSub_rf (P := P640412)) (rFr_rf (W := []) (P := P640412) (F := F640413)) hfr640462 (fun b hb hn => ⟨nm_n, (nm_c (fun e => hn (e ▸ List.mem_cons_self)) nm_n)⟩)
  change G _ _ _ _ _ _ _ _ _ _ _
  refine G_widen (cs' := 1) (sl' := 16) (by omega) (by omega) ?_
  exact G_vretA dr_cJ4_init_da8c8_6 rfl (Nat.le_of_ble_eq_true rfl) (Nat.le_of_ble_eq_true rfl) ⟨P640459, F640460, q640458, rfl, rfl, hsb640469, hfr640470, he640463, he640464, hm640465, hq640468, (Nat.le_of_ble_eq_true rfl), (Nat.le_of_ble_eq_true rfl)⟩
abbrev ky_640530_String_coder : gKey := (cJ0_coder_7d493, 1, "java/lang/String", (some FieldType.byte), [], "coder", fun _ _ => True)
def pp_640530_String_coder (D : va_G) (I : FieldType → ClassId) (P640521 : List Nat) (F640522 : Nat → va_E) (q640523 : Nat) (q640524 : Nat) (p640525 : Int32) (p640526 : Int32) (f640527 : Nat → Int32) (n640528 : Nat) : Option Value → va_W → Nat → Nat → Prop := fun r w dc ds => r = some (.int 0) ∧ w = va_pl P640521 F640522 ∧ dc ≤ 0 ∧ ds ≤ 0
set_option maxRecDepth 100000 in
set_option maxHeartbeats 4000000 in
theorem cp_640530_String_coder (l : Launch) (hl0 : l.stackTraces = false) (D : va_G) (I : FieldType → ClassId) (P640521 : List Nat) (F640522 : Nat → va_E) (q640523 : Nat) (q640524 : Nat) (p640525 : Int32) (p640526 : Int32) (f640527 : Nat → Int32) (n640528 : Nat) (hmq640523 : q640523 ∈ P640521) (hmq640524 : q640524 ∈ P640521) (heq640523 : F640522 q640523 = .inr (0, [.ref q640524, .int 0, .int p640525, .int p640526])) (heq640524 : F640522 q640524 = .inl (I .byte, n640528, .inl f640527)) (bp640526 : gB p640526 0 1) (bf640527 : gF f640527 (-128) 127) (x640529 : ((n640528 : Int) ≤ 16777216)) : CtA (gV D I) l yJ0_coder_7d493 cJ0_coder_7d493 1 (some FieldType.byte) 0 0 0 0 [.ref q640523] (va_pl P640521 F640522) (pp_640530_String_coder D I P640521 F640522 q640523 q640524 p640525 p640526 f640527 n640528) gNA := by
  refine CtA_ofF hl0 (by decide +kernel) (Nat.le_of_ble_eq_true rfl) ?_
  have bp640525 := gB_any p640525
  refine G_gets dr_cJ0_coder_7d493_0 wr_3_65 gz_cs (fun x hx => ?_)
  subst hx
  refine G_if_eq 13 dr_cJ0_coder_7d493_3 (by decide +kernel) (fun hc => absurd hc (by decide)) (fun _ => ?_)
  refine G_aload_n 0 dr_cJ0_coder_7d493_6 rfl ?_
  refine Gp_get 1 hmq640523 heq640523 dr_cJ0_coder_7d493_7 (gk_J0 D I) (Nat.le_of_ble_eq_true rfl) wr_8_179 rfl ?_
  refine G_goto 14 dr_cJ0_coder_7d493_10 (by decide +kernel) ?_
  exact G_zretA FieldType.byte dr_cJ0_coder_7d493_14 rfl rfl (Nat.le_of_ble_eq_true rfl) (Nat.le_of_ble_eq_true rfl) ⟨rfl, rfl, (Nat.le_of_ble_eq_true rfl), (Nat.le_of_ble_eq_true rfl)⟩
abbrev ky_640519_String_length : gKey := (cJ0_length_8abf5, 1, "java/lang/String", (some FieldType.int), [], "length", fun _ _ => True)
def pp_640519_String_length (D : va_G) (I : FieldType → ClassId) (P640510 : List Nat) (F640511 : Nat → va_E) (q640512 : Nat) (q640513 : Nat) (p640514 : Int32) (p640515 : Int32) (f640516 : Nat → Int32) (n640517 : Nat) : Option Value → va_W → Nat → Nat → Prop := fun r w dc ds => ∃ (o640537 : Int32), r = some (.int o640537) ∧ w = va_pl P640510 F640511 ∧ dc ≤ 0 ∧ ds ≤ 0 ∧ gB o640537 0 16777216 ∧ o640537.toInt = (n640517 : Int)
set_option maxRecDepth 100000 in
set_option maxHeartbeats 4000000 in
theorem cp_640519_String_length (l : Launch) (hl0 : l.stackTraces = false) (D : va_G) (I : FieldType → ClassId) (P640510 : List Nat) (F640511 : Nat → va_E) (q640512 : Nat) (q640513 : Nat) (p640514 : Int32) (p640515 : Int32) (f640516 : Nat → Int32) (n640517 : Nat) (hmq640512 : q640512 ∈ P640510) (hmq640513 : q640513 ∈ P640510) (heq640512 : F640511 q640512 = .inr (0, [.ref q640513, .int 0, .int p640514, .int p640515])) (heq640513 : F640511 q640513 = .inl (I .byte, n640517, .inl f640516)) (bp640515 : gB p640515 0 1) (bf640516 : gF f640516 (-128) 127) (x640518 : ((n640517 : Int) ≤ 16777216)) : CtA (gV D I) l yJ0_length_8abf5 cJ0_length_8abf5 1 (some FieldType.int) 1 20 0 0 [.ref q640512] (va_pl P640510 F640511) (pp_640519_String_length D I P640510 F640511 q640512 q640513 p640514 p640515 f640516 n640517) gNA := by
  refine CtA_ofF hl0 (by decide +kernel) (Nat.le_of_ble_eq_true rfl) ?_
  have bp640514 := gB_any p640514
  refine G_aload_n 0 dr_cJ0_length_8abf5_0 rfl ?_
  refine Gp_get 0 hmq640512 heq640512 dr_cJ0_length_8abf5_1 (gk_J0 D I) (Nat.le_of_ble_eq_true rfl) wr_8_178 rfl ?_
  refine Gp_alen (Int32.ofNat n640517) 1 hmq640513 heq640513 dr_cJ0_length_8abf5_4 rfl rfl (G_nam fun z640520 hz640520 => ?_)
  have ez640520 : z640520.toInt = (n640517 : Nat) := gI_ofM hz640520 (by omega)
  have bz640520 : gB z640520 0 16777216 := ⟨by omega, by omega⟩
  refine G_aload_n 0 dr_cJ0_length_8abf5_5 rfl ?_
  refine Gw_callV (As := []) (gV_ok D I) (cp_640530_String_coder l hl0 D I P640510 F640511 q640512 q640513 p640514 p640515 f640516 n640517 hmq640512 hmq640513 heq640512 heq640513 bp640515 bf640516 (by have qa0 : Int32.toInt 0 = 0 := (by decide); omega)) dr_cJ0_length_8abf5_6 ⟨wr_3_61, wr_1_21, wr_3_64, by decide, rfl, (Nat.le_of_ble_eq_true rfl), (Nat.le_of_ble_eq_true rfl)⟩ wr_3_62 wr_3_63 hmq640512 heq640512 rfl (show 0 + 0 ≤ 0 by first | omega | decide) (show 0 + 0 ≤ 0 by first | omega | decide) (Nat.le_of_ble_eq_true rfl) (fun r640534 w640535 dc640531 ds640532 hp640533 => ?_) (fun _ _ _ _ _ z => z.elim)
  obtain ⟨rfl, rfl, hdc, hds⟩ := hp640533
  change G _ _ _ _ _ _ _ (.int 0 :: _) _ _ _
  refine G_widen (cs' := 0) (sl' := 0) (by omega) (by omega) ?_
  refine G_ishr dr_cJ0_length_8abf5_9 (G_nam fun z640536 hz640536 => ?_)
  have ez640536 : z640536.toInt = z640520.toInt / 1 := gI_shr (k := 0) hz640536 (by decide)
  have bz640536 : gB z640536 0 16777216 := ⟨by omega, by omega⟩
  exact G_iretA dr_cJ0_length_8abf5_10 rfl (Nat.le_of_ble_eq_true rfl) (Nat.le_of_ble_eq_true rfl) ⟨z640536, rfl, rfl, (Nat.le_of_ble_eq_true rfl), (Nat.le_of_ble_eq_true rfl), bz640536, (by have qa0 : Int32.toInt 0 = 0 := (by decide); omega)⟩
abbrev ky_640586_AbstractStringBuilder_inflateIfNeededFor : gKey := (cJ5_inflateIfNeededFor_a7421, 2, "java/lang/AbstractStringBuilder", none, [], "inflateIfNeededFor", fun _ _ => True)
def pp_640586_AbstractStringBuilder_inflateIfNeededFor (D : va_G) (I : FieldType → ClassId) (P640570 : List Nat) (F640571 : Nat → va_E) (q640572 : Nat) (q640573 : Nat) (q640574 : Nat) (q640575 : Nat) (p640576 : Int32) (p640577 : Int32) (p640578 : Int32) (p640579 : Int32) (f640580 : Nat → Int32) (n640581 : Nat) (f640582 : Nat → Int32) (n640583 : Nat) : Option Value → va_W → Nat → Nat → Prop := fun r w dc ds => r = none ∧ w = va_pl P640570 F640571 ∧ dc ≤ 0 ∧ ds ≤ 0
set_option maxRecDepth 100000 in
set_option maxHeartbeats 4000000 in
theorem cp_640586_AbstractStringBuilder_inflateIfNeededFor (l : Launch) (hl0 : l.stackTraces = false) (D : va_G) (I : FieldType → ClassId) (P640570 : List Nat) (F640571 : Nat → va_E) (q640572 : Nat) (q640573 : Nat) (q640574 : Nat) (q640575 : Nat) (p640576 : Int32) (p640577 : Int32) (p640578 : Int32) (p640579 : Int32) (f640580 : Nat → Int32) (n640581 : Nat) (f640582 : Nat → Int32) (n640583 : Nat) (hmq640572 : q640572 ∈ P640570) (hmq640573 : q640573 ∈ P640570) (hmq640574 : q640574 ∈ P640570) (hmq640575 : q640575 ∈ P640570) (heq640572 : F640571 q640572 = .inr (1, [.ref q640574, .int 0, .int p640576, .int p640577])) (heq640573 : F640571 q640573 = .inr (0, [.ref q640575, .int 0, .int p640578, .int p640579])) (heq640574 : F640571 q640574 = .inl (I .byte, n640581, .inl f640580)) (heq640575 : F640571 q640575 = .inl (I .byte, n640583, .inl f640582)) (hneq640574q640575 : q640574 ≠ q640575) (bp640576 : gB p640576 0 1) (bp640577 : gB p640577 0 16777216) (bp640579 : gB p640579 0 1) (bf640580 : gF f640580 (-128) 127) (bf640582 : gF f640582 (-128) 127) (x640584 : ((n640581 : Int) ≤ 16777216)) (x640585 : ((n640583 : Int) ≤ 16777216)) : CtA (gV D I) l yJ5_inflateIfNeededFor_a7421 cJ5_inflateIfNeededFor_a7421 2 none 1 20 0 0 [.ref q640572, .ref q640573] (va_pl P640570 F640571) (pp_640586_AbstractStringBuilder_inflateIfNeededFor D I P640570 F640571 q640572 q640573 q640574 q640575 p640576 p640577 p640578 p640579 f640580 n640581 f640582 n640583) gNA := by
  refine CtA_ofF hl0 (by decide +kernel) (Nat.le_of_ble_eq_true rfl) ?_
  have bp640578 := gB_any p640578
  refine G_gets dr_cJ5_inflateIfNeededFor_a7421_0 wr_7_52 gz_cs (fun x hx => ?_)
  subst hx
  refine G_if_eq 21 dr_cJ5_inflateIfNeededFor_a7421_3 (by decide +kernel) (fun hc => absurd hc (by decide)) (fun _ => ?_)
  refine G_aload_n 0 dr_cJ5_inflateIfNeededFor_a7421_6 rfl ?_
  refine Gp_get 1 hmq640572 heq640572 dr_cJ5_inflateIfNeededFor_a7421_7 (gk_J4 D I) (Nat.le_of_ble_eq_true rfl) wr_7_61 rfl ?_
  refine G_aload_n 1 dr_cJ5_inflateIfNeededFor_a7421_10 rfl ?_
  refine Gw_callV (As := []) (gV_ok D I) (cp_640530_String_coder l hl0 D I P640570 F640571 q640573 q640575 p640578 p640579 f640582 n640583 hmq640573 hmq640575 heq640573 heq640575 bp640579 bf640582 (by have qa0 : Int32.toInt 0 = 0 := (by decide); omega)) dr_cJ5_inflateIfNeededFor_a7421_11 ⟨wr_8_159, wr_1_21, wr_3_64, by decide, rfl, (Nat.le_of_ble_eq_true rfl), (Nat.le_of_ble_eq_true rfl)⟩ wr_3_62 wr_3_63 hmq640573 heq640573 rfl (show 0 + 0 ≤ 0 by first | omega | decide) (show 0 + 0 ≤ 0 by first | omega | decide) (Nat.le_of_ble_eq_true rfl) (fun r640590 w640591 dc640587 ds640588 hp640589 => ?_) (fun _ _ _ _ _ z => z.elim)
  obtain ⟨rfl, rfl, hdc, hds⟩ := hp640589
  change G _ _ _ _ _ _ _ (.int 0 :: _) _ _ _
  refine G_widen (cs' := 0) (sl' := 0) (by omega) (by omega) ?_
  refine G_icmp_eq 21 dr_cJ5_inflateIfNeededFor_a7421_14 (by decide +kernel) (fun _ => ?_) (fun hc => absurd hc (by decide))
  exact G_vretA dr_cJ5_inflateIfNeededFor_a7421_21 rfl (Nat.le_of_ble_eq_true rfl) (Nat.le_of_ble_eq_true rfl) ⟨rfl, rfl, (Nat.le_of_ble_eq_true rfl), (Nat.le_of_ble_eq_true rfl)⟩
abbrev ky_640612_String_getBytes : gKey := (cJ0_getBytes_840e7, 4, "java/lang/String", none, [], "getBytes", fun _ _ => True)
def pp_640612_String_getBytes (D : va_G) (I : FieldType → ClassId) (P640597 : List Nat) (F640598 : Nat → va_E) (q640599 : Nat) (q640600 : Nat) (q640601 : Nat) (p640602 : Int32) (p640603 : Int32) (p640604 : Int32) (f640605 : Nat → Int32) (n640606 : Nat) (f640607 : Nat → Int32) (n640608 : Nat) : Option Value → va_W → Nat → Nat → Prop := fun r w dc ds => ∃ (F640630 : Nat → va_E) (f640628 : Nat → Int32), r = none ∧ w = va_pl P640597 F640630 ∧ rFr [q640600] P640597 F640598 F640630 ∧ F640630 q640599 = .inr (0, [.ref q640601, .int 0, .int p640603, .int p640604]) ∧ F640630 q640600 = .inl (I .byte, n640606, .inl f640628) ∧ F640630 q640601 = .inl (I .byte, n640608, .inl f640607) ∧ dc ≤ 0 ∧ ds ≤ 0 ∧ gF f640628 (-128) 127 ∧ sK f640605 f640628 p640602.toInt ∧ sF f640607 f640628 p640602.toInt (n640608 : Int)
set_option maxRecDepth 100000 in
set_option maxHeartbeats 4000000 in
theorem cp_640612_String_getBytes (l : Launch) (hl0 : l.stackTraces = false) (D : va_G) (I : FieldType → ClassId) (P640597 : List Nat) (F640598 : Nat → va_E) (q640599 : Nat) (q640600 : Nat) (q640601 : Nat) (p640602 : Int32) (p640603 : Int32) (p640604 : Int32) (f640605 : Nat → Int32) (n640606 : Nat) (f640607 : Nat → Int32) (n640608 : Nat) (hmq640599 : q640599 ∈ P640597) (hmq640600 : q640600 ∈ P640597) (hmq640601 : q640601 ∈ P640597) (heq640599 : F640598 q640599 = .inr (0, [.ref q640601, .int 0, .int p640603, .int p640604])) (heq640600 : F640598 q640600 = .inl (I .byte, n640606, .inl f640605)) (heq640601 : F640598 q640601 = .inl (I .byte, n640608, .inl f640607)) (hneq640600q640601 : q640600 ≠ q640601) (bp640602 : gB p640602 0 16777216) (bp640604 : gB p640604 0 1) (bf640605 : gF f640605 (-128) 127) (bf640607 : gF f640607 (-128) 127) (x640609 : p640602.toInt + (n640608 : Int) ≤ (n640606 : Int)) (x640610 : ((n640606 : Int) ≤ 16777216)) (x640611 : ((n640608 : Int) ≤ 16777216)) : CtA (gV D I) l yJ0_getBytes_840e7 cJ0_getBytes_840e7 4 none 1 20 0 0 [.ref q640599, .ref q640600, .int p640602, .int 0] (va_pl P640597 F640598) (pp_640612_String_getBytes D I P640597 F640598 q640599 q640600 q640601 p640602 p640603 p640604 f640605 n640606 f640607 n640608) gNA := by
  refine CtA_ofF hl0 (by decide +kernel) (Nat.le_of_ble_eq_true rfl) ?_
  have bp640603 := gB_any p640603
  refine G_aload_n 0 dr_cJ0_getBytes_840e7_0 rfl ?_
  refine Gw_callV (As := []) (gV_ok D I) (cp_640530_String_coder l hl0 D I P640597 F640598 q640599 q640601 p640603 p640604 f640607 n640608 hmq640599 hmq640601 heq640599 heq640601 bp640604 bf640607 (by have qa0 : Int32.toInt 0 = 0 := (by decide); omega)) dr_cJ0_getBytes_840e7_1 ⟨wr_3_61, wr_1_21, wr_3_64, by decide, rfl, (Nat.le_of_ble_eq_true rfl), (Nat.le_of_ble_eq_true rfl)⟩ wr_3_62 wr_3_63 hmq640599 heq640599 rfl (show 0 + 0 ≤ 0 by first | omega | decide) (show 0 + 0 ≤ 0 by first | omega | decide) (Nat.le_of_ble_eq_true rfl) (fun r640616 w640617 dc640613 ds640614 hp640615 => ?_) (fun _ _ _ _ _ z => z.elim)
  obtain ⟨rfl, rfl, hdc, hds⟩ := hp640615
  change G _ _ _ _ _ _ _ (.int 0 :: _) _ _ _
  refine G_widen (cs' := 0) (sl' := 0) (by omega) (by omega) ?_
  refine G_iload_n 3 dr_cJ0_getBytes_840e7_4 rfl ?_
  refine G_icmp_ne 28 dr_cJ0_getBytes_840e7_5 (by decide +kernel) (fun hc => absurd hc (by decide)) (fun _ => ?_)
  refine G_aload_n 0 dr_cJ0_getBytes_840e7_8 rfl ?_
  refine Gp_get 0 hmq640599 heq640599 dr_cJ0_getBytes_840e7_9 (gk_J0 D I) (Nat.le_of_ble_eq_true rfl) wr_8_178 rfl ?_
  refine G_iconst 0 dr_cJ0_getBytes_840e7_12 (by decide +kernel) ?_
  refine G_aload_n 1 dr_cJ0_getBytes_840e7_13 rfl ?_
  refine G_iload_n 2 dr_cJ0_getBytes_840e7_14 rfl ?_
  refine G_iload_n 3 dr_cJ0_getBytes_840e7_15 rfl ?_
  refine G_ishl dr_cJ0_getBytes_840e7_16 (G_nam fun z640618 hz640618 => ?_)
  have ez640618 : z640618.toInt = p640602.toInt * 1 := gI_shl (k := 0) hz640618 (by decide) bp640602 (by decide) (by decide)
  have bz640618 : gB z640618 0 16777216 := ⟨by omega, by omega⟩
  refine G_aload_n 0 dr_cJ0_getBytes_840e7_17 rfl ?_
  refine Gp_get 0 hmq640599 heq640599 dr_cJ0_getBytes_840e7_18 (gk_J0 D I) (Nat.le_of_ble_eq_true rfl) wr_8_178 rfl ?_
  refine Gp_alen (Int32.ofNat n640608) 1 hmq640601 heq640601 dr_cJ0_getBytes_840e7_21 rfl rfl (G_nam fun z640619 hz640619 => ?_)
  have ez640619 : z640619.toInt = (n640608 : Nat) := gI_ofM hz640619 (by omega)
  have bz640619 : gB z640619 0 16777216 := ⟨by omega, by omega⟩
  refine Gp_copyp 1 hmq640601 hmq640600 heq640601 heq640600 dr_cJ0_getBytes_840e7_22 wr_8_164 wr_5_113 wr_5_112 wr_1_34 rfl rfl (fun j => gT_byte (bf640607 j)) (by decide) (by omega) (by omega) (by have qa0 : Int32.toInt 0 = 0 := (by decide); omega) (by have qa0 : Int32.toInt 0 = 0 := (by decide); omega) (Nat.le_of_ble_eq_true rfl) (Nat.le_of_ble_eq_true rfl) (fun F640620 e640621 n640622 => ?_)
  obtain ⟨f640623, hf640623⟩ : ∃ z, z = va_cpy f640607 f640605 (0 : Int32).toNatClampNeg z640618.toNatClampNeg z640619.toNatClampNeg := ⟨_, rfl⟩
  rw [← hf640623] at e640621
  have bf640623 : gF f640623 (-128) 127 := gF_cpy hf640623 bf640607 bf640605
  have he640624 : F640620 q640599 = .inr (0, [.ref q640601, .int 0, .int p640603, .int p640604]) := (n640622 q640599 (rn_oa heq640599 heq640600)).trans heq640599
  have he640625 : F640620 q640601 = .inl (I .byte, n640608, .inl f640607) := (n640622 q640601 (Ne.symm hneq640600q640601)).trans heq640601
  have he640626 : F640620 q640600 = .inl (I .byte, n640606, .inl f640623) := e640621
  have hfr640627 : rFr [q640600] P640597 F640598 F640620 := rFr_put (rFr_rf (W := []) (P := P640597) (F := F640598)) n640622
  refine G_goto 43 dr_cJ0_getBytes_840e7_25 (by decide +kernel) ?_
  exact G_vretA dr_cJ0_getBytes_840e7_43 rfl (Nat.le_of_ble_eq_true rfl) (Nat.le_of_ble_eq_true rfl) ⟨F640620, f640623, rfl, rfl, hfr640627, he640624, he640626, he640625, (Nat.le_of_ble_eq_true rfl), (Nat.le_of_ble_eq_true rfl), bf640623, (sK_cpy hf640623 (by omega)), (sF_cpy hf640623 (by decide) (by omega) (by omega))⟩
abbrev ky_640569_AbstractStringBuilder_putStringAt : gKey := (cJ5_putStringAt_47b60, 3, "java/lang/AbstractStringBuilder", none, [], "putStringAt", fun _ _ => True)
def pp_640569_AbstractStringBuilder_putStringAt (D : va_G) (I : FieldType → ClassId) (P640551 : List Nat) (F640552 : Nat → va_E) (q640553 : Nat) (q640554 : Nat) (q640555 : Nat) (q640556 : Nat) (p640557 : Int32) (p640558 : Int32) (p640559 : Int32) (p640560 : Int32) (p640561 : Int32) (f640562 : Nat → Int32) (n640563 : Nat) (f640564 : Nat → Int32) (n640565 : Nat) : Option Value → va_W → Nat → Nat → Prop := fun r w dc ds => ∃ (F640649 : Nat → va_E) (f640647 : Nat → Int32), r = none ∧ w = va_pl P640551 F640649 ∧ rFr [q640555] P640551 F640552 F640649 ∧ F640649 q640553 = .inr (1, [.ref q640555, .int 0, .int p640558, .int p640559]) ∧ F640649 q640554 = .inr (0, [.ref q640556, .int 0, .int p640560, .int p640561]) ∧ F640649 q640555 = .inl (I .byte, n640563, .inl f640647) ∧ F640649 q640556 = .inl (I .byte, n640565, .inl f640564) ∧ dc ≤ 0 ∧ ds ≤ 0 ∧ gF f640647 (-128) 127 ∧ sK f640562 f640647 p640557.toInt ∧ sF f640564 f640647 p640557.toInt (n640565 : Int)
set_option maxRecDepth 100000 in
set_option maxHeartbeats 4000000 in
theorem cp_640569_AbstractStringBuilder_putStringAt (l : Launch) (hl0 : l.stackTraces = false) (D : va_G) (I : FieldType → ClassId) (P640551 : List Nat) (F640552 : Nat → va_E) (q640553 : Nat) (q640554 : Nat) (q640555 : Nat) (q640556 : Nat) (p640557 : Int32) (p640558 : Int32) (p640559 : Int32) (p640560 : Int32) (p640561 : Int32) (f640562 : Nat → Int32) (n640563 : Nat) (f640564 : Nat → Int32) (n640565 : Nat) (hmq640553 : q640553 ∈ P640551) (hmq640554 : q640554 ∈ P640551) (hmq640555 : q640555 ∈ P640551) (hmq640556 : q640556 ∈ P640551) (heq640553 : F640552 q640553 = .inr (1, [.ref q640555, .int 0, .int p640558, .int p640559])) (heq640554 : F640552 q640554 = .inr (0, [.ref q640556, .int 0, .int p640560, .int p640561])) (heq640555 : F640552 q640555 = .inl (I .byte, n640563, .inl f640562)) (heq640556 : F640552 q640556 = .inl (I .byte, n640565, .inl f640564)) (hneq640555q640556 : q640555 ≠ q640556) (bp640557 : gB p640557 0 16777216) (bp640558 : gB p640558 0 1) (bp640559 : gB p640559 0 16777216) (bp640561 : gB p640561 0 1) (bf640562 : gF f640562 (-128) 127) (bf640564 : gF f640564 (-128) 127) (x640566 : p640557.toInt + (n640565 : Int) ≤ (n640563 : Int)) (x640567 : ((n640563 : Int) ≤ 16777216)) (x640568 : ((n640565 : Int) ≤ 16777216)) : CtA (gV D I) l yJ5_putStringAt_47b60 cJ5_putStringAt_47b60 3 none 2 43 0 0 [.ref q640553, .int p640557, .ref q640554] (va_pl P640551 F640552) (pp_640569_AbstractStringBuilder_putStringAt D I P640551 F640552 q640553 q640554 q640555 q640556 p640557 p640558 p640559 p640560 p640561 f640562 n640563 f640564 n640565) gNA := by
  refine CtA_ofF hl0 (by decide +kernel) (Nat.le_of_ble_eq_true rfl) ?_
  have bp640560 := gB_any p640560
  refine G_aload_n 0 dr_cJ5_putStringAt_47b60_0 rfl ?_
  refine G_aload_n 2 dr_cJ5_putStringAt_47b60_1 rfl ?_
  refine Gw_callVB (As := [.ref q640554]) (gV_ok D I) (cp_640586_AbstractStringBuilder_inflateIfNeededFor l hl0 D I P640551 F640552 q640553 q640554 q640555 q640556 p640558 p640559 p640560 p640561 f640562 n640563 f640564 n640565 hmq640553 hmq640554 hmq640555 hmq640556 heq640553 heq640554 heq640555 heq640556 hneq640555q640556 bp640558 bp640559 bp640561 bf640562 bf640564 (by have qa0 : Int32.toInt 0 = 0 := (by decide); omega) (by have qa0 : Int32.toInt 0 = 0 := (by decide); omega)) dr_cJ5_putStringAt_47b60_2 ⟨wr_8_155, wr_1_19, wr_8_158, by decide, rfl, (Nat.le_of_ble_eq_true rfl), (Nat.le_of_ble_eq_true rfl)⟩ wr_8_157 wr_s_5 hmq640553 heq640553 rfl (show 0 + 0 ≤ 0 by first | omega | decide) (show 0 + 0 ≤ 0 by first | omega | decide) (Nat.le_of_ble_eq_true rfl) (fun r640595 w640596 dc640592 ds640593 hp640594 => ?_) (fun _ _ _ _ _ z => z.elim)
  obtain ⟨rfl, rfl, hdc, hds⟩ := hp640594
  change G _ _ _ _ _ _ _ _ _ _ _
  refine G_widen (cs' := 0) (sl' := 0) (by omega) (by omega) ?_
  refine G_aload_n 2 dr_cJ5_putStringAt_47b60_5 rfl ?_
  refine G_aload_n 0 dr_cJ5_putStringAt_47b60_6 rfl ?_
  refine Gp_get 0 hmq640553 heq640553 dr_cJ5_putStringAt_47b60_7 (gk_J4 D I) (Nat.le_of_ble_eq_true rfl) wr_7_60 rfl ?_
  refine G_iload_n 1 dr_cJ5_putStringAt_47b60_10 rfl ?_
  refine G_aload_n 0 dr_cJ5_putStringAt_47b60_11 rfl ?_
  refine Gp_get 1 hmq640553 heq640553 dr_cJ5_putStringAt_47b60_12 (gk_J4 D I) (Nat.le_of_ble_eq_true rfl) wr_7_61 rfl ?_
  refine Gw_callV (As := [.ref q640555, .int p640557, .int 0]) (gV_ok D I) (cp_640612_String_getBytes l hl0 D I P640551 F640552 q640554 q640555 q640556 p640557 p640560 p640561 f640562 n640563 f640564 n640565 hmq640554 hmq640555 hmq640556 heq640554 heq640555 heq640556 hneq640555q640556 bp640557 bp640561 bf640562 bf640564 (by have qa0 : Int32.toInt 0 = 0 := (by decide); omega) (by have qa0 : Int32.toInt 0 = 0 := (by decide); omega) (by have qa0 : Int32.toInt 0 = 0 := (by decide); omega)) dr_cJ5_putStringAt_47b60_15 ⟨wr_8_160, wr_1_21, wr_8_163, by decide, rfl, (Nat.le_of_ble_eq_true rfl), (Nat.le_of_ble_eq_true rfl)⟩ wr_8_161 wr_8_162 hmq640554 heq640554 rfl (show 0 + 0 ≤ 0 by first | omega | decide) (show 0 + 0 ≤ 0 by first | omega | decide) (Nat.le_of_ble_eq_true rfl) (fun r640634 w640635 dc640631 ds640632 hp640633 => ?_) (fun _ _ _ _ _ z => z.elim)
  obtain ⟨F640639, f640636, rfl, rfl, hfr640641, he640642, he640643, he640644, hdc, hds, bf640636, x640637, x640638⟩ := hp640633
  have he640645 : F640639 q640553 = .inr (1, [.ref q640555, .int 0, .int p640558, .int p640559]) := (hfr640641 q640553 hmq640553 (nm_c (rn_oa heq640553 heq640555) nm_n)).trans heq640553
  have hfr640646 : rFr [q640555] P640551 F640552 F640639 := rFr_call (rSub_rf (P := P640551)) (rFr_rf (W := []) (P := P640551) (F := F640552)) hfr640641 (fun b hb hn => ⟨nm_n, (nm_c (fun e => hn (e ▸ List.mem_cons_self)) nm_n)⟩)
  change G _ _ _ _ _ _ _ _ _ _ _
  refine G_widen (cs' := 0) (sl' := 0) (by omega) (by omega) ?_
  exact G_vretA dr_cJ5_putStringAt_47b60_18 rfl (Nat.le_of_ble_eq_true rfl) (Nat.le_of_ble_eq_true rfl) ⟨F640639, f640636, rfl, rfl, hfr640646, he640645, he640642, he640643, he640644, (Nat.le_of_ble_eq_true rfl), (Nat.le_of_ble_eq_true rfl), bf640636, (sK_c x640637 (by omega)), (by assumption)⟩
abbrev ky_640509_AbstractStringBuilder_append : gKey := (cJ5_append_cf1ce, 3, "java/lang/AbstractStringBuilder", (some (FieldType.object "java/lang/AbstractStringBuilder")), [], "append", fun _ _ => True)
def pp_640509_AbstractStringBuilder_append (D : va_G) (I : FieldType → ClassId) (P640492 : List Nat) (F640493 : Nat → va_E) (q640494 : Nat) (q640495 : Nat) (q640496 : Nat) (q640497 : Nat) (p640498 : Int32) (p640499 : Int32) (p640500 : Int32) (p640501 : Int32) (f640502 : Nat → Int32) (n640503 : Nat) (f640504 : Nat → Int32) (n640505 : Nat) : Option Value → va_W → Nat → Nat → Prop := fun r w dc ds => ∃ (F640678 : Nat → va_E) (o640675 : Int32) (f640676 : Nat → Int32), r = some (.ref q640494) ∧ w = va_pl P640492 F640678 ∧ rFr [q640494, q640496] P640492 F640493 F640678 ∧ F640678 q640494 = .inr (1, [.ref q640496, .int 0, .int p640498, .int o640675]) ∧ F640678 q640495 = .inr (0, [.ref q640497, .int 0, .int p640500, .int p640501]) ∧ F640678 q640496 = .inl (I .byte, n640503, .inl f640676) ∧ F640678 q640497 = .inl (I .byte, n640505, .inl f640504) ∧ dc ≤ 0 ∧ ds ≤ 0 ∧ gB o640675 0 16777216 ∧ gF f640676 (-128) 127 ∧ o640675.toInt = p640499.toInt + (n640505 : Int) ∧ sK f640502 f640676 p640499.toInt ∧ sF f640504 f640676 p640499.toInt (n640505 : Int)
set_option maxRecDepth 100000 in
set_option maxHeartbeats 4000000 in
theorem cp_640509_AbstractStringBuilder_append (l : Launch) (hl0 : l.stackTraces = false) (D : va_G) (I : FieldType → ClassId) (P640492 : List Nat) (F640493 : Nat → va_E) (q640494 : Nat) (q640495 : Nat) (q640496 : Nat) (q640497 : Nat) (p640498 : Int32) (p640499 : Int32) (p640500 : Int32) (p640501 : Int32) (f640502 : Nat → Int32) (n640503 : Nat) (f640504 : Nat → Int32) (n640505 : Nat) (hmq640494 : q640494 ∈ P640492) (hmq640495 : q640495 ∈ P640492) (hmq640496 : q640496 ∈ P640492) (hmq640497 : q640497 ∈ P640492) (heq640494 : F640493 q640494 = .inr (1, [.ref q640496, .int 0, .int p640498, .int p640499])) (heq640495 : F640493 q640495 = .inr (0, [.ref q640497, .int 0, .int p640500, .int p640501])) (heq640496 : F640493 q640496 = .inl (I .byte, n640503, .inl f640502)) (heq640497 : F640493 q640497 = .inl (I .byte, n640505, .inl f640504)) (hneq640496q640497 : q640496 ≠ q640497) (bp640498 : gB p640498 0 1) (bp640499 : gB p640499 0 16777216) (bp640501 : gB p640501 0 1) (bf640502 : gF f640502 (-128) 127) (bf640504 : gF f640504 (-128) 127) (x640506 : p640499.toInt + (n640505 : Int) ≤ (n640503 : Int)) (x640507 : ((n640503 : Int) ≤ 16777216)) (x640508 : ((n640505 : Int) ≤ 16777216)) : CtA (gV D I) l yJ5_append_cf1ce cJ5_append_cf1ce 3 (some (FieldType.object "java/lang/AbstractStringBuilder")) 3 65 0 0 [.ref q640494, .ref q640495] (va_pl P640492 F640493) (pp_640509_AbstractStringBuilder_append D I P640492 F640493 q640494 q640495 q640496 q640497 p640498 p640499 p640500 p640501 f640502 n640503 f640504 n640505) gNA := by
  refine CtA_ofF hl0 (by decide +kernel) (Nat.le_of_ble_eq_true rfl) ?_
  have bp640500 := gB_any p640500
  refine G_aload_n 1 dr_cJ5_append_cf1ce_0 rfl ?_
  refine G_ifnonnull 9 dr_cJ5_append_cf1ce_1 (by decide +kernel) ?_
  refine G_aload_n 1 dr_cJ5_append_cf1ce_9 rfl ?_
  refine Gw_callV (As := []) (gV_ok D I) (cp_640519_String_length l hl0 D I P640492 F640493 q640495 q640497 p640500 p640501 f640504 n640505 hmq640495 hmq640497 heq640495 heq640497 bp640501 bf640504 (by have qa0 : Int32.toInt 0 = 0 := (by decide); omega)) dr_cJ5_append_cf1ce_10 ⟨wr_8_150, wr_1_21, wr_3_60, by decide, rfl, (Nat.le_of_ble_eq_true rfl), (Nat.le_of_ble_eq_true rfl)⟩ wr_3_58 wr_3_59 hmq640495 heq640495 rfl (show 0 + 0 ≤ 0 by first | omega | decide) (show 0 + 0 ≤ 0 by first | omega | decide) (Nat.le_of_ble_eq_true rfl) (fun r640541 w640542 dc640538 ds640539 hp640540 => ?_) (fun _ _ _ _ _ z => z.elim)
  obtain ⟨o640543, rfl, rfl, hdc, hds, bo640543, x640544⟩ := hp640540
  change G _ _ _ _ _ _ _ (.int o640543 :: _) _ _ _
  refine G_widen (cs' := 0) (sl' := 0) (by omega) (by omega) ?_
  refine G_istore_n (L' := [(2, .int o640543), (0, .ref q640494), (1, .ref q640495)]) dr_cJ5_append_cf1ce_13 (Nat.le_of_ble_eq_true rfl) rfl ?_
  refine G_aload_n 1 dr_cJ5_append_cf1ce_14 rfl ?_
  refine G_aload_n 1 dr_cJ5_append_cf1ce_15 rfl ?_
  refine Gp_get 3 hmq640494 heq640494 dr_cJ5_append_cf1ce_16 (gk_J4 D I) (Nat.le_of_ble_eq_true rfl) wr_7_64 rfl ?_
  refine G_iload_n 0 dr_cJ5_append_cf1ce_19 rfl ?_
  refine G_iadd dr_cJ5_append_cf1ce_20 (G_nam fun z640545 hz640545 => ?_)
  have ez640545 : z640545.toInt = p640499.toInt + o640543.toInt := by rw [gI_add hz640545 bp640499 bo640543 (by decide) (by decide)]
  have bz640545 : gB z640545 0 33554432 := gB_add (gI_add hz640545 bp640499 bo640543 (by decide) (by decide)) bp640499 bo640543 (by decide) (by decide)
  refine Gw_callVB (As := [.int z640545]) (gV_ok D I) (cp_640016_AbstractStringBuilder_ensureCapacityInternal l hl0 D I P640492 F640493 q640494 q640496 z640545 p640498 p640499 f640502 n640503 hmq640494 hmq640496 heq640494 heq640496 ⟨by omega, by omega⟩ bp640498 bp640499 bf640502 (by have qa0 : Int32.toInt 0 = 0 := (by decide); omega) (by have qa0 : Int32.toInt 0 = 0 := (by decide); omega)) dr_cJ5_append_cf1ce_21 ⟨wr_8_0, wr_1_19, wr_8_3, by decide, rfl, (Nat.le_of_ble_eq_true rfl), (Nat.le_of_ble_eq_true rfl)⟩ wr_8_2 wr_s_0 hmq640494 heq640494 rfl (show 0 + 0 ≤ 0 by first | omega | decide) (show 0 + 0 ≤ 0 by first | omega | decide) (Nat.le_of_ble_eq_true rfl) (fun r640549 w640550 dc640546 ds640547 hp640548 => ?_) (fun _ _ _ _ _ z => z.elim)
  obtain ⟨rfl, rfl, hdc, hds⟩ := hp640548
  change G _ _ _ _ _ _ _ _ _ _ _
  refine G_widen (cs' := 0) (sl' := 0) (by omega) (by omega) ?_
  refine G_aload_n 1 dr_cJ5_append_cf1ce_24 rfl ?_
  refine G_aload_n 1 dr_cJ5_append_cf1ce_25 rfl ?_
  refine Gp_get 3 hmq640494 heq640494 dr_cJ5_append_cf1ce_26 (gk_J4 D I) (Nat.le_of_ble_eq_true rfl) wr_7_64 rfl ?_
  refine G_aload_n 2 dr_cJ5_append_cf1ce_29 rfl ?_
  refine Gw_callVB (As := [.int p640499, .ref q640495]) (gV_ok D I) (cp_640569_AbstractStringBuilder_putStringAt l hl0 D I P640492 F640493 q640494 q640495 q640496 q640497 p640499 p640498 p640499 p640500 p640501 f640502 n640503 f640504 n640505 hmq640494 hmq640495 hmq640496 hmq640497 heq640494 heq640495 heq640496 heq640497 hneq640496q640497 bp640499 bp640498 bp640499 bp640501 bf640502 bf640504 (by have qa0 : Int32.toInt 0 = 0 := (by decide); omega) (by have qa0 : Int32.toInt 0 = 0 := (by decide); omega) (by have qa0 : Int32.toInt 0 = 0 := (by decide); omega)) dr_cJ5_append_cf1ce_30 ⟨wr_8_151, wr_1_19, wr_8_154, by decide, rfl, (Nat.le_of_ble_eq_true rfl), (Nat.le_of_ble_eq_true rfl)⟩ wr_8_153 wr_s_4 hmq640494 heq640494 rfl (show 0 + 0 ≤ 0 by first | omega | decide) (show 0 + 0 ≤ 0 by first | omega | decide) (Nat.le_of_ble_eq_true rfl) (fun r640653 w640654 dc640650 ds640651 hp640652 => ?_) (fun _ _ _ _ _ z => z.elim)
  obtain ⟨F640658, f640655, rfl, rfl, hfr640660, he640661, he640662, he640663, he640664, hdc, hds, bf640655, x640656, x640657⟩ := hp640652
  have hfr640665 : rFr [q640496] P640492 F640493 F640658 := rFr_call (rSub_rf (P := P640492)) (rFr_rf (W := []) (P := P640492) (F := F640493)) hfr640660 (fun b hb hn => ⟨nm_n, (nm_c (fun e => hn (e ▸ List.mem_cons_self)) nm_n)⟩)
  change G _ _ _ _ _ _ _ _ _ _ _
  refine G_widen (cs' := 0) (sl' := 0) (by omega) (by omega) ?_
  refine G_aload_n 1 dr_cJ5_append_cf1ce_33 rfl ?_
  refine G_dup dr_cJ5_append_cf1ce_34 rfl ?_
  refine Gp_get 3 hmq640494 he640661 dr_cJ5_append_cf1ce_35 (gk_J4 D I) (Nat.le_of_ble_eq_true rfl) wr_7_64 rfl ?_
  refine G_iload_n 0 dr_cJ5_append_cf1ce_38 rfl ?_
  refine G_iadd dr_cJ5_append_cf1ce_39 (G_nam fun z640666 hz640666 => ?_)
  have ez640666 : z640666.toInt = p640499.toInt + o640543.toInt := by rw [gI_add hz640666 bp640499 bo640543 (by decide) (by decide)]
  have bz640666 : gB z640666 0 33554432 := gB_add (gI_add hz640666 bp640499 bo640543 (by decide) (by decide)) bp640499 bo640543 (by decide) (by decide)
  refine Gp_put 3 hmq640494 he640661 dr_cJ5_append_cf1ce_40 (gk_J4 D I) (Nat.le_of_ble_eq_true rfl) wr_7_64 rfl rfl rfl (Nat.le_of_ble_eq_true rfl) (fun F640667 e640668 n640669 => ?_)
  have he640670 : F640667 q640495 = .inr (0, [.ref q640497, .int 0, .int p640500, .int p640501]) := (n640669 q640495 (rn_oo he640662 he640661 (by decide))).trans he640662
  have he640671 : F640667 q640496 = .inl (I .byte, n640503, .inl f640655) := (n640669 q640496 (rn_ao he640663 he640661)).trans he640663
  have he640672 : F640667 q640497 = .inl (I .byte, n640505, .inl f640504) := (n640669 q640497 (rn_ao he640664 he640661)).trans he640664
  have he640673 : F640667 q640494 = .inr (1, [.ref q640496, .int 0, .int p640498, .int z640666]) := e640668
  have hfr640674 : rFr [q640494, q640496] P640492 F640493 F640667 := rFr_put hfr640665 n640669
  refine G_aload_n 1 dr_cJ5_append_cf1ce_43 rfl ?_
  exact G_aretA (FieldType.object "java/lang/AbstractStringBuilder") dr_cJ5_append_cf1ce_44 rfl (by first | exact Or.inl ⟨_, rfl⟩ | exact Or.inr ⟨_, rfl⟩) (Or.inr ⟨_, rfl⟩) (Nat.le_of_ble_eq_true rfl) (Nat.le_of_ble_eq_true rfl) ⟨F640667, z640666, f640655, rfl, rfl, hfr640674, he640673, he640670, he640671, he640672, (Nat.le_of_ble_eq_true rfl), (Nat.le_of_ble_eq_true rfl), ⟨by omega, by omega⟩, bf640655, (by have qa0 : Int32.toInt 0 = 0 := (by decide); omega), (sK_c x640656 (by omega)), (by assumption)⟩
