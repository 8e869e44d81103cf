theorem dr_cX14_number_0 : decode cX14_number 0 = .ok (.iload_n 1, 1) := by decide +kernel
theorem dr_cX14_number_1 : decode cX14_number 1 = .ok (.ifCond .eq 13, 3) := by decide +kernel
theorem dr_cX14_number_14 : decode cX14_number 14 = .ok (.lconst 0, 1) := by decide +kernel
theorem dr_cX14_number_15 : decode cX14_number 15 = .ok (.lstore_n 2, 1) := by decide +kernel
theorem dr_cX14_number_16 : decode cX14_number 16 = .ok (.aload_n 0, 1) := by decide +kernel
theorem dr_cX14_number_17 : decode cX14_number 17 = .ok (.getfield 44, 3) := by decide +kernel
theorem wr_9_38 : (Jvm.Cond.fieldLink "SpillForgeModel$Reader" (44 : Nat) "SpillForgeModel$Reader" "at" "I") ∈ gw := gw_9 38 rfl rfl
theorem dr_cX14_number_20 : decode cX14_number 20 = .ok (.aload_n 0, 1) := by decide +kernel
theorem dr_cX14_number_21 : decode cX14_number 21 = .ok (.getfield 32, 3) := by decide +kernel
theorem wr_9_37 : (Jvm.Cond.fieldLink "SpillForgeModel$Reader" (32 : Nat) "SpillForgeModel$Reader" "n" "I") ∈ gw := gw_9 37 rfl rfl
theorem dr_cX14_number_24 : decode cX14_number 24 = .ok (.if_icmp .ge 58, 3) := by decide +kernel
theorem dr_cX14_number_82 : decode cX14_number 82 = .ok (.iload_n 1, 1) := by decide +kernel
theorem dr_cX14_number_83 : decode cX14_number 83 = .ok (.ifCond .eq 6, 3) := by decide +kernel
theorem dr_cX14_number_89 : decode cX14_number 89 = .ok (.aload_n 0, 1) := by decide +kernel
theorem dr_cX14_number_90 : decode cX14_number 90 = .ok (.lload_n 2, 1) := by decide +kernel
theorem dr_cX14_number_91 : decode cX14_number 91 = .ok (.l2i, 1) := by decide +kernel
theorem dr_cX14_number_92 : decode cX14_number 92 = .ok (.putfield 80, 3) := by decide +kernel
theorem wr_9_41 : (Jvm.Cond.fieldLink "SpillForgeModel$Reader" (80 : Nat) "SpillForgeModel$Reader" "value" "I") ∈ gw := gw_9 41 rfl rfl
theorem dr_cX14_number_95 : decode cX14_number 95 = .ok (.aload_n 0, 1) := by decide +kernel
theorem dr_cX14_number_96 : decode cX14_number 96 = .ok (.lload_n 2, 1) := by decide +kernel
theorem dr_cX14_number_97 : decode cX14_number 97 = .ok (.lload_n 2, 1) := by decide +kernel
theorem dr_cX14_number_98 : decode cX14_number 98 = .ok (.l2i, 1) := by decide +kernel
theorem dr_cX14_number_99 : decode cX14_number 99 = .ok (.i2l, 1) := by decide +kernel
theorem dr_cX14_number_100 : decode cX14_number 100 = .ok (.lcmp, 1) := by decide +kernel
theorem dr_cX14_number_101 : decode cX14_number 101 = .ok (.ifCond .ne 7, 3) := by decide +kernel
theorem dr_cX14_number_108 : decode cX14_number 108 = .ok (.bipush 6, 2) := by decide +kernel
theorem dr_cX14_number_110 : decode cX14_number 110 = .ok (.putfield 38, 3) := by decide +kernel
theorem wr_9_39 : (Jvm.Cond.fieldLink "SpillForgeModel$Reader" (38 : Nat) "SpillForgeModel$Reader" "kind" "I") ∈ gw := gw_9 39 rfl rfl
theorem dr_cX14_number_113 : decode cX14_number 113 = .ok (.return_, 1) := by decide +kernel
theorem dr_cX14_number_104 : decode cX14_number 104 = .ok (.iconst 4, 1) := by decide +kernel
theorem dr_cX14_number_105 : decode cX14_number 105 = .ok (.goto 5, 3) := by decide +kernel
theorem dr_cX14_number_27 : decode cX14_number 27 = .ok (.aload_n 0, 1) := by decide +kernel
theorem dr_cX14_number_28 : decode cX14_number 28 = .ok (.getfield 28, 3) := by decide +kernel
theorem wr_9_36 : (Jvm.Cond.fieldLink "SpillForgeModel$Reader" (28 : Nat) "SpillForgeModel$Reader" "t" "[B") ∈ gw := gw_9 36 rfl rfl
theorem dr_cX14_number_31 : decode cX14_number 31 = .ok (.aload_n 0, 1) := by decide +kernel
theorem dr_cX14_number_32 : decode cX14_number 32 = .ok (.getfield 44, 3) := by decide +kernel
theorem dr_cX14_number_35 : decode cX14_number 35 = .ok (.baload, 1) := by decide +kernel
theorem dr_cX14_number_36 : decode cX14_number 36 = .ok (.invokestatic 50, 3) := by decide +kernel
theorem wr_7_219 : (Jvm.Cond.methodLink "SpillForgeModel$Reader" (50 : Nat) ({ cls := "SpillForgeModel$Reader", name := "isDigit", desc := "(I)Z" } : Jvm.MethodName)) ∈ gw := gw_7 219 rfl rfl
theorem wr_1_32 : (Jvm.Cond.initialized "SpillForgeModel$Reader") ∈ gw := gw_1 32 rfl rfl
theorem wr_7_221 : (Jvm.Cond.code ({ cls := "SpillForgeModel$Reader", name := "isDigit", desc := "(I)Z" } : Jvm.MethodName) prog_17_method_2_code (1 : Nat) (Option.some Jvm.ClassFile.FieldType.boolean)) ∈ gw := gw_7 221 rfl rfl
theorem wr_7_220 : (Jvm.Cond.static ({ cls := "SpillForgeModel$Reader", name := "isDigit", desc := "(I)Z" } : Jvm.MethodName)) ∈ gw := gw_7 220 rfl rfl
theorem dr_cX14_number_39 : decode cX14_number 39 = .ok (.ifCond .eq 43, 3) := by decide +kernel
theorem dr_cX14_number_42 : decode cX14_number 42 = .ok (.lload_n 2, 1) := by decide +kernel
theorem dr_cX14_number_43 : decode cX14_number 43 = .ok (.ldc2_w 68, 3) := by decide +kernel
theorem wr_7_229 : (Jvm.Cond.constantLong "SpillForgeModel$Reader" (68 : Nat) (10 : Int64)) ∈ gw := gw_7 229 rfl rfl
theorem dr_cX14_number_46 : decode cX14_number 46 = .ok (.lmul, 1) := by decide +kernel
theorem dr_cX14_number_47 : decode cX14_number 47 = .ok (.aload_n 0, 1) := by decide +kernel
theorem dr_cX14_number_48 : decode cX14_number 48 = .ok (.getfield 28, 3) := by decide +kernel
theorem dr_cX14_number_51 : decode cX14_number 51 = .ok (.aload_n 0, 1) := by decide +kernel
theorem dr_cX14_number_52 : decode cX14_number 52 = .ok (.getfield 44, 3) := by decide +kernel
theorem dr_cX14_number_55 : decode cX14_number 55 = .ok (.baload, 1) := by decide +kernel
theorem dr_cX14_number_56 : decode cX14_number 56 = .ok (.i2l, 1) := by decide +kernel
theorem dr_cX14_number_57 : decode cX14_number 57 = .ok (.ladd, 1) := by decide +kernel
theorem dr_cX14_number_58 : decode cX14_number 58 = .ok (.ldc2_w 70, 3) := by decide +kernel
theorem wr_7_230 : (Jvm.Cond.constantLong "SpillForgeModel$Reader" (70 : Nat) (48 : Int64)) ∈ gw := gw_7 230 rfl rfl
theorem dr_cX14_number_61 : decode cX14_number 61 = .ok (.lsub, 1) := by decide +kernel
theorem dr_cX14_number_62 : decode cX14_number 62 = .ok (.ldc2_w 111, 3) := by decide +kernel
theorem wr_8_222 : (Jvm.Cond.constantLong "SpillForgeModel$Reader" (111 : Nat) (1099511627776 : Int64)) ∈ gw := gw_8 222 rfl rfl
theorem dr_cX14_number_65 : decode cX14_number 65 = .ok (.invokestatic 74, 3) := by decide +kernel
theorem wr_7_232 : (Jvm.Cond.methodLink "SpillForgeModel$Reader" (74 : Nat) ({ cls := "java/lang/Math", name := "min", desc := "(JJ)J" } : Jvm.MethodName)) ∈ gw := gw_7 232 rfl rfl
theorem wr_3_40 : (Jvm.Cond.code ({ cls := "java/lang/Math", name := "min", desc := "(JJ)J" } : Jvm.MethodName) prog_32_method_70_code (4 : Nat) (Option.some Jvm.ClassFile.FieldType.long)) ∈ gw := gw_3 40 rfl rfl
theorem wr_3_39 : (Jvm.Cond.static ({ cls := "java/lang/Math", name := "min", desc := "(JJ)J" } : Jvm.MethodName)) ∈ gw := gw_3 39 rfl rfl
theorem dr_cX14_number_68 : decode cX14_number 68 = .ok (.lstore_n 2, 1) := by decide +kernel
theorem dr_cX14_number_69 : decode cX14_number 69 = .ok (.aload_n 0, 1) := by decide +kernel
theorem dr_cX14_number_70 : decode cX14_number 70 = .ok (.dup, 1) := by decide +kernel
theorem dr_cX14_number_71 : decode cX14_number 71 = .ok (.getfield 44, 3) := by decide +kernel
theorem dr_cX14_number_74 : decode cX14_number 74 = .ok (.iconst 1, 1) := by decide +kernel
theorem dr_cX14_number_75 : decode cX14_number 75 = .ok (.iadd, 1) := by decide +kernel
theorem dr_cX14_number_76 : decode cX14_number 76 = .ok (.putfield 44, 3) := by decide +kernel
theorem dr_cX14_number_79 : decode cX14_number 79 = .ok (.goto (-63), 3) := by decide +kernel
theorem dr_cX14_number_4 : decode cX14_number 4 = .ok (.aload_n 0, 1) := by decide +kernel
theorem dr_cX14_number_5 : decode cX14_number 5 = .ok (.dup, 1) := by decide +kernel
theorem dr_cX14_number_6 : decode cX14_number 6 = .ok (.getfield 44, 3) := by decide +kernel
theorem dr_cX14_number_9 : decode cX14_number 9 = .ok (.iconst 1, 1) := by decide +kernel
theorem dr_cX14_number_10 : decode cX14_number 10 = .ok (.iadd, 1) := by decide +kernel
theorem dr_cX14_number_11 : decode cX14_number 11 = .ok (.putfield 44, 3) := by decide +kernel
theorem dr_cX14_number_86 : decode cX14_number 86 = .ok (.lload_n 2, 1) := by decide +kernel
theorem dr_cX14_number_87 : decode cX14_number 87 = .ok (.lneg, 1) := by decide +kernel
theorem dr_cX14_number_88 : decode cX14_number 88 = .ok (.lstore_n 2, 1) := by decide +kernel
theorem dr_cX14_symbol_73 : decode cX14_symbol 73 = .ok (.ldc 9, 2) := by decide +kernel
theorem dr_cX14_symbol_75 : decode cX14_symbol 75 = .ok (.astore_n 2, 1) := by decide +kernel
theorem dr_cX14_symbol_76 : decode cX14_symbol 76 = .ok (.aload_n 2, 1) := by decide +kernel
theorem dr_cX14_symbol_77 : decode cX14_symbol 77 = .ok (.invokevirtual 113, 3) := by decide +kernel
theorem wr_8_227 : (Jvm.Cond.methodLink "SpillForgeModel$Reader" (113 : Nat) ({ cls := "java/lang/String", name := "length", desc := "()I" } : Jvm.MethodName)) ∈ gw := gw_8 227 rfl rfl
theorem dr_cX14_symbol_80 : decode cX14_symbol 80 = .ok (.iconst 2, 1) := by decide +kernel
theorem dr_cX14_symbol_81 : decode cX14_symbol 81 = .ok (.if_icmp .ne 39, 3) := by decide +kernel
theorem dr_cX14_symbol_120 : decode cX14_symbol 120 = .ok (.iconst 0, 1) := by decide +kernel
theorem dr_cX14_symbol_121 : decode cX14_symbol 121 = .ok (.istore_n 3, 1) := by decide +kernel
theorem dr_cX14_symbol_122 : decode cX14_symbol 122 = .ok (.aload_n 0, 1) := by decide +kernel
theorem dr_cX14_symbol_123 : decode cX14_symbol 123 = .ok (.iload_n 3, 1) := by decide +kernel
theorem dr_cX14_symbol_124 : decode cX14_symbol 124 = .ok (.ifCond .ne 19, 3) := by decide +kernel
theorem dr_cX14_symbol_127 : decode cX14_symbol 127 = .ok (.iload_n 1, 1) := by decide +kernel
theorem dr_cX14_symbol_128 : decode cX14_symbol 128 = .ok (.bipush 32, 2) := by decide +kernel
theorem dr_cX14_symbol_130 : decode cX14_symbol 130 = .ok (.if_icmp .le 17, 3) := by decide +kernel
theorem dr_cX14_symbol_147 : decode cX14_symbol 147 = .ok (.bipush 6, 2) := by decide +kernel
theorem dr_cX14_symbol_149 : decode cX14_symbol 149 = .ok (.putfield 38, 3) := by decide +kernel
theorem dr_cX14_symbol_152 : decode cX14_symbol 152 = .ok (.aload_n 0, 1) := by decide +kernel
theorem dr_cX14_symbol_153 : decode cX14_symbol 153 = .ok (.iload_n 3, 1) := by decide +kernel
theorem dr_cX14_symbol_154 : decode cX14_symbol 154 = .ok (.ifCond .eq 7, 3) := by decide +kernel
theorem dr_cX14_symbol_161 : decode cX14_symbol 161 = .ok (.iload_n 1, 1) := by decide +kernel
theorem dr_cX14_symbol_162 : decode cX14_symbol 162 = .ok (.bipush 32, 2) := by decide +kernel
theorem dr_cX14_symbol_164 : decode cX14_symbol 164 = .ok (.if_icmp .le 26, 3) := by decide +kernel
theorem dr_cX14_symbol_190 : decode cX14_symbol 190 = .ok (.ldc 9, 2) := by decide +kernel
theorem dr_cX14_symbol_192 : decode cX14_symbol 192 = .ok (.putfield 11, 3) := by decide +kernel
theorem wr_9_43 : (Jvm.Cond.fieldLink "SpillForgeModel$Reader" (11 : Nat) "SpillForgeModel$Reader" "text" "Ljava/lang/String;") ∈ gw := gw_9 43 rfl rfl
theorem dr_cX14_symbol_195 : decode cX14_symbol 195 = .ok (.aload_n 0, 1) := by decide +kernel
theorem dr_cX14_symbol_196 : decode cX14_symbol 196 = .ok (.dup, 1) := by decide +kernel
theorem dr_cX14_symbol_197 : decode cX14_symbol 197 = .ok (.getfield 44, 3) := by decide +kernel
theorem dr_cX14_symbol_200 : decode cX14_symbol 200 = .ok (.iload_n 3, 1) := by decide +kernel
theorem dr_cX14_symbol_201 : decode cX14_symbol 201 = .ok (.ifCond .eq 7, 3) := by decide +kernel
theorem dr_cX14_symbol_208 : decode cX14_symbol 208 = .ok (.iconst 1, 1) := by decide +kernel
theorem dr_cX14_symbol_209 : decode cX14_symbol 209 = .ok (.iadd, 1) := by decide +kernel
theorem dr_cX14_symbol_210 : decode cX14_symbol 210 = .ok (.putfield 44, 3) := by decide +kernel
theorem dr_cX14_symbol_213 : decode cX14_symbol 213 = .ok (.return_, 1) := by decide +kernel
theorem dr_cX14_symbol_133 : decode cX14_symbol 133 = .ok (.ldc 119, 2) := by decide +kernel
theorem dr_cX14_symbol_135 : decode cX14_symbol 135 = .ok (.iload_n 1, 1) := by decide +kernel
theorem dr_cX14_symbol_136 : decode cX14_symbol 136 = .ok (.i2c, 1) := by decide +kernel
theorem dr_cX14_symbol_137 : decode cX14_symbol 137 = .ok (.invokevirtual 121, 3) := by decide +kernel
theorem wr_8_230 : (Jvm.Cond.methodLink "SpillForgeModel$Reader" (121 : Nat) ({ cls := "java/lang/String", name := "indexOf", desc := "(I)I" } : Jvm.MethodName)) ∈ gw := gw_8 230 rfl rfl
theorem wr_8_233 : (Jvm.Cond.code ({ cls := "java/lang/String", name := "indexOf", desc := "(I)I" } : Jvm.MethodName) prog_34_method_79_code (2 : Nat) (Option.some Jvm.ClassFile.FieldType.int)) ∈ gw := gw_8 233 rfl rfl
theorem wr_8_231 : (Jvm.Cond.instanceMethod ({ cls := "java/lang/String", name := "indexOf", desc := "(I)I" } : Jvm.MethodName)) ∈ gw := gw_8 231 rfl rfl
theorem wr_8_232 : (Jvm.Cond.selects "java/lang/String" ({ cls := "java/lang/String", name := "indexOf", desc := "(I)I" } : Jvm.MethodName) ({ cls := "java/lang/String", name := "indexOf", desc := "(I)I" } : Jvm.MethodName)) ∈ gw := gw_8 232 rfl rfl
theorem dr_cX14_symbol_140 : decode cX14_symbol 140 = .ok (.ifCond .lt 7, 3) := by decide +kernel
theorem dr_cX14_symbol_167 : decode cX14_symbol 167 = .ok (.new 87, 3) := by decide +kernel
theorem wr_7_235 : (Jvm.Cond.classLink "SpillForgeModel$Reader" (87 : Nat) "java/lang/StringBuilder") ∈ gw := gw_7 235 rfl rfl
theorem dr_cX14_symbol_170 : decode cX14_symbol 170 = .ok (.dup, 1) := by decide +kernel
theorem dr_cX14_symbol_171 : decode cX14_symbol 171 = .ok (.invokespecial 89, 3) := by decide +kernel
theorem wr_7_236 : (Jvm.Cond.methodLink "SpillForgeModel$Reader" (89 : Nat) ({ cls := "java/lang/StringBuilder", name := "<init>", desc := "()V" } : Jvm.MethodName)) ∈ gw := gw_7 236 rfl rfl
theorem wr_7_47 : (Jvm.Cond.code ({ cls := "java/lang/StringBuilder", name := "<init>", desc := "()V" } : Jvm.MethodName) prog_35_method_1_code (1 : Nat) (Option.none : Option Jvm.ClassFile.FieldType)) ∈ gw := gw_7 47 rfl rfl
theorem wr_7_46 : (Jvm.Cond.instanceMethod ({ cls := "java/lang/StringBuilder", name := "<init>", desc := "()V" } : Jvm.MethodName)) ∈ gw := gw_7 46 rfl rfl
theorem dr_cX14_symbol_174 : decode cX14_symbol 174 = .ok (.ldc 9, 2) := by decide +kernel
theorem dr_cX14_symbol_176 : decode cX14_symbol 176 = .ok (.invokevirtual 102, 3) := by decide +kernel
theorem wr_8_195 : (Jvm.Cond.methodLink "SpillForgeModel$Reader" (102 : Nat) ({ cls := "java/lang/StringBuilder", name := "append", desc := "(Ljava/lang/String;)Ljava/lang/StringBuilder;" } : Jvm.MethodName)) ∈ gw := gw_8 195 rfl rfl
theorem wr_8_143 : (Jvm.Cond.code ({ cls := "java/lang/StringBuilder", name := "append", desc := "(Ljava/lang/String;)Ljava/lang/StringBuilder;" } : Jvm.MethodName) prog_35_method_7_code (2 : Nat) (Option.some (Jvm.ClassFile.FieldType.object "java/lang/StringBuilder"))) ∈ gw := gw_8 143 rfl rfl
theorem wr_8_141 : (Jvm.Cond.instanceMethod ({ cls := "java/lang/StringBuilder", name := "append", desc := "(Ljava/lang/String;)Ljava/lang/StringBuilder;" } : Jvm.MethodName)) ∈ gw := gw_8 141 rfl rfl
theorem wr_8_142 : (Jvm.Cond.selects "java/lang/StringBuilder" ({ cls := "java/lang/StringBuilder", name := "append", desc := "(Ljava/lang/String;)Ljava/lang/StringBuilder;" } : Jvm.MethodName) ({ cls := "java/lang/StringBuilder", name := "append", desc := "(Ljava/lang/String;)Ljava/lang/StringBuilder;" } : Jvm.MethodName)) ∈ gw := gw_8 142 rfl rfl
theorem dr_cX14_symbol_179 : decode cX14_symbol 179 = .ok (.iload_n 1, 1) := by decide +kernel
theorem dr_cX14_symbol_180 : decode cX14_symbol 180 = .ok (.i2c, 1) := by decide +kernel
theorem dr_cX14_symbol_181 : decode cX14_symbol 181 = .ok (.invokevirtual 90, 3) := by decide +kernel
theorem wr_7_237 : (Jvm.Cond.methodLink "SpillForgeModel$Reader" (90 : Nat) ({ cls := "java/lang/StringBuilder", name := "append", desc := "(C)Ljava/lang/StringBuilder;" } : Jvm.MethodName)) ∈ gw := gw_7 237 rfl rfl
theorem wr_8_0 : (Jvm.Cond.code ({ cls := "java/lang/StringBuilder", name := "append", desc := "(C)Ljava/lang/StringBuilder;" } : Jvm.MethodName) prog_35_method_14_code (2 : Nat) (Option.some (Jvm.ClassFile.FieldType.object "java/lang/StringBuilder"))) ∈ gw := gw_8 0 rfl rfl
theorem wr_7_238 : (Jvm.Cond.instanceMethod ({ cls := "java/lang/StringBuilder", name := "append", desc := "(C)Ljava/lang/StringBuilder;" } : Jvm.MethodName)) ∈ gw := gw_7 238 rfl rfl
theorem wr_7_239 : (Jvm.Cond.selects "java/lang/StringBuilder" ({ cls := "java/lang/StringBuilder", name := "append", desc := "(C)Ljava/lang/StringBuilder;" } : Jvm.MethodName) ({ cls := "java/lang/StringBuilder", name := "append", desc := "(C)Ljava/lang/StringBuilder;" } : Jvm.MethodName)) ∈ gw := gw_7 239 rfl rfl
theorem dr_cX14_symbol_184 : decode cX14_symbol 184 = .ok (.invokevirtual 94, 3) := by decide +kernel
theorem wr_8_66 : (Jvm.Cond.methodLink "SpillForgeModel$Reader" (94 : Nat) ({ cls := "java/lang/StringBuilder", name := "toString", desc := "()Ljava/lang/String;" } : Jvm.MethodName)) ∈ gw := gw_8 66 rfl rfl
theorem wr_8_69 : (Jvm.Cond.code ({ cls := "java/lang/StringBuilder", name := "toString", desc := "()Ljava/lang/String;" } : Jvm.MethodName) prog_35_method_42_code (1 : Nat) (Option.some (Jvm.ClassFile.FieldType.object "java/lang/String"))) ∈ gw := gw_8 69 rfl rfl
theorem wr_8_67 : (Jvm.Cond.instanceMethod ({ cls := "java/lang/StringBuilder", name := "toString", desc := "()Ljava/lang/String;" } : Jvm.MethodName)) ∈ gw := gw_8 67 rfl rfl
theorem wr_8_68 : (Jvm.Cond.selects "java/lang/StringBuilder" ({ cls := "java/lang/StringBuilder", name := "toString", desc := "()Ljava/lang/String;" } : Jvm.MethodName) ({ cls := "java/lang/StringBuilder", name := "toString", desc := "()Ljava/lang/String;" } : Jvm.MethodName)) ∈ gw := gw_8 68 rfl rfl
theorem dr_cX14_symbol_187 : decode cX14_symbol 187 = .ok (.goto 5, 3) := by decide +kernel
theorem dr_cX14_symbol_143 : decode cX14_symbol 143 = .ok (.iconst 5, 1) := by decide +kernel
theorem dr_cX14_symbol_144 : decode cX14_symbol 144 = .ok (.goto 5, 3) := by decide +kernel
theorem dr_cX14_symbol_0 : decode cX14_symbol 0 = .ok (.aload_n 0, 1) := by decide +kernel
theorem dr_cX14_symbol_1 : decode cX14_symbol 1 = .ok (.getfield 44, 3) := by decide +kernel
theorem dr_cX14_symbol_4 : decode cX14_symbol 4 = .ok (.iconst 1, 1) := by decide +kernel
theorem dr_cX14_symbol_5 : decode cX14_symbol 5 = .ok (.iadd, 1) := by decide +kernel
theorem dr_cX14_symbol_6 : decode cX14_symbol 6 = .ok (.aload_n 0, 1) := by decide +kernel
theorem dr_cX14_symbol_7 : decode cX14_symbol 7 = .ok (.getfield 32, 3) := by decide +kernel
theorem dr_cX14_symbol_10 : decode cX14_symbol 10 = .ok (.if_icmp .ge 63, 3) := by decide +kernel
theorem dr_cX14_symbol_13 : decode cX14_symbol 13 = .ok (.aload_n 0, 1) := by decide +kernel
theorem dr_cX14_symbol_14 : decode cX14_symbol 14 = .ok (.getfield 28, 3) := by decide +kernel
theorem dr_cX14_symbol_17 : decode cX14_symbol 17 = .ok (.aload_n 0, 1) := by decide +kernel
theorem dr_cX14_symbol_18 : decode cX14_symbol 18 = .ok (.getfield 44, 3) := by decide +kernel
theorem dr_cX14_symbol_21 : decode cX14_symbol 21 = .ok (.iconst 1, 1) := by decide +kernel
theorem dr_cX14_symbol_22 : decode cX14_symbol 22 = .ok (.iadd, 1) := by decide +kernel
theorem dr_cX14_symbol_23 : decode cX14_symbol 23 = .ok (.baload, 1) := by decide +kernel
theorem dr_cX14_symbol_24 : decode cX14_symbol 24 = .ok (.bipush 32, 2) := by decide +kernel
theorem dr_cX14_symbol_26 : decode cX14_symbol 26 = .ok (.if_icmp .le 47, 3) := by decide +kernel
theorem dr_cX14_symbol_29 : decode cX14_symbol 29 = .ok (.iload_n 1, 1) := by decide +kernel
theorem dr_cX14_symbol_30 : decode cX14_symbol 30 = .ok (.bipush 32, 2) := by decide +kernel
theorem dr_cX14_symbol_32 : decode cX14_symbol 32 = .ok (.if_icmp .le 41, 3) := by decide +kernel
theorem dr_cX14_symbol_35 : decode cX14_symbol 35 = .ok (.new 87, 3) := by decide +kernel
theorem dr_cX14_symbol_38 : decode cX14_symbol 38 = .ok (.dup, 1) := by decide +kernel
theorem dr_cX14_symbol_39 : decode cX14_symbol 39 = .ok (.invokespecial 89, 3) := by decide +kernel
theorem dr_cX14_symbol_42 : decode cX14_symbol 42 = .ok (.ldc 9, 2) := by decide +kernel
theorem dr_cX14_symbol_44 : decode cX14_symbol 44 = .ok (.invokevirtual 102, 3) := by decide +kernel
theorem dr_cX14_symbol_47 : decode cX14_symbol 47 = .ok (.iload_n 1, 1) := by decide +kernel
theorem dr_cX14_symbol_48 : decode cX14_symbol 48 = .ok (.i2c, 1) := by decide +kernel
theorem dr_cX14_symbol_49 : decode cX14_symbol 49 = .ok (.invokevirtual 90, 3) := by decide +kernel
theorem dr_cX14_symbol_52 : decode cX14_symbol 52 = .ok (.aload_n 0, 1) := by decide +kernel
theorem dr_cX14_symbol_53 : decode cX14_symbol 53 = .ok (.getfield 28, 3) := by decide +kernel
theorem dr_cX14_symbol_56 : decode cX14_symbol 56 = .ok (.aload_n 0, 1) := by decide +kernel
theorem dr_cX14_symbol_57 : decode cX14_symbol 57 = .ok (.getfield 44, 3) := by decide +kernel
theorem dr_cX14_symbol_60 : decode cX14_symbol 60 = .ok (.iconst 1, 1) := by decide +kernel
theorem dr_cX14_symbol_61 : decode cX14_symbol 61 = .ok (.iadd, 1) := by decide +kernel
theorem dr_cX14_symbol_62 : decode cX14_symbol 62 = .ok (.baload, 1) := by decide +kernel
theorem dr_cX14_symbol_63 : decode cX14_symbol 63 = .ok (.i2c, 1) := by decide +kernel
theorem dr_cX14_symbol_64 : decode cX14_symbol 64 = .ok (.invokevirtual 90, 3) := by decide +kernel
theorem dr_cX14_symbol_67 : decode cX14_symbol 67 = .ok (.invokevirtual 94, 3) := by decide +kernel
theorem dr_cX14_symbol_70 : decode cX14_symbol 70 = .ok (.goto 5, 3) := by decide +kernel
theorem dr_cX14_symbol_84 : decode cX14_symbol 84 = .ok (.ldc 117, 2) := by decide +kernel
theorem dr_cX14_symbol_86 : decode cX14_symbol 86 = .ok (.new 87, 3) := by decide +kernel
theorem dr_cX14_symbol_89 : decode cX14_symbol 89 = .ok (.dup, 1) := by decide +kernel
theorem dr_cX14_symbol_90 : decode cX14_symbol 90 = .ok (.invokespecial 89, 3) := by decide +kernel
theorem dr_cX14_symbol_93 : decode cX14_symbol 93 = .ok (.ldc 100, 2) := by decide +kernel
theorem dr_cX14_symbol_95 : decode cX14_symbol 95 = .ok (.invokevirtual 102, 3) := by decide +kernel
theorem dr_cX14_symbol_98 : decode cX14_symbol 98 = .ok (.aload_n 2, 1) := by decide +kernel
theorem dr_cX14_symbol_99 : decode cX14_symbol 99 = .ok (.invokevirtual 102, 3) := by decide +kernel
theorem dr_cX14_symbol_102 : decode cX14_symbol 102 = .ok (.ldc 100, 2) := by decide +kernel
theorem dr_cX14_symbol_104 : decode cX14_symbol 104 = .ok (.invokevirtual 102, 3) := by decide +kernel
theorem dr_cX14_symbol_107 : decode cX14_symbol 107 = .ok (.invokevirtual 94, 3) := by decide +kernel
theorem dr_cX14_symbol_110 : decode cX14_symbol 110 = .ok (.invokevirtual 105, 3) := by decide +kernel
theorem wr_8_196 : (Jvm.Cond.methodLink "SpillForgeModel$Reader" (105 : Nat) ({ cls := "java/lang/String", name := "indexOf", desc := "(Ljava/lang/String;)I" } : Jvm.MethodName)) ∈ gw := gw_8 196 rfl rfl
theorem wr_8_199 : (Jvm.Cond.code ({ cls := "java/lang/String", name := "indexOf", desc := "(Ljava/lang/String;)I" } : Jvm.MethodName) prog_34_method_84_code (3 : Nat) (Option.some Jvm.ClassFile.FieldType.int)) ∈ gw := gw_8 199 rfl rfl
theorem wr_8_197 : (Jvm.Cond.instanceMethod ({ cls := "java/lang/String", name := "indexOf", desc := "(Ljava/lang/String;)I" } : Jvm.MethodName)) ∈ gw := gw_8 197 rfl rfl
theorem wr_8_198 : (Jvm.Cond.selects "java/lang/String" ({ cls := "java/lang/String", name := "indexOf", desc := "(Ljava/lang/String;)I" } : Jvm.MethodName) ({ cls := "java/lang/String", name := "indexOf", desc := "(Ljava/lang/String;)I" } : Jvm.MethodName)) ∈ gw := gw_8 198 rfl rfl
theorem dr_cX14_symbol_113 : decode cX14_symbol 113 = .ok (.ifCond .lt 7, 3) := by decide +kernel
theorem dr_cX14_symbol_116 : decode cX14_symbol 116 = .ok (.iconst 1, 1) := by decide +kernel
theorem dr_cX14_symbol_117 : decode cX14_symbol 117 = .ok (.goto 4, 3) := by decide +kernel
theorem dr_cX14_symbol_157 : decode cX14_symbol 157 = .ok (.aload_n 2, 1) := by decide +kernel
theorem dr_cX14_symbol_158 : decode cX14_symbol 158 = .ok (.goto 34, 3) := by decide +kernel
theorem dr_cX14_symbol_204 : decode cX14_symbol 204 = .ok (.iconst 2, 1) := by decide +kernel
theorem dr_cX14_symbol_205 : decode cX14_symbol 205 = .ok (.goto 4, 3) := by decide +kernel
abbrev ky_668239_Reader_number : gKey := (cX14_number, 4, "SpillForgeModel$Reader", none, [], "number", fun _ _ => True)
def pp_668239_Reader_number (D : va_G) (I : FieldType → ClassId) (P668215 : List Nat) (F668216 : Nat → va_E) (q668217 : Nat) (q668218 : Nat) (p668219 : Int32) (p668220 : Int32) (p668221 : Int32) (p668222 : Int32) (p668223 : Int32) (p668224 : Int32) (p668225 : Int32) (qo668226 : Nat) (p668227 : Int32) (p668228 : Int32) (p668229 : Int32) (qo668230 : Nat) (qo668231 : Nat) (p668232 : Int32) (f668233 : Nat → Int32) : Option Value → va_W → Nat → Nat → Prop := fun r w dc ds => ∃ (F668837 : Nat → va_E) (o668833 : Int32) (o668834 : Int32) (o668835 : Int32) (xt668838 : gTx), r = none ∧ w = va_pl P668215 F668837 ∧ rFr [q668217] P668215 F668216 F668837 ∧ F668837 q668217 = .inr (19, [.ref q668218, .int p668220, .int o668833, .int o668834, .int p668223, .int o668835, .int p668225, .ref qo668226, .int p668227, .int p668228, .int p668229, .ref qo668230, .ref qo668231, .int p668232]) ∧ F668837 q668218 = .inl (I .byte, 8192, .inl f668233) ∧ dc ≤ (16 * (o668833.toInt - p668221.toInt)).toNat ∧ ds ≤ (160 * (o668833.toInt - p668221.toInt)).toNat ∧ gB o668833 0 8192 ∧ gB o668834 4 6 ∧ p668221.toInt < o668833.toInt ∧ o668833.toInt ≤ p668220.toInt ∧ tP I P668215 F668837 o668834 qo668226 qo668231 qo668230 xt668838 ∧ vP o668834 o668835 ∧ tr_RReader_number p668219 p668220 p668221 f668233 o668833 o668834 o668835 xt668838
set_option maxRecDepth 100000 in
set_option maxHeartbeats 4000000 in
theorem cp_668239_Reader_number (l : Launch) (hl0 : l.stackTraces = false) (D : va_G) (I : FieldType → ClassId) (P668215 : List Nat) (F668216 : Nat → va_E) (q668217 : Nat) (q668218 : Nat) (p668219 : Int32) (p668220 : Int32) (p668221 : Int32) (p668222 : Int32) (p668223 : Int32) (p668224 : Int32) (p668225 : Int32) (qo668226 : Nat) (p668227 : Int32) (p668228 : Int32) (p668229 : Int32) (qo668230 : Nat) (qo668231 : Nat) (p668232 : Int32) (f668233 : Nat → Int32) (hmq668217 : q668217 ∈ P668215) (hmq668218 : q668218 ∈ P668215) (heq668217 : F668216 q668217 = .inr (19, [.ref q668218, .int p668220, .int p668221, .int p668222, .int p668223, .int p668224, .int p668225, .ref qo668226, .int p668227, .int p668228, .int p668229, .ref qo668230, .ref qo668231, .int p668232])) (heq668218 : F668216 q668218 = .inl (I .byte, 8192, .inl f668233)) (bp668219 : gB p668219 0 1) (bp668220 : gB p668220 0 8192) (bp668221 : gB p668221 0 8192) (bp668222 : gB p668222 0 6) (bp668223 : gB p668223 0 8192) (bp668225 : gB p668225 0 6) (bp668227 : gB p668227 (-1) 8192) (bp668228 : gB p668228 0 4) (bp668229 : gB p668229 0 1000000) (bp668232 : gB p668232 0 1000000) (bf668233 : gF f668233 (-128) 127) (x668234 : p668221.toInt ≤ p668220.toInt) (x668235 : p668221.toInt < p668220.toInt) (x668236 : cDg f668233 p668221 p668219) (x668237 : qo668231 ∈ P668215) (x668238 : qo668230 ∈ P668215) : CtA (gV D I) l yX14_number cX14_number 4 none 1 23 ((16 * (p668220.toInt - p668221.toInt)).toNat) ((160 * (p668220.toInt - p668221.toInt)).toNat) [.ref q668217, .int p668219] (va_pl P668215 F668216) (pp_668239_Reader_number D I P668215 F668216 q668217 q668218 p668219 p668220 p668221 p668222 p668223 p668224 p668225 qo668226 p668227 p668228 p668229 qo668230 qo668231 p668232 f668233) gNA := by
  refine CtA_of hl0 (by decide) (Nat.le_of_ble_eq_true rfl) ?_
  have bp668224 := gB_any p668224
  refine G_iload_n 1 dr_cX14_number_0 rfl ?_
  refine G_if_eq 14 dr_cX14_number_1 (by decide +kernel) (fun hc668240 => ?_) (fun hc668240 => ?_)
  · have r668241 : p668219.toInt = 0 := gj_eq hc668240 (show Int32.toInt 0 = 0 by decide)
    have bp668219' : gB p668219 0 0 := ⟨by omega, by omega⟩
    refine G_lconst 0 dr_cX14_number_14 rfl ?_
    refine G_lstore_n (L' := [(2, .long 0), (0, .ref q668217), (1, .int p668219)]) dr_cX14_number_15 (Nat.le_of_ble_eq_true rfl) rfl ?_
    have hlp16_668451 : ∀ (n16_668451 : Nat) (F668445 : Nat → va_E) (gl668443 : Int64) (g668444 : Int32), gB g668444 0 8192 → rFr [q668217] P668215 F668216 F668445 → F668445 q668217 = .inr (19, [.ref q668218, .int p668220, .int g668444, .int p668222, .int p668223, .int p668224, .int p668225, .ref qo668226, .int p668227, .int p668228, .int p668229, .ref qo668230, .ref qo668231, .int p668232]) → F668445 q668218 = .inl (I .byte, 8192, .inl f668233) → p668221.toInt ≤ g668444.toInt → g668444.toInt ≤ p668220.toInt → (p668219.toInt = 0 ∨ p668221.toInt < g668444.toInt) → (∀ (k : Nat) (e1 : Int64) (e2 : Int32), tl_RReader_number_16 p668220 f668233 gl668443 g668444 k e1 e2 → tl_RReader_number_16 p668220 f668233 (0 : Int64) p668221 k e1 e2) → ((8193 : Int) - g668444.toInt).toNat < n16_668451 → G (gV D I) l (gRm 1 23 ((16 * (p668220.toInt - p668221.toInt)).toNat) ((160 * (p668220.toInt - p668221.toInt)).toNat)) (gMA (gV D I) (pp_668239_Reader_number D I P668215 F668216 q668217 q668218 p668219 p668220 p668221 p668222 p668223 p668224 p668225 qo668226 p668227 p668228 p668229 qo668230 qo668231 p668232 f668233) gNA ((16 * (p668220.toInt - p668221.toInt)).toNat) ((160 * (p668220.toInt - p668221.toInt)).toNat)) ky_668239_Reader_number 16 [(2, .long gl668443), (0, .ref q668217), (1, .int p668219)] [] (va_pl P668215 F668445) 0 0 := by
      intro n16_668451
      induction n16_668451 with
      | zero => intro F668445 gl668443 g668444 bg668444 hfr668448 he668446 he668447 x668449 x668450 x668451 kt16_668451 hm16_668451; exact absurd hm16_668451 (Nat.not_lt_zero _)
      | succ n16_668451 ih16_668451 =>
        intro F668445 gl668443 g668444 bg668444 hfr668448 he668446 he668447 x668449 x668450 x668451 kt16_668451 hm16_668451
        refine G_aload_n 1 dr_cX14_number_16 rfl ?_
        refine Gp_get 2 hmq668217 he668446 dr_cX14_number_17 (gk_X14 D I) (Nat.le_of_ble_eq_true rfl) wr_9_38 rfl ?_
        refine G_aload_n 1 dr_cX14_number_20 rfl ?_
        refine Gp_get 1 hmq668217 he668446 dr_cX14_number_21 (gk_X14 D I) (Nat.le_of_ble_eq_true rfl) wr_9_37 rfl ?_
        refine G_icmp_ge 82 dr_cX14_number_24 (by decide +kernel) (fun hc668452 => ?_) (fun hc668452 => ?_)
        · have r668453 : p668220.toInt ≤ g668444.toInt := gC_le hc668452
          have hx668454 : tl_RReader_number_16 p668220 f668233 (0 : Int64) p668221 82 gl668443 g668444 := kt16_668451 82 gl668443 g668444 (fun R c1 c2 c3 => c1 gl668443 g668444 bg668444 r668453)
          have x668455 : p668221.toInt < g668444.toInt := by first | omega | exact cDg_lt x668236 (by omega) (by assumption) (isP_0 (by assumption) (by omega)) (by omega)
          refine G_iload_n 2 dr_cX14_number_82 rfl ?_
          refine G_if_eq 89 dr_cX14_number_83 (by decide +kernel) (fun _ => ?_) (fun hc => absurd (show False by have := gj_neq hc (show Int32.toInt 0 = 0 by decide); omega) not_false)
          refine G_aload_n 1 dr_cX14_number_89 rfl ?_
          refine G_lload_n 0 dr_cX14_number_90 rfl ?_
          refine G_l2i dr_cX14_number_91 (G_nam fun z668456 hz668456 => ?_)
          have bz668456 : gB z668456 (-2147483648) 2147483647 := gB_any z668456
          refine Gp_put 5 hmq668217 he668446 dr_cX14_number_92 (gk_X14 D I) (Nat.le_of_ble_eq_true rfl) wr_9_41 rfl rfl rfl (Nat.le_of_ble_eq_true rfl) (fun F668457 e668458 n668459 => ?_)
          have he668460 : F668457 q668218 = .inl (I .byte, 8192, .inl f668233) := (n668459 q668218 (rn_ao he668447 he668446)).trans he668447
          have he668461 : F668457 q668217 = .inr (19, [.ref q668218, .int p668220, .int g668444, .int p668222, .int p668223, .int z668456, .int p668225, .ref qo668226, .int p668227, .int p668228, .int p668229, .ref qo668230, .ref qo668231, .int p668232]) := e668458
          have hfr668462 : rFr [q668217] P668215 F668216 F668457 := rFr_put' List.mem_cons_self hfr668448 n668459
          refine G_aload_n 1 dr_cX14_number_95 rfl ?_
          refine G_lload_n 0 dr_cX14_number_96 rfl ?_
          refine G_lload_n 0 dr_cX14_number_97 rfl ?_
          refine G_l2i dr_cX14_number_98 (G_nam fun z668463 hz668463 => ?_)
          have bz668463 : gB z668463 (-2147483648) 2147483647 := gB_any z668463
          refine G_i2l dr_cX14_number_99 (G_namL fun u668464 hu668464 => ?_)
          refine G_lcmp dr_cX14_number_100 (G_nam fun z668465 hz668465 => ?_)
          have bz668465 : gB z668465 (-1) 1 := gB_cmp hz668465
          refine G_if_ne 108 dr_cX14_number_101 (by decide +kernel) (fun hc668466 => ?_) (fun hc668466 => ?_)
          · have r668467 : z668465.toInt ≠ 0 := gj_neq hc668466 (show Int32.toInt 0 = 0 by decide)
            have lhc668466 := gC_cmpN hz668465 hc668466
            refine G_bipush 6 dr_cX14_number_108 (by decide +kernel) ?_
            refine Gp_put 3 hmq668217 he668461 dr_cX14_number_110 (gk_X14 D I) (Nat.le_of_ble_eq_true rfl) wr_9_39 rfl rfl rfl (Nat.le_of_ble_eq_true rfl) (fun F668468 e668469 n668470 => ?_)
            have he668471 : F668468 q668218 = .inl (I .byte, 8192, .inl f668233) := (n668470 q668218 (rn_ao he668460 he668461)).trans he668460
            have he668472 : F668468 q668217 = .inr (19, [.ref q668218, .int p668220, .int g668444, .int 6, .int p668223, .int z668456, .int p668225, .ref qo668226, .int p668227, .int p668228, .int p668229, .ref qo668230, .ref qo668231, .int p668232]) := e668469
            have hfr668473 : rFr [q668217] P668215 F668216 F668468 := rFr_put' List.mem_cons_self hfr668462 n668470
            exact G_vretA dr_cX14_number_113 rfl (show 0 ≤ ((16 * (p668220.toInt - p668221.toInt)).toNat) by omega) (show 0 ≤ ((160 * (p668220.toInt - p668221.toInt)).toNat) by omega) ⟨F668468, g668444, 6, z668456, (0, fun _ => 0), rfl, rfl, hfr668473, he668472, he668471, (by omega), (by omega), bg668444, (gB_w (gBl (show Int32.toInt 6 = 6 by decide)) (by decide) (by decide)), (by have qa0 : Int32.toInt 6 = 6 := (by decide); omega), (by have qa0 : Int32.toInt 6 = 6 := (by decide); omega), (tP_no (by decide) (by decide)), (vP_no (by decide) (by decide)), (fun R c1 c2 c3 c4 => c1 gl668443 g668444 z668456 z668463 u668464 r668241 hx668454 hz668456 hz668463 hu668464 lhc668466)⟩
          · have r668474 : z668465.toInt = 0 := gj_eq hc668466 (show Int32.toInt 0 = 0 by decide)
            have bz668465' : gB z668465 0 0 := ⟨by omega, by omega⟩
            have lhc668466 := gC_cmpE hz668465 hc668466
            refine G_iconst 4 dr_cX14_number_104 (by decide +kernel) ?_
            refine G_goto 110 dr_cX14_number_105 (by decide +kernel) ?_
            refine Gp_put 3 hmq668217 he668461 dr_cX14_number_110 (gk_X14 D I) (Nat.le_of_ble_eq_true rfl) wr_9_39 rfl rfl rfl (Nat.le_of_ble_eq_true rfl) (fun F668475 e668476 n668477 => ?_)
            have he668478 : F668475 q668218 = .inl (I .byte, 8192, .inl f668233) := (n668477 q668218 (rn_ao he668460 he668461)).trans he668460
            have he668479 : F668475 q668217 = .inr (19, [.ref q668218, .int p668220, .int g668444, .int 4, .int p668223, .int z668456, .int p668225, .ref qo668226, .int p668227, .int p668228, .int p668229, .ref qo668230, .ref qo668231, .int p668232]) := e668476
            have hfr668480 : rFr [q668217] P668215 F668216 F668475 := rFr_put' List.mem_cons_self hfr668462 n668477
            exact G_vretA dr_cX14_number_113 rfl (show 0 ≤ ((16 * (p668220.toInt - p668221.toInt)).toNat) by omega) (show 0 ≤ ((160 * (p668220.toInt - p668221.toInt)).toNat) by omega) ⟨F668475, g668444, 4, z668456, (0, fun _ => 0), rfl, rfl, hfr668480, he668479, he668478, (by omega), (by omega), bg668444, (gB_w (gBl (show Int32.toInt 4 = 4 by decide)) (by decide) (by decide)), (by have qa0 : Int32.toInt 4 = 4 := (by decide); omega), (by have qa0 : Int32.toInt 4 = 4 := (by decide); omega), (tP_no (by decide) (by decide)), (vP_no (by decide) (by decide)), (fun R c1 c2 c3 c4 => c2 gl668443 g668444 z668456 z668463 u668464 r668241 hx668454 hz668456 hz668463 hu668464 lhc668466)⟩
        · have r668481 : g668444.toInt < p668220.toInt := gC_nle hc668452
          have bg668444' : gB g668444 0 8191 := ⟨by omega, by omega⟩
          have bp668220' : gB p668220 1 8192 := ⟨by omega, by omega⟩
          refine G_aload_n 1 dr_cX14_number_27 rfl ?_
          refine Gp_get 0 hmq668217 he668446 dr_cX14_number_28 (gk_X14 D I) (Nat.le_of_ble_eq_true rfl) wr_9_36 rfl ?_
          refine G_aload_n 1 dr_cX14_number_31 rfl ?_
          refine Gp_get 2 hmq668217 he668446 dr_cX14_number_32 (gk_X14 D I) (Nat.le_of_ble_eq_true rfl) wr_9_38 rfl ?_
          refine Gp_bald 1 hmq668218 he668447 dr_cX14_number_35 rfl (gB_in bg668444' (by decide) (by decide)) (G_nam fun z668482 hz668482 => ?_)
          have bz668482 : gB z668482 (-128) 127 := by rw [hz668482]; exact bf668233 _
          refine Gw_callS (As := [.int z668482]) (gV_ok D I) (cp_668275_Reader_isDigit l hl0 D I P668215 F668445 z668482 ) dr_cX14_number_36 ⟨wr_7_219, wr_1_32, wr_7_221, by decide, rfl, (Nat.le_of_ble_eq_true rfl), (Nat.le_of_ble_eq_true rfl)⟩ wr_7_220 (show 0 + 0 ≤ ((16 * (p668220.toInt - p668221.toInt)).toNat) by first | omega | decide) (show 0 + 0 ≤ ((160 * (p668220.toInt - p668221.toInt)).toNat) by first | omega | decide) (Nat.le_of_ble_eq_true rfl) (fun r668486 w668487 dc668483 ds668484 hp668485 => ?_) (fun _ _ _ _ _ z => z.elim)
          obtain ⟨o668488, rfl, rfl, hdc, hds, bo668488, x668489, ht668490⟩ := hp668485
          change G _ _ _ _ _ _ _ (.int o668488 :: _) _ _ _
          refine G_widen (cs' := 0) (sl' := 0) (by omega) (by omega) ?_
          refine G_if_eq 82 dr_cX14_number_39 (by decide +kernel) (fun hc668491 => ?_) (fun hc668491 => ?_)
          · have r668492 : o668488.toInt = 0 := gj_eq hc668491 (show Int32.toInt 0 = 0 by decide)
            have bo668488' : gB o668488 0 0 := ⟨by omega, by omega⟩
            have hx668493 : tl_RReader_number_16 p668220 f668233 (0 : Int64) p668221 82 gl668443 g668444 := kt16_668451 82 gl668443 g668444 (fun R c1 c2 c3 => c2 gl668443 g668444 z668482 o668488 bg668444 r668481 hz668482 bz668482 bo668488 ht668490 r668492)
            have x668494 : p668221.toInt < g668444.toInt := by first | omega | exact cDg_lt x668236 (by omega) (by assumption) (isP_0 (by assumption) (by omega)) (by omega)
            refine G_iload_n 2 dr_cX14_number_82 rfl ?_
            refine G_if_eq 89 dr_cX14_number_83 (by decide +kernel) (fun _ => ?_) (fun hc => absurd (show False by have := gj_neq hc (show Int32.toInt 0 = 0 by decide); omega) not_false)
            refine G_aload_n 1 dr_cX14_number_89 rfl ?_
            refine G_lload_n 0 dr_cX14_number_90 rfl ?_
            refine G_l2i dr_cX14_number_91 (G_nam fun z668495 hz668495 => ?_)
            have bz668495 : gB z668495 (-2147483648) 2147483647 := gB_any z668495
            refine Gp_put 5 hmq668217 he668446 dr_cX14_number_92 (gk_X14 D I) (Nat.le_of_ble_eq_true rfl) wr_9_41 rfl rfl rfl (Nat.le_of_ble_eq_true rfl) (fun F668496 e668497 n668498 => ?_)
            have he668499 : F668496 q668218 = .inl (I .byte, 8192, .inl f668233) := (n668498 q668218 (rn_ao he668447 he668446)).trans he668447
            have he668500 : F668496 q668217 = .inr (19, [.ref q668218, .int p668220, .int g668444, .int p668222, .int p668223, .int z668495, .int p668225, .ref qo668226, .int p668227, .int p668228, .int p668229, .ref qo668230, .ref qo668231, .int p668232]) := e668497
            have hfr668501 : rFr [q668217] P668215 F668216 F668496 := rFr_put' List.mem_cons_self hfr668448 n668498
            refine G_aload_n 1 dr_cX14_number_95 rfl ?_
            refine G_lload_n 0 dr_cX14_number_96 rfl ?_
            refine G_lload_n 0 dr_cX14_number_97 rfl ?_
            refine G_l2i dr_cX14_number_98 (G_nam fun z668502 hz668502 => ?_)
            have bz668502 : gB z668502 (-2147483648) 2147483647 := gB_any z668502
            refine G_i2l dr_cX14_number_99 (G_namL fun u668503 hu668503 => ?_)
            refine G_lcmp dr_cX14_number_100 (G_nam fun z668504 hz668504 => ?_)
            have bz668504 : gB z668504 (-1) 1 := gB_cmp hz668504
            refine G_if_ne 108 dr_cX14_number_101 (by decide +kernel) (fun hc668505 => ?_) (fun hc668505 => ?_)
            · have r668506 : z668504.toInt ≠ 0 := gj_neq hc668505 (show Int32.toInt 0 = 0 by decide)
              have lhc668505 := gC_cmpN hz668504 hc668505
              refine G_bipush 6 dr_cX14_number_108 (by decide +kernel) ?_
              refine Gp_put 3 hmq668217 he668500 dr_cX14_number_110 (gk_X14 D I) (Nat.le_of_ble_eq_true rfl) wr_9_39 rfl rfl rfl (Nat.le_of_ble_eq_true rfl) (fun F668507 e668508 n668509 => ?_)
              have he668510 : F668507 q668218 = .inl (I .byte, 8192, .inl f668233) := (n668509 q668218 (rn_ao he668499 he668500)).trans he668499
              have he668511 : F668507 q668217 = .inr (19, [.ref q668218, .int p668220, .int g668444, .int 6, .int p668223, .int z668495, .int p668225, .ref qo668226, .int p668227, .int p668228, .int p668229, .ref qo668230, .ref qo668231, .int p668232]) := e668508
              have hfr668512 : rFr [q668217] P668215 F668216 F668507 := rFr_put' List.mem_cons_self hfr668501 n668509
              exact G_vretA dr_cX14_number_113 rfl (show 0 ≤ ((16 * (p668220.toInt - p668221.toInt)).toNat) by omega) (show 0 ≤ ((160 * (p668220.toInt - p668221.toInt)).toNat) by omega) ⟨F668507, g668444, 6, z668495, (0, fun _ => 0), rfl, rfl, hfr668512, he668511, he668510, (by omega), (by omega), (gB_w bg668444' (by decide) (by decide)), (gB_w (gBl (show Int32.toInt 6 = 6 by decide)) (by decide) (by decide)), (by have qa0 : Int32.toInt 6 = 6 := (by decide); omega), (by have qa0 : Int32.toInt 6 = 6 := (by decide); omega), (tP_no (by decide) (by decide)), (vP_no (by decide) (by decide)), (fun R c1 c2 c3 c4 => c1 gl668443 g668444 z668495 z668502 u668503 r668241 hx668493 hz668495 hz668502 hu668503 lhc668505)⟩
            · have r668513 : z668504.toInt = 0 := gj_eq hc668505 (show Int32.toInt 0 = 0 by decide)
              have bz668504' : gB z668504 0 0 := ⟨by omega, by omega⟩
              have lhc668505 := gC_cmpE hz668504 hc668505
              refine G_iconst 4 dr_cX14_number_104 (by decide +kernel) ?_
              refine G_goto 110 dr_cX14_number_105 (by decide +kernel) ?_
              refine Gp_put 3 hmq668217 he668500 dr_cX14_number_110 (gk_X14 D I) (Nat.le_of_ble_eq_true rfl) wr_9_39 rfl rfl rfl (Nat.le_of_ble_eq_true rfl) (fun F668514 e668515 n668516 => ?_)
              have he668517 : F668514 q668218 = .inl (I .byte, 8192, .inl f668233) := (n668516 q668218 (rn_ao he668499 he668500)).trans he668499
              have he668518 : F668514 q668217 = .inr (19, [.ref q668218, .int p668220, .int g668444, .int 4, .int p668223, .int z668495, .int p668225, .ref qo668226, .int p668227, .int p668228, .int p668229, .ref qo668230, .ref qo668231, .int p668232]) := e668515
              have hfr668519 : rFr [q668217] P668215 F668216 F668514 := rFr_put' List.mem_cons_self hfr668501 n668516
              exact G_vretA dr_cX14_number_113 rfl (show 0 ≤ ((16 * (p668220.toInt - p668221.toInt)).toNat) by omega) (show 0 ≤ ((160 * (p668220.toInt - p668221.toInt)).toNat) by omega) ⟨F668514, g668444, 4, z668495, (0, fun _ => 0), rfl, rfl, hfr668519, he668518, he668517, (by omega), (by omega), (gB_w bg668444' (by decide) (by decide)), (gB_w (gBl (show Int32.toInt 4 = 4 by decide)) (by decide) (by decide)), (by have qa0 : Int32.toInt 4 = 4 := (by decide); omega), (by have qa0 : Int32.toInt 4 = 4 := (by decide); omega), (tP_no (by decide) (by decide)), (vP_no (by decide) (by decide)), (fun R c1 c2 c3 c4 => c2 gl668443 g668444 z668495 z668502 u668503 r668241 hx668493 hz668495 hz668502 hu668503 lhc668505)⟩
          · have r668520 : o668488.toInt ≠ 0 := gj_neq hc668491 (show Int32.toInt 0 = 0 by decide)
            have bo668488' : gB o668488 1 1 := ⟨by omega, by omega⟩
            have bi668521 : gB z668482 48 57 := isP_1 x668489 (by omega)
            refine G_lload_n 0 dr_cX14_number_42 rfl ?_
            refine G_ldc2 10 dr_cX14_number_43 wr_7_229 ?_
            refine G_lmul dr_cX14_number_46 (G_namL fun u668522 hu668522 => ?_)
            refine G_aload_n 1 dr_cX14_number_47 rfl ?_
            refine Gp_get 0 hmq668217 he668446 dr_cX14_number_48 (gk_X14 D I) (Nat.le_of_ble_eq_true rfl) wr_9_36 rfl ?_
            refine G_aload_n 1 dr_cX14_number_51 rfl ?_
            refine Gp_get 2 hmq668217 he668446 dr_cX14_number_52 (gk_X14 D I) (Nat.le_of_ble_eq_true rfl) wr_9_38 rfl ?_
            refine Gp_bald 1 hmq668218 he668447 dr_cX14_number_55 rfl (gB_in bg668444' (by decide) (by decide)) (G_eqi (y := z668482) hz668482.symm ?_)
            refine G_i2l dr_cX14_number_56 (G_namL fun u668523 hu668523 => ?_)
            refine G_ladd dr_cX14_number_57 (G_namL fun u668524 hu668524 => ?_)
            refine G_ldc2 48 dr_cX14_number_58 wr_7_230 ?_
            refine G_lsub dr_cX14_number_61 (G_namL fun u668525 hu668525 => ?_)
            refine G_ldc2 1099511627776 dr_cX14_number_62 wr_8_222 ?_
            refine Gw_callS (As := [.long u668525, .long 1099511627776]) (gV_ok D I) (cp_668329_Math_min l hl0 D I P668215 F668445 u668525 1099511627776 ) dr_cX14_number_65 ⟨wr_7_232, wr_1_6, wr_3_40, by decide, rfl, (Nat.le_of_ble_eq_true rfl), (Nat.le_of_ble_eq_true rfl)⟩ wr_3_39 (show 0 + 0 ≤ ((16 * (p668220.toInt - p668221.toInt)).toNat) by first | omega | decide) (show 0 + 0 ≤ ((160 * (p668220.toInt - p668221.toInt)).toNat) by first | omega | decide) (Nat.le_of_ble_eq_true rfl) (fun r668529 w668530 dc668526 ds668527 hp668528 => ?_) (fun _ _ _ _ _ z => z.elim)
            obtain ⟨ol668531, rfl, rfl, hdc, hds, x668532, ht668533⟩ := hp668528
            change G _ _ _ _ _ _ _ (.long ol668531 :: _) _ _ _
            refine G_widen (cs' := 0) (sl' := 0) (by omega) (by omega) ?_
            refine G_lstore_n (L' := [(2, .long ol668531), (0, .ref q668217), (1, .int p668219)]) dr_cX14_number_68 (Nat.le_of_ble_eq_true rfl) rfl ?_
            refine G_aload_n 1 dr_cX14_number_69 rfl ?_
            refine G_dup dr_cX14_number_70 rfl ?_
            refine Gp_get 2 hmq668217 he668446 dr_cX14_number_71 (gk_X14 D I) (Nat.le_of_ble_eq_true rfl) wr_9_38 rfl ?_
            refine G_iconst 1 dr_cX14_number_74 (by decide +kernel) ?_
            refine G_iadd dr_cX14_number_75 (G_nam fun z668534 hz668534 => ?_)
            have ez668534 : z668534.toInt = g668444.toInt + 1 := by rw [gI_add hz668534 bg668444' (gBl (show Int32.toInt 1 = 1 by decide)) (by decide) (by decide), show Int32.toInt 1 = 1 from by decide]
            have bz668534 : gB z668534 1 8192 := gB_add (gI_add hz668534 bg668444' (gBl (show Int32.toInt 1 = 1 by decide)) (by decide) (by decide)) bg668444' (gBl (show Int32.toInt 1 = 1 by decide)) (by decide) (by decide)
            refine Gp_put 2 hmq668217 he668446 dr_cX14_number_76 (gk_X14 D I) (Nat.le_of_ble_eq_true rfl) wr_9_38 rfl rfl rfl (Nat.le_of_ble_eq_true rfl) (fun F668535 e668536 n668537 => ?_)
            have he668538 : F668535 q668218 = .inl (I .byte, 8192, .inl f668233) := (n668537 q668218 (rn_ao he668447 he668446)).trans he668447
            have he668539 : F668535 q668217 = .inr (19, [.ref q668218, .int p668220, .int z668534, .int p668222, .int p668223, .int p668224, .int p668225, .ref qo668226, .int p668227, .int p668228, .int p668229, .ref qo668230, .ref qo668231, .int p668232]) := e668536
            have hfr668540 : rFr [q668217] P668215 F668216 F668535 := rFr_put' List.mem_cons_self hfr668448 n668537
            refine G_goto 16 dr_cX14_number_79 (by decide +kernel) ?_
            exact ih16_668451 F668535 ol668531 z668534 (gB_w bz668534 (by decide) (by decide)) hfr668540 he668539 he668538 (by omega) (by omega) (by omega) (fun k e1 e2 ht => kt16_668451 k e1 e2 (fun R c1 c2 c3 => c3 gl668443 g668444 z668482 o668488 u668522 u668523 u668524 u668525 ol668531 z668534 k e1 e2 bg668444 r668481 hz668482 bz668482 bo668488 ht668490 r668520 hu668522 hu668523 hu668524 hu668525 ht668533 ez668534 (ht R c1 c2 c3))) (by omega)
    exact hlp16_668451 (((8193 : Int) - p668221.toInt).toNat + 1) F668216 0 p668221 bp668221 (rFr_v (rFr_rf (W := []) (P := P668215) (F := F668216)) (fun b hn => nm_n)) heq668217 heq668218 (by omega) (by omega) (by omega) (fun k e1 e2 ht => ht) (Nat.lt_succ_self _)
  · have r668541 : p668219.toInt ≠ 0 := gj_neq hc668240 (show Int32.toInt 0 = 0 by decide)
    have bp668219' : gB p668219 1 1 := ⟨by omega, by omega⟩
    refine G_aload_n 0 dr_cX14_number_4 rfl ?_
    refine G_dup dr_cX14_number_5 rfl ?_
    refine Gp_get 2 hmq668217 heq668217 dr_cX14_number_6 (gk_X14 D I) (Nat.le_of_ble_eq_true rfl) wr_9_38 rfl ?_
    refine G_iconst 1 dr_cX14_number_9 (by decide +kernel) ?_
    refine G_iadd dr_cX14_number_10 (G_nam fun z668542 hz668542 => ?_)
    have ez668542 : z668542.toInt = p668221.toInt + 1 := by rw [gI_add hz668542 bp668221 (gBl (show Int32.toInt 1 = 1 by decide)) (by decide) (by decide), show Int32.toInt 1 = 1 from by decide]
    have bz668542 : gB z668542 1 8193 := gB_add (gI_add hz668542 bp668221 (gBl (show Int32.toInt 1 = 1 by decide)) (by decide) (by decide)) bp668221 (gBl (show Int32.toInt 1 = 1 by decide)) (by decide) (by decide)
    refine Gp_put 2 hmq668217 heq668217 dr_cX14_number_11 (gk_X14 D I) (Nat.le_of_ble_eq_true rfl) wr_9_38 rfl rfl rfl (Nat.le_of_ble_eq_true rfl) (fun F668543 e668544 n668545 => ?_)
    have he668546 : F668543 q668218 = .inl (I .byte, 8192, .inl f668233) := (n668545 q668218 (rn_ao heq668218 heq668217)).trans heq668218
    have he668547 : F668543 q668217 = .inr (19, [.ref q668218, .int p668220, .int z668542, .int p668222, .int p668223, .int p668224, .int p668225, .ref qo668226, .int p668227, .int p668228, .int p668229, .ref qo668230, .ref qo668231, .int p668232]) := e668544
    have hfr668548 : rFr [q668217] P668215 F668216 F668543 := rFr_put (rFr_rf (W := []) (P := P668215) (F := F668216)) n668545
    refine G_lconst 0 dr_cX14_number_14 rfl ?_
    refine G_lstore_n (L' := [(2, .long 0), (0, .ref q668217), (1, .int p668219)]) dr_cX14_number_15 (Nat.le_of_ble_eq_true rfl) rfl ?_
    have hlp16_668741 : ∀ (n16_668741 : Nat) (F668735 : Nat → va_E) (gl668733 : Int64) (g668734 : Int32), gB g668734 0 8192 → rFr [q668217] P668215 F668216 F668735 → F668735 q668217 = .inr (19, [.ref q668218, .int p668220, .int g668734, .int p668222, .int p668223, .int p668224, .int p668225, .ref qo668226, .int p668227, .int p668228, .int p668229, .ref qo668230, .ref qo668231, .int p668232]) → F668735 q668218 = .inl (I .byte, 8192, .inl f668233) → p668221.toInt ≤ g668734.toInt → g668734.toInt ≤ p668220.toInt → (p668219.toInt = 0 ∨ p668221.toInt < g668734.toInt) → (∀ (k : Nat) (e1 : Int64) (e2 : Int32), tl_RReader_number_16_2 p668220 f668233 gl668733 g668734 k e1 e2 → tl_RReader_number_16_2 p668220 f668233 (0 : Int64) z668542 k e1 e2) → ((8193 : Int) - g668734.toInt).toNat < n16_668741 → G (gV D I) l (gRm 1 23 ((16 * (p668220.toInt - p668221.toInt)).toNat) ((160 * (p668220.toInt - p668221.toInt)).toNat)) (gMA (gV D I) (pp_668239_Reader_number D I P668215 F668216 q668217 q668218 p668219 p668220 p668221 p668222 p668223 p668224 p668225 qo668226 p668227 p668228 p668229 qo668230 qo668231 p668232 f668233) gNA ((16 * (p668220.toInt - p668221.toInt)).toNat) ((160 * (p668220.toInt - p668221.toInt)).toNat)) ky_668239_Reader_number 16 [(2, .long gl668733), (0, .ref q668217), (1, .int p668219)] [] (va_pl P668215 F668735) 0 0 := by
      intro n16_668741
      induction n16_668741 with
      | zero => intro F668735 gl668733 g668734 bg668734 hfr668738 he668736 he668737 x668739 x668740 x668741 kt16_668741 hm16_668741; exact absurd hm16_668741 (Nat.not_lt_zero _)
      | succ n16_668741 ih16_668741 =>
        intro F668735 gl668733 g668734 bg668734 hfr668738 he668736 he668737 x668739 x668740 x668741 kt16_668741 hm16_668741
        refine G_aload_n 1 dr_cX14_number_16 rfl ?_
        refine Gp_get 2 hmq668217 he668736 dr_cX14_number_17 (gk_X14 D I) (Nat.le_of_ble_eq_true rfl) wr_9_38 rfl ?_
        refine G_aload_n 1 dr_cX14_number_20 rfl ?_
        refine Gp_get 1 hmq668217 he668736 dr_cX14_number_21 (gk_X14 D I) (Nat.le_of_ble_eq_true rfl) wr_9_37 rfl ?_
        refine G_icmp_ge 82 dr_cX14_number_24 (by decide +kernel) (fun hc668742 => ?_) (fun hc668742 => ?_)
        · have r668743 : p668220.toInt ≤ g668734.toInt := gC_le hc668742
          have hx668744 : tl_RReader_number_16_2 p668220 f668233 (0 : Int64) z668542 82 gl668733 g668734 := kt16_668741 82 gl668733 g668734 (fun R c1 c2 c3 => c1 gl668733 g668734 bg668734 r668743)
          have x668745 : p668221.toInt < g668734.toInt := by first | omega | exact cDg_lt x668236 (by omega) (by assumption) (isP_0 (by assumption) (by omega)) (by omega)
          refine G_iload_n 2 dr_cX14_number_82 rfl ?_
          refine G_if_eq 89 dr_cX14_number_83 (by decide +kernel) (fun hc => absurd (show False by have := gj_eq hc (show Int32.toInt 0 = 0 by decide); omega) not_false) (fun _ => ?_)
          refine G_lload_n 0 dr_cX14_number_86 rfl ?_
          refine G_lneg dr_cX14_number_87 (G_namL fun u668746 hu668746 => ?_)
          refine G_lstore_n (L' := [(2, .long u668746), (0, .ref q668217), (1, .int p668219)]) dr_cX14_number_88 (Nat.le_of_ble_eq_true rfl) rfl ?_
          refine G_aload_n 1 dr_cX14_number_89 rfl ?_
          refine G_lload_n 0 dr_cX14_number_90 rfl ?_
          refine G_l2i dr_cX14_number_91 (G_nam fun z668747 hz668747 => ?_)
          have bz668747 : gB z668747 (-2147483648) 2147483647 := gB_any z668747
          refine Gp_put 5 hmq668217 he668736 dr_cX14_number_92 (gk_X14 D I) (Nat.le_of_ble_eq_true rfl) wr_9_41 rfl rfl rfl (Nat.le_of_ble_eq_true rfl) (fun F668748 e668749 n668750 => ?_)
          have he668751 : F668748 q668218 = .inl (I .byte, 8192, .inl f668233) := (n668750 q668218 (rn_ao he668737 he668736)).trans he668737
          have he668752 : F668748 q668217 = .inr (19, [.ref q668218, .int p668220, .int g668734, .int p668222, .int p668223, .int z668747, .int p668225, .ref qo668226, .int p668227, .int p668228, .int p668229, .ref qo668230, .ref qo668231, .int p668232]) := e668749
          have hfr668753 : rFr [q668217] P668215 F668216 F668748 := rFr_put' List.mem_cons_self hfr668738 n668750
          refine G_aload_n 1 dr_cX14_number_95 rfl ?_
          refine G_lload_n 0 dr_cX14_number_96 rfl ?_
          refine G_lload_n 0 dr_cX14_number_97 rfl ?_
          refine G_l2i dr_cX14_number_98 (G_nam fun z668754 hz668754 => ?_)
          have bz668754 : gB z668754 (-2147483648) 2147483647 := gB_any z668754
          refine G_i2l dr_cX14_number_99 (G_namL fun u668755 hu668755 => ?_)
          refine G_lcmp dr_cX14_number_100 (G_nam fun z668756 hz668756 => ?_)
          have bz668756 : gB z668756 (-1) 1 := gB_cmp hz668756
          refine G_if_ne 108 dr_cX14_number_101 (by decide +kernel) (fun hc668757 => ?_) (fun hc668757 => ?_)
          · have r668758 : z668756.toInt ≠ 0 := gj_neq hc668757 (show Int32.toInt 0 = 0 by decide)
            have lhc668757 := gC_cmpN hz668756 hc668757
            refine G_bipush 6 dr_cX14_number_108 (by decide +kernel) ?_
            refine Gp_put 3 hmq668217 he668752 dr_cX14_number_110 (gk_X14 D I) (Nat.le_of_ble_eq_true rfl) wr_9_39 rfl rfl rfl (Nat.le_of_ble_eq_true rfl) (fun F668759 e668760 n668761 => ?_)
            have he668762 : F668759 q668218 = .inl (I .byte, 8192, .inl f668233) := (n668761 q668218 (rn_ao he668751 he668752)).trans he668751
            have he668763 : F668759 q668217 = .inr (19, [.ref q668218, .int p668220, .int g668734, .int 6, .int p668223, .int z668747, .int p668225, .ref qo668226, .int p668227, .int p668228, .int p668229, .ref qo668230, .ref qo668231, .int p668232]) := e668760
            have hfr668764 : rFr [q668217] P668215 F668216 F668759 := rFr_put' List.mem_cons_self hfr668753 n668761
            exact G_vretA dr_cX14_number_113 rfl (show 0 ≤ ((16 * (p668220.toInt - p668221.toInt)).toNat) by omega) (show 0 ≤ ((160 * (p668220.toInt - p668221.toInt)).toNat) by omega) ⟨F668759, g668734, 6, z668747, (0, fun _ => 0), rfl, rfl, hfr668764, he668763, he668762, (by omega), (by omega), bg668734, (gB_w (gBl (show Int32.toInt 6 = 6 by decide)) (by decide) (by decide)), (by have qa0 : Int32.toInt 6 = 6 := (by decide); omega), (by have qa0 : Int32.toInt 6 = 6 := (by decide); omega), (tP_no (by decide) (by decide)), (vP_no (by decide) (by decide)), (fun R c1 c2 c3 c4 => c3 z668542 gl668733 g668734 u668746 z668747 z668754 u668755 r668541 ez668542 hx668744 hu668746 hz668747 hz668754 hu668755 lhc668757)⟩
          · have r668765 : z668756.toInt = 0 := gj_eq hc668757 (show Int32.toInt 0 = 0 by decide)
            have bz668756' : gB z668756 0 0 := ⟨by omega, by omega⟩
            have lhc668757 := gC_cmpE hz668756 hc668757
            refine G_iconst 4 dr_cX14_number_104 (by decide +kernel) ?_
            refine G_goto 110 dr_cX14_number_105 (by decide +kernel) ?_
            refine Gp_put 3 hmq668217 he668752 dr_cX14_number_110 (gk_X14 D I) (Nat.le_of_ble_eq_true rfl) wr_9_39 rfl rfl rfl (Nat.le_of_ble_eq_true rfl) (fun F668766 e668767 n668768 => ?_)
            have he668769 : F668766 q668218 = .inl (I .byte, 8192, .inl f668233) := (n668768 q668218 (rn_ao he668751 he668752)).trans he668751
            have he668770 : F668766 q668217 = .inr (19, [.ref q668218, .int p668220, .int g668734, .int 4, .int p668223, .int z668747, .int p668225, .ref qo668226, .int p668227, .int p668228, .int p668229, .ref qo668230, .ref qo668231, .int p668232]) := e668767
            have hfr668771 : rFr [q668217] P668215 F668216 F668766 := rFr_put' List.mem_cons_self hfr668753 n668768
            exact G_vretA dr_cX14_number_113 rfl (show 0 ≤ ((16 * (p668220.toInt - p668221.toInt)).toNat) by omega) (show 0 ≤ ((160 * (p668220.toInt - p668221.toInt)).toNat) by omega) ⟨F668766, g668734, 4, z668747, (0, fun _ => 0), rfl, rfl, hfr668771, he668770, he668769, (by omega), (by omega), bg668734, (gB_w (gBl (show Int32.toInt 4 = 4 by decide)) (by decide) (by decide)), (by have qa0 : Int32.toInt 4 = 4 := (by decide); omega), (by have qa0 : Int32.toInt 4 = 4 := (by decide); omega), (tP_no (by decide) (by decide)), (vP_no (by decide) (by decide)), (fun R c1 c2 c3 c4 => c4 z668542 gl668733 g668734 u668746 z668747 z668754 u668755 r668541 ez668542 hx668744 hu668746 hz668747 hz668754 hu668755 lhc668757)⟩
        · have r668772 : g668734.toInt < p668220.toInt := gC_nle hc668742
          have bg668734' : gB g668734 0 8191 := ⟨by omega, by omega⟩
          have bp668220' : gB p668220 1 8192 := ⟨by omega, by omega⟩
          refine G_aload_n 1 dr_cX14_number_27 rfl ?_
          refine Gp_get 0 hmq668217 he668736 dr_cX14_number_28 (gk_X14 D I) (Nat.le_of_ble_eq_true rfl) wr_9_36 rfl ?_
          refine G_aload_n 1 dr_cX14_number_31 rfl ?_
          refine Gp_get 2 hmq668217 he668736 dr_cX14_number_32 (gk_X14 D I) (Nat.le_of_ble_eq_true rfl) wr_9_38 rfl ?_
          refine Gp_bald 1 hmq668218 he668737 dr_cX14_number_35 rfl (gB_in bg668734' (by decide) (by decide)) (G_nam fun z668773 hz668773 => ?_)
          have bz668773 : gB z668773 (-128) 127 := by rw [hz668773]; exact bf668233 _
          refine Gw_callS (As := [.int z668773]) (gV_ok D I) (cp_668275_Reader_isDigit l hl0 D I P668215 F668735 z668773 ) dr_cX14_number_36 ⟨wr_7_219, wr_1_32, wr_7_221, by decide, rfl, (Nat.le_of_ble_eq_true rfl), (Nat.le_of_ble_eq_true rfl)⟩ wr_7_220 (show 0 + 0 ≤ ((16 * (p668220.toInt - p668221.toInt)).toNat) by first | omega | decide) (show 0 + 0 ≤ ((160 * (p668220.toInt - p668221.toInt)).toNat) by first | omega | decide) (Nat.le_of_ble_eq_true rfl) (fun r668777 w668778 dc668774 ds668775 hp668776 => ?_) (fun _ _ _ _ _ z => z.elim)
          obtain ⟨o668779, rfl, rfl, hdc, hds, bo668779, x668780, ht668781⟩ := hp668776
          change G _ _ _ _ _ _ _ (.int o668779 :: _) _ _ _
          refine G_widen (cs' := 0) (sl' := 0) (by omega) (by omega) ?_
          refine G_if_eq 82 dr_cX14_number_39 (by decide +kernel) (fun hc668782 => ?_) (fun hc668782 => ?_)
          · have r668783 : o668779.toInt = 0 := gj_eq hc668782 (show Int32.toInt 0 = 0 by decide)
            have bo668779' : gB o668779 0 0 := ⟨by omega, by omega⟩
            have hx668784 : tl_RReader_number_16_2 p668220 f668233 (0 : Int64) z668542 82 gl668733 g668734 := kt16_668741 82 gl668733 g668734 (fun R c1 c2 c3 => c2 gl668733 g668734 z668773 o668779 bg668734 r668772 hz668773 bz668773 bo668779 ht668781 r668783)
            have x668785 : p668221.toInt < g668734.toInt := by first | omega | exact cDg_lt x668236 (by omega) (by assumption) (isP_0 (by assumption) (by omega)) (by omega)
            refine G_iload_n 2 dr_cX14_number_82 rfl ?_
            refine G_if_eq 89 dr_cX14_number_83 (by decide +kernel) (fun hc => absurd (show False by have := gj_eq hc (show Int32.toInt 0 = 0 by decide); omega) not_false) (fun _ => ?_)
            refine G_lload_n 0 dr_cX14_number_86 rfl ?_
            refine G_lneg dr_cX14_number_87 (G_namL fun u668786 hu668786 => ?_)
            refine G_lstore_n (L' := [(2, .long u668786), (0, .ref q668217), (1, .int p668219)]) dr_cX14_number_88 (Nat.le_of_ble_eq_true rfl) rfl ?_
            refine G_aload_n 1 dr_cX14_number_89 rfl ?_
            refine G_lload_n 0 dr_cX14_number_90 rfl ?_
            refine G_l2i dr_cX14_number_91 (G_nam fun z668787 hz668787 => ?_)
            have bz668787 : gB z668787 (-2147483648) 2147483647 := gB_any z668787
            refine Gp_put 5 hmq668217 he668736 dr_cX14_number_92 (gk_X14 D I) (Nat.le_of_ble_eq_true rfl) wr_9_41 rfl rfl rfl (Nat.le_of_ble_eq_true rfl) (fun F668788 e668789 n668790 => ?_)
            have he668791 : F668788 q668218 = .inl (I .byte, 8192, .inl f668233) := (n668790 q668218 (rn_ao he668737 he668736)).trans he668737
            have he668792 : F668788 q668217 = .inr (19, [.ref q668218, .int p668220, .int g668734, .int p668222, .int p668223, .int z668787, .int p668225, .ref qo668226, .int p668227, .int p668228, .int p668229, .ref qo668230, .ref qo668231, .int p668232]) := e668789
            have hfr668793 : rFr [q668217] P668215 F668216 F668788 := rFr_put' List.mem_cons_self hfr668738 n668790
            refine G_aload_n 1 dr_cX14_number_95 rfl ?_
            refine G_lload_n 0 dr_cX14_number_96 rfl ?_
            refine G_lload_n 0 dr_cX14_number_97 rfl ?_
            refine G_l2i dr_cX14_number_98 (G_nam fun z668794 hz668794 => ?_)
            have bz668794 : gB z668794 (-2147483648) 2147483647 := gB_any z668794
            refine G_i2l dr_cX14_number_99 (G_namL fun u668795 hu668795 => ?_)
            refine G_lcmp dr_cX14_number_100 (G_nam fun z668796 hz668796 => ?_)
            have bz668796 : gB z668796 (-1) 1 := gB_cmp hz668796
            refine G_if_ne 108 dr_cX14_number_101 (by decide +kernel) (fun hc668797 => ?_) (fun hc668797 => ?_)
            · have r668798 : z668796.toInt ≠ 0 := gj_neq hc668797 (show Int32.toInt 0 = 0 by decide)
              have lhc668797 := gC_cmpN hz668796 hc668797
              refine G_bipush 6 dr_cX14_number_108 (by decide +kernel) ?_
              refine Gp_put 3 hmq668217 he668792 dr_cX14_number_110 (gk_X14 D I) (Nat.le_of_ble_eq_true rfl) wr_9_39 rfl rfl rfl (Nat.le_of_ble_eq_true rfl) (fun F668799 e668800 n668801 => ?_)
              have he668802 : F668799 q668218 = .inl (I .byte, 8192, .inl f668233) := (n668801 q668218 (rn_ao he668791 he668792)).trans he668791
              have he668803 : F668799 q668217 = .inr (19, [.ref q668218, .int p668220, .int g668734, .int 6, .int p668223, .int z668787, .int p668225, .ref qo668226, .int p668227, .int p668228, .int p668229, .ref qo668230, .ref qo668231, .int p668232]) := e668800
              have hfr668804 : rFr [q668217] P668215 F668216 F668799 := rFr_put' List.mem_cons_self hfr668793 n668801
              exact G_vretA dr_cX14_number_113 rfl (show 0 ≤ ((16 * (p668220.toInt - p668221.toInt)).toNat) by omega) (show 0 ≤ ((160 * (p668220.toInt - p668221.toInt)).toNat) by omega) ⟨F668799, g668734, 6, z668787, (0, fun _ => 0), rfl, rfl, hfr668804, he668803, he668802, (by omega), (by omega), (gB_w bg668734' (by decide) (by decide)), (gB_w (gBl (show Int32.toInt 6 = 6 by decide)) (by decide) (by decide)), (by have qa0 : Int32.toInt 6 = 6 := (by decide); omega), (by have qa0 : Int32.toInt 6 = 6 := (by decide); omega), (tP_no (by decide) (by decide)), (vP_no (by decide) (by decide)), (fun R c1 c2 c3 c4 => c3 z668542 gl668733 g668734 u668786 z668787 z668794 u668795 r668541 ez668542 hx668784 hu668786 hz668787 hz668794 hu668795 lhc668797)⟩
            · have r668805 : z668796.toInt = 0 := gj_eq hc668797 (show Int32.toInt 0 = 0 by decide)
              have bz668796' : gB z668796 0 0 := ⟨by omega, by omega⟩
              have lhc668797 := gC_cmpE hz668796 hc668797
              refine G_iconst 4 dr_cX14_number_104 (by decide +kernel) ?_
              refine G_goto 110 dr_cX14_number_105 (by decide +kernel) ?_
              refine Gp_put 3 hmq668217 he668792 dr_cX14_number_110 (gk_X14 D I) (Nat.le_of_ble_eq_true rfl) wr_9_39 rfl rfl rfl (Nat.le_of_ble_eq_true rfl) (fun F668806 e668807 n668808 => ?_)
              have he668809 : F668806 q668218 = .inl (I .byte, 8192, .inl f668233) := (n668808 q668218 (rn_ao he668791 he668792)).trans he668791
              have he668810 : F668806 q668217 = .inr (19, [.ref q668218, .int p668220, .int g668734, .int 4, .int p668223, .int z668787, .int p668225, .ref qo668226, .int p668227, .int p668228, .int p668229, .ref qo668230, .ref qo668231, .int p668232]) := e668807
              have hfr668811 : rFr [q668217] P668215 F668216 F668806 := rFr_put' List.mem_cons_self hfr668793 n668808
              exact G_vretA dr_cX14_number_113 rfl (show 0 ≤ ((16 * (p668220.toInt - p668221.toInt)).toNat) by omega) (show 0 ≤ ((160 * (p668220.toInt - p668221.toInt)).toNat) by omega) ⟨F668806, g668734, 4, z668787, (0, fun _ => 0), rfl, rfl, hfr668811, he668810, he668809, (by omega), (by omega), (gB_w bg668734' (by decide) (by decide)), (gB_w (gBl (show Int32.toInt 4 = 4 by decide)) (by decide) (by decide)), (by have qa0 : Int32.toInt 4 = 4 := (by decide); omega), (by have qa0 : Int32.toInt 4 = 4 := (by decide); omega), (tP_no (by decide) (by decide)), (vP_no (by decide) (by decide)), (fun R c1 c2 c3 c4 => c4 z668542 gl668733 g668734 u668786 z668787 z668794 u668795 r668541 ez668542 hx668784 hu668786 hz668787 hz668794 hu668795 lhc668797)⟩
          · have r668812 : o668779.toInt ≠ 0 := gj_neq hc668782 (show Int32.toInt 0 = 0 by decide)
            have bo668779' : gB o668779 1 1 := ⟨by omega, by omega⟩
            have bi668813 : gB z668773 48 57 := isP_1 x668780 (by omega)
            refine G_lload_n 0 dr_cX14_number_42 rfl ?_
            refine G_ldc2 10 dr_cX14_number_43 wr_7_229 ?_
            refine G_lmul dr_cX14_number_46 (G_namL fun u668814 hu668814 => ?_)
            refine G_aload_n 1 dr_cX14_number_47 rfl ?_
            refine Gp_get 0 hmq668217 he668736 dr_cX14_number_48 (gk_X14 D I) (Nat.le_of_ble_eq_true rfl) wr_9_36 rfl ?_
            refine G_aload_n 1 dr_cX14_number_51 rfl ?_
            refine Gp_get 2 hmq668217 he668736 dr_cX14_number_52 (gk_X14 D I) (Nat.le_of_ble_eq_true rfl) wr_9_38 rfl ?_
            refine Gp_bald 1 hmq668218 he668737 dr_cX14_number_55 rfl (gB_in bg668734' (by decide) (by decide)) (G_eqi (y := z668773) hz668773.symm ?_)
            refine G_i2l dr_cX14_number_56 (G_namL fun u668815 hu668815 => ?_)
            refine G_ladd dr_cX14_number_57 (G_namL fun u668816 hu668816 => ?_)
            refine G_ldc2 48 dr_cX14_number_58 wr_7_230 ?_
            refine G_lsub dr_cX14_number_61 (G_namL fun u668817 hu668817 => ?_)
            refine G_ldc2 1099511627776 dr_cX14_number_62 wr_8_222 ?_
            refine Gw_callS (As := [.long u668817, .long 1099511627776]) (gV_ok D I) (cp_668329_Math_min l hl0 D I P668215 F668735 u668817 1099511627776 ) dr_cX14_number_65 ⟨wr_7_232, wr_1_6, wr_3_40, by decide, rfl, (Nat.le_of_ble_eq_true rfl), (Nat.le_of_ble_eq_true rfl)⟩ wr_3_39 (show 0 + 0 ≤ ((16 * (p668220.toInt - p668221.toInt)).toNat) by first | omega | decide) (show 0 + 0 ≤ ((160 * (p668220.toInt - p668221.toInt)).toNat) by first | omega | decide) (Nat.le_of_ble_eq_true rfl) (fun r668821 w668822 dc668818 ds668819 hp668820 => ?_) (fun _ _ _ _ _ z => z.elim)
            obtain ⟨ol668823, rfl, rfl, hdc, hds, x668824, ht668825⟩ := hp668820
            change G _ _ _ _ _ _ _ (.long ol668823 :: _) _ _ _
            refine G_widen (cs' := 0) (sl' := 0) (by omega) (by omega) ?_
            refine G_lstore_n (L' := [(2, .long ol668823), (0, .ref q668217), (1, .int p668219)]) dr_cX14_number_68 (Nat.le_of_ble_eq_true rfl) rfl ?_
            refine G_aload_n 1 dr_cX14_number_69 rfl ?_
            refine G_dup dr_cX14_number_70 rfl ?_
            refine Gp_get 2 hmq668217 he668736 dr_cX14_number_71 (gk_X14 D I) (Nat.le_of_ble_eq_true rfl) wr_9_38 rfl ?_
            refine G_iconst 1 dr_cX14_number_74 (by decide +kernel) ?_
            refine G_iadd dr_cX14_number_75 (G_nam fun z668826 hz668826 => ?_)
            have ez668826 : z668826.toInt = g668734.toInt + 1 := by rw [gI_add hz668826 bg668734' (gBl (show Int32.toInt 1 = 1 by decide)) (by decide) (by decide), show Int32.toInt 1 = 1 from by decide]
            have bz668826 : gB z668826 1 8192 := gB_add (gI_add hz668826 bg668734' (gBl (show Int32.toInt 1 = 1 by decide)) (by decide) (by decide)) bg668734' (gBl (show Int32.toInt 1 = 1 by decide)) (by decide) (by decide)
            refine Gp_put 2 hmq668217 he668736 dr_cX14_number_76 (gk_X14 D I) (Nat.le_of_ble_eq_true rfl) wr_9_38 rfl rfl rfl (Nat.le_of_ble_eq_true rfl) (fun F668827 e668828 n668829 => ?_)
            have he668830 : F668827 q668218 = .inl (I .byte, 8192, .inl f668233) := (n668829 q668218 (rn_ao he668737 he668736)).trans he668737
            have he668831 : F668827 q668217 = .inr (19, [.ref q668218, .int p668220, .int z668826, .int p668222, .int p668223, .int p668224, .int p668225, .ref qo668226, .int p668227, .int p668228, .int p668229, .ref qo668230, .ref qo668231, .int p668232]) := e668828
            have hfr668832 : rFr [q668217] P668215 F668216 F668827 := rFr_put' List.mem_cons_self hfr668738 n668829
            refine G_goto 16 dr_cX14_number_79 (by decide +kernel) ?_
            exact ih16_668741 F668827 ol668823 z668826 (gB_w bz668826 (by decide) (by decide)) hfr668832 he668831 he668830 (by omega) (by omega) (by omega) (fun k e1 e2 ht => kt16_668741 k e1 e2 (fun R c1 c2 c3 => c3 gl668733 g668734 z668773 o668779 u668814 u668815 u668816 u668817 ol668823 z668826 k e1 e2 bg668734 r668772 hz668773 bz668773 bo668779 ht668781 r668812 hu668814 hu668815 hu668816 hu668817 ht668825 ez668826 (ht R c1 c2 c3))) (by omega)
    exact hlp16_668741 (((8193 : Int) - z668542.toInt).toNat + 1) F668543 0 z668542 ⟨by omega, by omega⟩ hfr668548 he668547 he668546 (by omega) (by omega) (by omega) (fun k e1 e2 ht => ht) (Nat.lt_succ_self _)
/- tr_RReader_symbol: a.0...at, a.0...kind -/
def tr_RReader_symbol (a1 : Int32) (a0_n : Int32) (a0_at : Int32) (a0_t_v : Nat → Int32) (o1 : Int32) (o2 : Int32) (o3 : gTx) : Prop := ∀ R : (Int32) → (Int32) → (gTx) → Prop,
  (∀ (x1 : Int32) (x2 : Int32), (((∃ (y1 : Int32), y1.toInt = a0_at.toInt + 1 ∧ a0_n.toInt ≤ y1.toInt) ∨ (∃ (y1 : Int32) (y2 : Int32), y1.toInt = a0_at.toInt + 1 ∧ y1.toInt < a0_n.toInt ∧ y2 = a0_t_v y1.toNatClampNeg ∧ gB y2 (-128) 127 ∧ y2.toInt ≤ 32) ∨ (∃ (y1 : Int32) (y2 : Int32), y1.toInt = a0_at.toInt + 1 ∧ y1.toInt < a0_n.toInt ∧ y2 = a0_t_v y1.toNatClampNeg ∧ gB y2 (-128) 127 ∧ 32 < y2.toInt ∧ a1.toInt ≤ 32))) → gB x1 0 65535 → tr_RString_length2 sb_32 x1 → a1.toInt ≤ 32 → x2.toInt = a0_at.toInt + 1 → R x2 (6 : Int32) (0, fun _ => 0)) →
  (∀ (x1 : Int32) (x2 : Int32) (x3 : Int32) (x4 : Int32) (x5 : Nat → Int32) (x6 : Int32) (x7 : Int32) (x8 : Nat → Int32) (x9 : Nat) (x10 : Nat → Int32) (x11 : Int32), (((∃ (y1 : Int32), y1.toInt = a0_at.toInt + 1 ∧ a0_n.toInt ≤ y1.toInt) ∨ (∃ (y1 : Int32) (y2 : Int32), y1.toInt = a0_at.toInt + 1 ∧ y1.toInt < a0_n.toInt ∧ y2 = a0_t_v y1.toNatClampNeg ∧ gB y2 (-128) 127 ∧ y2.toInt ≤ 32) ∨ (∃ (y1 : Int32) (y2 : Int32), y1.toInt = a0_at.toInt + 1 ∧ y1.toInt < a0_n.toInt ∧ y2 = a0_t_v y1.toNatClampNeg ∧ gB y2 (-128) 127 ∧ 32 < y2.toInt ∧ a1.toInt ≤ 32))) → gB x1 0 65535 → tr_RString_length2 sb_32 x1 → 32 < a1.toInt → x2 = (a1.toUInt32 % 65536).toInt32 → gB x3 (-1) 65534 → tr_RString_indexOf2 sb_37 x2 x3 → x3.toInt < 0 → gB x4 0 16777216 → (tr_RStringBuilder_append4 sb_32 (0 : Int32) (fun _ => 0) 16 x4 x5) → x6 = (a1.toUInt32 % 65536).toInt32 → gB x7 1 16777216 → tr_RStringBuilder_append x6 x4 x5 16 x7 x8 → tr_RStringBuilder_toString x7 x8 16 x9 x10 → x11.toInt = a0_at.toInt + 1 → R x11 (6 : Int32) (0, fun _ => 0)) →
  (∀ (x1 : Int32) (x2 : Int32) (x3 : Int32) (x4 : Int32) (x5 : Nat → Int32) (x6 : Int32) (x7 : Int32) (x8 : Nat → Int32) (x9 : Nat) (x10 : Nat → Int32) (x11 : Int32), (((∃ (y1 : Int32), y1.toInt = a0_at.toInt + 1 ∧ a0_n.toInt ≤ y1.toInt) ∨ (∃ (y1 : Int32) (y2 : Int32), y1.toInt = a0_at.toInt + 1 ∧ y1.toInt < a0_n.toInt ∧ y2 = a0_t_v y1.toNatClampNeg ∧ gB y2 (-128) 127 ∧ y2.toInt ≤ 32) ∨ (∃ (y1 : Int32) (y2 : Int32), y1.toInt = a0_at.toInt + 1 ∧ y1.toInt < a0_n.toInt ∧ y2 = a0_t_v y1.toNatClampNeg ∧ gB y2 (-128) 127 ∧ 32 < y2.toInt ∧ a1.toInt ≤ 32))) → gB x1 0 65535 → tr_RString_length2 sb_32 x1 → 32 < a1.toInt → x2 = (a1.toUInt32 % 65536).toInt32 → gB x3 (-1) 65534 → tr_RString_indexOf2 sb_37 x2 x3 → 0 ≤ x3.toInt → gB x4 0 16777216 → (tr_RStringBuilder_append4 sb_32 (0 : Int32) (fun _ => 0) 16 x4 x5) → x6 = (a1.toUInt32 % 65536).toInt32 → gB x7 1 16777216 → tr_RStringBuilder_append x6 x4 x5 16 x7 x8 → tr_RStringBuilder_toString x7 x8 16 x9 x10 → x11.toInt = a0_at.toInt + 1 → R x11 (5 : Int32) (x9, x10)) →
  (∀ (x1 : Int32) (x2 : Int32) (x3 : Int32) (x4 : Nat → Int32) (x5 : Int32) (x6 : Int32) (x7 : Nat → Int32) (x8 : Int32) (x9 : Int32) (x10 : Nat → Int32) (x11 : Nat) (x12 : Nat → Int32) (x13 : Int32) (x14 : Int32) (x15 : Nat → Int32) (x16 : Int32) (x17 : Nat → Int32) (x18 : Int32) (x19 : Nat → Int32) (x20 : Nat) (x21 : Nat → Int32) (x22 : Int32) (x23 : Int32) (x24 : Int32) (x25 : Int32) (x26 : Nat → Int32) (x27 : Int32) (x28 : Int32) (x29 : Nat → Int32) (x30 : Nat) (x31 : Nat → Int32), x1.toInt = a0_at.toInt + 1 → x1.toInt < a0_n.toInt → x2 = a0_t_v x1.toNatClampNeg → gB x2 (-128) 127 → 32 < x2.toInt → 32 < a1.toInt → gB x3 0 16777216 → (tr_RStringBuilder_append4 sb_32 (0 : Int32) (fun _ => 0) 16 x3 x4) → x5 = (a1.toUInt32 % 65536).toInt32 → gB x6 1 16777216 → tr_RStringBuilder_append x5 x3 x4 16 x6 x7 → x8 = (x2.toUInt32 % 65536).toInt32 → gB x9 1 16777216 → tr_RStringBuilder_append x8 x6 x7 16 x9 x10 → tr_RStringBuilder_toString x9 x10 16 x11 x12 → gB x13 0 16777216 → tr_RString_length x11 x13 → gB x14 0 16777216 → (tr_RStringBuilder_append4 sb_35 (0 : Int32) (fun _ => 0) 16 x14 x15) → gB x16 0 16777216 → tr_RStringBuilder_append3 x14 x15 16 x12 x11 x16 x17 → gB x18 0 16777216 → tr_RStringBuilder_append4 sb_35 x16 x17 16 x18 x19 → tr_RStringBuilder_toString x18 x19 16 x20 x21 → gB x22 (-2147483646) 16777215 → tr_RString_indexOf sb_36 x21 x20 x22 → x22.toInt < 0 → x23 = (a1.toUInt32 % 65536).toInt32 → gB x24 (-1) 65534 → tr_RString_indexOf2 sb_37 x23 x24 → x24.toInt < 0 → gB x25 0 16777216 → (tr_RStringBuilder_append4 sb_32 (0 : Int32) (fun _ => 0) 16 x25 x26) → x27 = (a1.toUInt32 % 65536).toInt32 → gB x28 1 16777216 → tr_RStringBuilder_append x27 x25 x26 16 x28 x29 → tr_RStringBuilder_toString x28 x29 16 x30 x31 → R x1 (6 : Int32) (0, fun _ => 0)) →
  (∀ (x1 : Int32) (x2 : Int32) (x3 : Int32) (x4 : Nat → Int32) (x5 : Int32) (x6 : Int32) (x7 : Nat → Int32) (x8 : Int32) (x9 : Int32) (x10 : Nat → Int32) (x11 : Nat) (x12 : Nat → Int32) (x13 : Int32) (x14 : Int32) (x15 : Nat → Int32) (x16 : Int32) (x17 : Nat → Int32) (x18 : Int32) (x19 : Nat → Int32) (x20 : Nat) (x21 : Nat → Int32) (x22 : Int32) (x23 : Int32) (x24 : Int32) (x25 : Int32) (x26 : Nat → Int32) (x27 : Int32) (x28 : Int32) (x29 : Nat → Int32) (x30 : Nat) (x31 : Nat → Int32), x1.toInt = a0_at.toInt + 1 → x1.toInt < a0_n.toInt → x2 = a0_t_v x1.toNatClampNeg → gB x2 (-128) 127 → 32 < x2.toInt → 32 < a1.toInt → gB x3 0 16777216 → (tr_RStringBuilder_append4 sb_32 (0 : Int32) (fun _ => 0) 16 x3 x4) → x5 = (a1.toUInt32 % 65536).toInt32 → gB x6 1 16777216 → tr_RStringBuilder_append x5 x3 x4 16 x6 x7 → x8 = (x2.toUInt32 % 65536).toInt32 → gB x9 1 16777216 → tr_RStringBuilder_append x8 x6 x7 16 x9 x10 → tr_RStringBuilder_toString x9 x10 16 x11 x12 → gB x13 0 16777216 → tr_RString_length x11 x13 → gB x14 0 16777216 → (tr_RStringBuilder_append4 sb_35 (0 : Int32) (fun _ => 0) 16 x14 x15) → gB x16 0 16777216 → tr_RStringBuilder_append3 x14 x15 16 x12 x11 x16 x17 → gB x18 0 16777216 → tr_RStringBuilder_append4 sb_35 x16 x17 16 x18 x19 → tr_RStringBuilder_toString x18 x19 16 x20 x21 → gB x22 (-2147483646) 16777215 → tr_RString_indexOf sb_36 x21 x20 x22 → x22.toInt < 0 → x23 = (a1.toUInt32 % 65536).toInt32 → gB x24 (-1) 65534 → tr_RString_indexOf2 sb_37 x23 x24 → 0 ≤ x24.toInt → gB x25 0 16777216 → (tr_RStringBuilder_append4 sb_32 (0 : Int32) (fun _ => 0) 16 x25 x26) → x27 = (a1.toUInt32 % 65536).toInt32 → gB x28 1 16777216 → tr_RStringBuilder_append x27 x25 x26 16 x28 x29 → tr_RStringBuilder_toString x28 x29 16 x30 x31 → R x1 (5 : Int32) (x30, x31)) →
  (∀ (x1 : Int32) (x2 : Int32) (x3 : Int32) (x4 : Nat → Int32) (x5 : Int32) (x6 : Int32) (x7 : Nat → Int32) (x8 : Int32) (x9 : Int32) (x10 : Nat → Int32) (x11 : Nat) (x12 : Nat → Int32) (x13 : Int32) (x14 : Int32) (x15 : Nat → Int32) (x16 : Int32) (x17 : Nat → Int32) (x18 : Int32) (x19 : Nat → Int32) (x20 : Nat) (x21 : Nat → Int32) (x22 : Int32) (x23 : Int32), x1.toInt = a0_at.toInt + 1 → x1.toInt < a0_n.toInt → x2 = a0_t_v x1.toNatClampNeg → gB x2 (-128) 127 → 32 < x2.toInt → 32 < a1.toInt → gB x3 0 16777216 → (tr_RStringBuilder_append4 sb_32 (0 : Int32) (fun _ => 0) 16 x3 x4) → x5 = (a1.toUInt32 % 65536).toInt32 → gB x6 1 16777216 → tr_RStringBuilder_append x5 x3 x4 16 x6 x7 → x8 = (x2.toUInt32 % 65536).toInt32 → gB x9 1 16777216 → tr_RStringBuilder_append x8 x6 x7 16 x9 x10 → tr_RStringBuilder_toString x9 x10 16 x11 x12 → gB x13 0 16777216 → tr_RString_length x11 x13 → gB x14 0 16777216 → (tr_RStringBuilder_append4 sb_35 (0 : Int32) (fun _ => 0) 16 x14 x15) → gB x16 0 16777216 → tr_RStringBuilder_append3 x14 x15 16 x12 x11 x16 x17 → gB x18 0 16777216 → tr_RStringBuilder_append4 sb_35 x16 x17 16 x18 x19 → tr_RStringBuilder_toString x18 x19 16 x20 x21 → gB x22 (-2147483646) 16777215 → tr_RString_indexOf sb_36 x21 x20 x22 → 0 ≤ x22.toInt → x23.toInt = a0_at.toInt + 2 → R x23 (5 : Int32) (x11, x12)) →
  R o1 o2 o3
abbrev ky_668862_Reader_symbol : gKey := (cX14_symbol, 4, "SpillForgeModel$Reader", none, [], "symbol", fun _ _ => True)
def pp_668862_Reader_symbol (D : va_G) (I : FieldType → ClassId) (P668839 : List Nat) (F668840 : Nat → va_E) (q668841 : Nat) (q668842 : Nat) (p668843 : Int32) (p668844 : Int32) (p668845 : Int32) (p668846 : Int32) (p668847 : Int32) (p668848 : Int32) (p668849 : Int32) (qo668850 : Nat) (p668851 : Int32) (p668852 : Int32) (p668853 : Int32) (qo668854 : Nat) (qo668855 : Nat) (p668856 : Int32) (f668857 : Nat → Int32) : Option Value → va_W → Nat → Nat → Prop := fun r w dc ds => ∃ (P669855 : List Nat) (F669856 : Nat → va_E) (o669852 : Int32) (o669853 : Int32) (q669854 : Nat) (xt669857 : gTx), r = none ∧ w = va_pl P669855 F669856 ∧ rSub P668839 P669855 ∧ rFr [q668841] P668839 F668840 F669856 ∧ F669856 q668841 = .inr (19, [.ref q668842, .int p668844, .int o669852, .int o669853, .int p668847, .int p668848, .int p668849, .ref q669854, .int p668851, .int p668852, .int p668853, .ref qo668854, .ref qo668855, .int p668856]) ∧ F669856 q668842 = .inl (I .byte, 8192, .inl f668857) ∧ dc ≤ (16 * (o669852.toInt - p668845.toInt)).toNat ∧ ds ≤ (160 * (o669852.toInt - p668845.toInt)).toNat ∧ gB o669852 1 8192 ∧ gB o669853 5 6 ∧ p668845.toInt < o669852.toInt ∧ o669852.toInt ≤ p668844.toInt ∧ tP I P669855 F669856 o669853 q669854 qo668855 qo668854 xt669857 ∧ vP o669853 p668848 ∧ tr_RReader_symbol p668843 p668844 p668845 f668857 o669852 o669853 xt669857
set_option maxRecDepth 100000 in
set_option maxHeartbeats 4000000 in
theorem cp_668862_Reader_symbol (l : Launch) (hl0 : l.stackTraces = false) (D : va_G) (I : FieldType → ClassId) (P668839 : List Nat) (F668840 : Nat → va_E) (q668841 : Nat) (q668842 : Nat) (p668843 : Int32) (p668844 : Int32) (p668845 : Int32) (p668846 : Int32) (p668847 : Int32) (p668848 : Int32) (p668849 : Int32) (qo668850 : Nat) (p668851 : Int32) (p668852 : Int32) (p668853 : Int32) (qo668854 : Nat) (qo668855 : Nat) (p668856 : Int32) (f668857 : Nat → Int32) (hmq668841 : q668841 ∈ P668839) (hmq668842 : q668842 ∈ P668839) (heq668841 : F668840 q668841 = .inr (19, [.ref q668842, .int p668844, .int p668845, .int p668846, .int p668847, .int p668848, .int p668849, .ref qo668850, .int p668851, .int p668852, .int p668853, .ref qo668854, .ref qo668855, .int p668856])) (heq668842 : F668840 q668842 = .inl (I .byte, 8192, .inl f668857)) (bp668843 : gB p668843 (-128) 127) (bp668844 : gB p668844 0 8192) (bp668845 : gB p668845 0 8192) (bp668846 : gB p668846 0 6) (bp668847 : gB p668847 0 8192) (bp668849 : gB p668849 0 6) (bp668851 : gB p668851 (-1) 8192) (bp668852 : gB p668852 0 4) (bp668853 : gB p668853 0 1000000) (bp668856 : gB p668856 0 1000000) (bf668857 : gF f668857 (-128) 127) (x668858 : p668845.toInt ≤ p668844.toInt) (x668859 : p668845.toInt < p668844.toInt) (x668860 : qo668855 ∈ P668839) (x668861 : qo668854 ∈ P668839) : CtA (gV D I) l yX14_symbol cX14_symbol 4 none 6 132 ((16 * (p668844.toInt - p668845.toInt)).toNat) ((160 * (p668844.toInt - p668845.toInt)).toNat) [.ref q668841, .int p668843] (va_pl P668839 F668840) (pp_668862_Reader_symbol D I P668839 F668840 q668841 q668842 p668843 p668844 p668845 p668846 p668847 p668848 p668849 qo668850 p668851 p668852 p668853 qo668854 qo668855 p668856 f668857) gNA := by
  refine CtA_of hl0 (by decide) (Nat.le_of_ble_eq_true rfl) ?_
  have bp668848 := gB_any p668848
  have hMC : 16 ≤ ((16 * (p668844.toInt - p668845.toInt)).toNat) := by omega
  have hMS : 160 ≤ ((160 * (p668844.toInt - p668845.toInt)).toNat) := by omega
  have jn668863 : ((∃ (y1 : Int32), y1.toInt = p668845.toInt + 1 ∧ p668844.toInt ≤ y1.toInt) ∨ (∃ (y1 : Int32) (y2 : Int32), y1.toInt = p668845.toInt + 1 ∧ y1.toInt < p668844.toInt ∧ y2 = f668857 y1.toNatClampNeg ∧ gB y2 (-128) 127 ∧ y2.toInt ≤ 32) ∨ (∃ (y1 : Int32) (y2 : Int32), y1.toInt = p668845.toInt + 1 ∧ y1.toInt < p668844.toInt ∧ y2 = f668857 y1.toNatClampNeg ∧ gB y2 (-128) 127 ∧ 32 < y2.toInt ∧ p668843.toInt ≤ 32)) → G (gV D I) l (gRm 6 132 ((16 * (p668844.toInt - p668845.toInt)).toNat) ((160 * (p668844.toInt - p668845.toInt)).toNat)) (gMA (gV D I) (pp_668862_Reader_symbol D I P668839 F668840 q668841 q668842 p668843 p668844 p668845 p668846 p668847 p668848 p668849 qo668850 p668851 p668852 p668853 qo668854 qo668855 p668856 f668857) gNA ((16 * (p668844.toInt - p668845.toInt)).toNat) ((160 * (p668844.toInt - p668845.toInt)).toNat)) ky_668862_Reader_symbol 73 [(0, .ref q668841), (1, .int p668843)] [] (va_pl P668839 F668840) 0 0 := by
    intro hJ668864
    refine G_ldcK (a := D.2 1000 32) dr_cX14_symbol_73 (fun _ _ _ h => gx_vk 32 rfl rfl h) ?_
    have hl32_668864 : (sb_32.length : Int) = 0 := rfl
    refine G_astore_n (L' := [(2, .ref (D.2 1000 32)), (0, .ref q668841), (1, .int p668843)]) dr_cX14_symbol_75 (Nat.le_of_ble_eq_true rfl) rfl ?_
    refine G_aload_n 0 dr_cX14_symbol_76 rfl ?_
    refine Gw_callVk (As := []) (gV_ok D I) (cp_659437_String_length l hl0 D I P668839 F668840 (D.2 1000 32) (D.2 1001 32) sb_32 (gx_sc 32 rfl rfl) (by omega) (by decide +kernel)) dr_cX14_symbol_77 ⟨wr_8_227, wr_1_21, wr_3_60, by decide, rfl, (Nat.le_of_ble_eq_true rfl), (Nat.le_of_ble_eq_true rfl)⟩ wr_3_58 wr_3_59 (fun _ _ _ h => ((gx_sc 32 rfl rfl) _ _ _ h).1) (Nat.le_trans (show 0 + 0 ≤ 16 by decide) hMC) (Nat.le_trans (show 0 + 0 ≤ 160 by decide) hMS) (Nat.le_of_ble_eq_true rfl) (fun r668869 w668870 dc668866 ds668867 hp668868 => ?_) (fun _ _ _ _ _ z => z.elim)
    obtain ⟨o668871, rfl, rfl, hdc, hds, bo668871, x668872, ht668873⟩ := hp668868
    have bo668871' : gB o668871 0 0 := ⟨by omega, by omega⟩
    change G _ _ _ _ _ _ _ (.int o668871 :: _) _ _ _
    refine G_widen (cs' := 0) (sl' := 0) (Nat.add_le_add_left hdc 0) (Nat.add_le_add_left hds 0) ?_
    refine G_iconst 2 dr_cX14_symbol_80 (by decide +kernel) ?_
    refine G_icmp_ne 120 dr_cX14_symbol_81 (by decide +kernel) (fun _ => ?_) (fun hc => absurd (show False by have := gj_eq hc (show Int32.toInt 2 = 2 by decide); omega) not_false)
    refine G_iconst 0 dr_cX14_symbol_120 (by decide +kernel) ?_
    refine G_istore_n (L' := [(3, .int 0), (2, .ref (D.2 1000 32)), (0, .ref q668841), (1, .int p668843)]) dr_cX14_symbol_121 (Nat.le_of_ble_eq_true rfl) rfl ?_
    clear bo668871'; try clear r668869; try clear w668870; try clear dc668866; try clear ds668867; try clear hp668868; try clear x668872
    refine G_aload_n 2 dr_cX14_symbol_122 rfl ?_
    refine G_iload_n 0 dr_cX14_symbol_123 rfl ?_
    refine G_if_ne 143 dr_cX14_symbol_124 (by decide +kernel) (fun hc => absurd hc (by decide)) (fun _ => ?_)
    refine G_iload_n 3 dr_cX14_symbol_127 rfl ?_
    refine G_bipush 32 dr_cX14_symbol_128 (by decide +kernel) ?_
    refine G_icmp_le 147 dr_cX14_symbol_130 (by decide +kernel) (fun hc668874 => ?_) (fun hc668874 => ?_)
    · have r668875 : p668843.toInt ≤ 32 := gj_le hc668874 (show Int32.toInt 32 = 32 by decide)
      have bp668843' : gB p668843 (-128) 32 := ⟨by omega, by omega⟩
      refine G_bipush 6 dr_cX14_symbol_147 (by decide +kernel) ?_
      refine Gp_put 3 hmq668841 heq668841 dr_cX14_symbol_149 (gk_X14 D I) (Nat.le_of_ble_eq_true rfl) wr_9_39 rfl rfl rfl (Nat.le_of_ble_eq_true rfl) (fun F668876 e668877 n668878 => ?_)
      have he668879 : F668876 q668842 = .inl (I .byte, 8192, .inl f668857) := (n668878 q668842 (rn_ao heq668842 heq668841)).trans heq668842
      have he668880 : F668876 q668841 = .inr (19, [.ref q668842, .int p668844, .int p668845, .int 6, .int p668847, .int p668848, .int p668849, .ref qo668850, .int p668851, .int p668852, .int p668853, .ref qo668854, .ref qo668855, .int p668856]) := e668877
      have hfr668881 : rFr [q668841] P668839 F668840 F668876 := rFr_put (rFr_rf (W := []) (P := P668839) (F := F668840)) n668878
      refine G_aload_n 2 dr_cX14_symbol_152 rfl ?_
      refine G_iload_n 0 dr_cX14_symbol_153 rfl ?_
      refine G_if_eq 161 dr_cX14_symbol_154 (by decide +kernel) (fun _ => ?_) (fun hc => absurd hc (by decide))
      refine G_iload_n 3 dr_cX14_symbol_161 rfl ?_
      refine G_bipush 32 dr_cX14_symbol_162 (by decide +kernel) ?_
      refine G_icmp_le 190 dr_cX14_symbol_164 (by decide +kernel) (fun _ => ?_) (fun hc => absurd (show False by have := gj_nle hc (show Int32.toInt 32 = 32 by decide); omega) not_false)
      refine G_ldcK (a := D.2 1000 32) dr_cX14_symbol_190 (fun _ _ _ h => gx_vk 32 rfl rfl h) ?_
      have hl32_668881 : (sb_32.length : Int) = 0 := rfl
      refine Gp_put 7 hmq668841 he668880 dr_cX14_symbol_192 (gk_X14 D I) (Nat.le_of_ble_eq_true rfl) wr_9_43 rfl rfl rfl (Nat.le_of_ble_eq_true rfl) (fun F668883 e668884 n668885 => ?_)
      have he668886 : F668883 q668842 = .inl (I .byte, 8192, .inl f668857) := (n668885 q668842 (rn_ao he668879 he668880)).trans he668879
      have he668887 : F668883 q668841 = .inr (19, [.ref q668842, .int p668844, .int p668845, .int 6, .int p668847, .int p668848, .int p668849, .ref (D.2 1000 32), .int p668851, .int p668852, .int p668853, .ref qo668854, .ref qo668855, .int p668856]) := e668884
      have hfr668888 : rFr [q668841] P668839 F668840 F668883 := rFr_put' List.mem_cons_self hfr668881 n668885
      clear he668879 he668880 hfr668881
      refine G_aload_n 2 dr_cX14_symbol_195 rfl ?_
      refine G_dup dr_cX14_symbol_196 rfl ?_
      refine Gp_get 2 hmq668841 he668887 dr_cX14_symbol_197 (gk_X14 D I) (Nat.le_of_ble_eq_true rfl) wr_9_38 rfl ?_
      refine G_iload_n 0 dr_cX14_symbol_200 rfl ?_
      refine G_if_eq 208 dr_cX14_symbol_201 (by decide +kernel) (fun _ => ?_) (fun hc => absurd hc (by decide))
      refine G_iconst 1 dr_cX14_symbol_208 (by decide +kernel) ?_
      refine G_iadd dr_cX14_symbol_209 (G_nam fun z668889 hz668889 => ?_)
      have ez668889 : z668889.toInt = p668845.toInt + 1 := by rw [gI_add hz668889 bp668845 (gBl (show Int32.toInt 1 = 1 by decide)) (by decide) (by decide), show Int32.toInt 1 = 1 from by decide]
      have bz668889 : gB z668889 1 8193 := gB_add (gI_add hz668889 bp668845 (gBl (show Int32.toInt 1 = 1 by decide)) (by decide) (by decide)) bp668845 (gBl (show Int32.toInt 1 = 1 by decide)) (by decide) (by decide)
      refine Gp_put 2 hmq668841 he668887 dr_cX14_symbol_210 (gk_X14 D I) (Nat.le_of_ble_eq_true rfl) wr_9_38 rfl rfl rfl (Nat.le_of_ble_eq_true rfl) (fun F668890 e668891 n668892 => ?_)
      have he668893 : F668890 q668842 = .inl (I .byte, 8192, .inl f668857) := (n668892 q668842 (rn_ao he668886 he668887)).trans he668886
      have he668894 : F668890 q668841 = .inr (19, [.ref q668842, .int p668844, .int z668889, .int 6, .int p668847, .int p668848, .int p668849, .ref (D.2 1000 32), .int p668851, .int p668852, .int p668853, .ref qo668854, .ref qo668855, .int p668856]) := e668891
      have hfr668895 : rFr [q668841] P668839 F668840 F668890 := rFr_put' List.mem_cons_self hfr668888 n668892
      exact G_vretA dr_cX14_symbol_213 rfl (show 0 ≤ ((16 * (p668844.toInt - p668845.toInt)).toNat) by omega) (show 0 ≤ ((160 * (p668844.toInt - p668845.toInt)).toNat) by omega) ⟨P668839, F668890, z668889, 6, (D.2 1000 32), (0, fun _ => 0), rfl, rfl, (rSub_rf (P := P668839)), hfr668895, he668894, he668893, (by omega), (by omega), ⟨by omega, by omega⟩, (gB_w (gBl (show Int32.toInt 6 = 6 by decide)) (by decide) (by decide)), (by have qa0 : Int32.toInt 0 = 0 := (by decide); have qa1 : Int32.toInt 6 = 6 := (by decide); omega), (by have qa0 : Int32.toInt 0 = 0 := (by decide); have qa1 : Int32.toInt 6 = 6 := (by decide); omega), (tP_no (by decide) (by decide)), (vP_no (by decide) (by decide)), (fun R c1 c2 c3 c4 c5 c6 => c1 o668871 z668889 hJ668864 bo668871 ht668873 r668875 ez668889)⟩
    · have r668896 : 32 < p668843.toInt := gj_nle hc668874 (show Int32.toInt 32 = 32 by decide)
      have bp668843' : gB p668843 33 127 := ⟨by omega, by omega⟩
      refine G_ldcK (a := D.2 1000 37) dr_cX14_symbol_133 (fun _ _ _ h => gx_vk 37 rfl rfl h) ?_
      have hl37_668896 : (sb_37.length : Int) = 14 := rfl
      refine G_iload_n 3 dr_cX14_symbol_135 rfl ?_
      refine G_i2c dr_cX14_symbol_136 (G_nam fun z668898 hz668898 => ?_)
      have ez668898 : z668898.toInt = p668843.toInt := gI_i2c hz668898 (by omega) (by omega)
      have bz668898 : gB z668898 33 127 := ⟨by omega, by omega⟩
      refine Gw_callVk (As := [.int z668898]) (gV_ok D I) (cp_667424_String_indexOf l hl0 D I P668839 F668840 (D.2 1000 37) (D.2 1001 37) sb_37 z668898 (gx_sc 37 rfl rfl) (by omega) (by decide +kernel) (gB_w bz668898 (by decide) (by decide))) dr_cX14_symbol_137 ⟨wr_8_230, wr_1_21, wr_8_233, by decide, rfl, (Nat.le_of_ble_eq_true rfl), (Nat.le_of_ble_eq_true rfl)⟩ wr_8_231 wr_8_232 (fun _ _ _ h => ((gx_sc 37 rfl rfl) _ _ _ h).1) (Nat.le_trans (show 0 + 0 ≤ 16 by decide) hMC) (Nat.le_trans (show 0 + 0 ≤ 160 by decide) hMS) (Nat.le_of_ble_eq_true rfl) (fun r668902 w668903 dc668899 ds668900 hp668901 => ?_) (fun _ _ _ _ _ z => z.elim)
      obtain ⟨o668904, rfl, rfl, hdc, hds, bo668904, ht668905⟩ := hp668901
      change G _ _ _ _ _ _ _ (.int o668904 :: _) _ _ _
      refine G_widen (cs' := 0) (sl' := 0) (Nat.add_le_add_left hdc 0) (Nat.add_le_add_left hds 0) ?_
      refine G_if_lt 147 dr_cX14_symbol_140 (by decide +kernel) (fun hc668906 => ?_) (fun hc668906 => ?_)
      · have r668907 : o668904.toInt < 0 := gj_lt hc668906 (show Int32.toInt 0 = 0 by decide)
        have bo668904' : gB o668904 (-1) (-1) := ⟨by omega, by omega⟩
        refine G_bipush 6 dr_cX14_symbol_147 (by decide +kernel) ?_
        refine Gp_put 3 hmq668841 heq668841 dr_cX14_symbol_149 (gk_X14 D I) (Nat.le_of_ble_eq_true rfl) wr_9_39 rfl rfl rfl (Nat.le_of_ble_eq_true rfl) (fun F668908 e668909 n668910 => ?_)
        have he668911 : F668908 q668842 = .inl (I .byte, 8192, .inl f668857) := (n668910 q668842 (rn_ao heq668842 heq668841)).trans heq668842
        have he668912 : F668908 q668841 = .inr (19, [.ref q668842, .int p668844, .int p668845, .int 6, .int p668847, .int p668848, .int p668849, .ref qo668850, .int p668851, .int p668852, .int p668853, .ref qo668854, .ref qo668855, .int p668856]) := e668909
        have hfr668913 : rFr [q668841] P668839 F668840 F668908 := rFr_put (rFr_rf (W := []) (P := P668839) (F := F668840)) n668910
        clear ez668898 bz668898 bo668904'; try clear r668902; try clear w668903; try clear dc668899; try clear ds668900; try clear hp668901
        refine G_aload_n 2 dr_cX14_symbol_152 rfl ?_
        refine G_iload_n 0 dr_cX14_symbol_153 rfl ?_
        refine G_if_eq 161 dr_cX14_symbol_154 (by decide +kernel) (fun _ => ?_) (fun hc => absurd hc (by decide))
        refine G_iload_n 3 dr_cX14_symbol_161 rfl ?_
        refine G_bipush 32 dr_cX14_symbol_162 (by decide +kernel) ?_
        refine G_icmp_le 190 dr_cX14_symbol_164 (by decide +kernel) (fun hc => absurd (show False by have := gj_le hc (show Int32.toInt 32 = 32 by decide); omega) not_false) (fun _ => ?_)
        refine G_new [.null, .int 0, .int 0, .int 0] dr_cX14_symbol_167 (gk_J4 D I) wr_7_235 wr_7_44 wr_1_20 (gfs_J4) (Nat.le_trans (show 0 + 1 ≤ 16 by decide) hMC) (Nat.le_trans (show 0 + 4 ≤ 160 by decide) hMS) (fun q668914 => Gp_in (fun P668915 F668916 hq668917 hP668918 e668919 n668920 => ?_))
        refine G_widen (cs' := 1) (sl' := 4) (by omega) (by omega) ?_
        have he668921 : F668916 q668841 = .inr (19, [.ref q668842, .int p668844, .int p668845, .int 6, .int p668847, .int p668848, .int p668849, .ref qo668850, .int p668851, .int p668852, .int p668853, .ref qo668854, .ref qo668855, .int p668856]) := (n668920 q668841 (fun h => hq668917 (h ▸ hmq668841))).trans he668912
        have he668922 : F668916 q668842 = .inl (I .byte, 8192, .inl f668857) := (n668920 q668842 (fun h => hq668917 (h ▸ hmq668842))).trans he668911
        have he668923 : F668916 q668914 = .inr (1, [.null, .int 0, .int 0, .int 0]) := e668919
        have hm668924 : q668841 ∈ P668915 := (hP668918 q668841).mpr (Or.inl hmq668841)
        have hm668925 : q668842 ∈ P668915 := (hP668918 q668842).mpr (Or.inl hmq668842)
        have hm668926 : q668914 ∈ P668915 := (hP668918 q668914).mpr (Or.inr rfl)
        have hq668927 : q668914 ∉ P668839 := fun z => hq668917 ((rSub_rf (P := P668839)) q668914 z)
        have hfr668928 : rFr [q668841] P668839 F668840 F668916 := rFr_new (rSub_rf (P := P668839)) hq668917 hfr668913 n668920
        have hsb668929 : rSub P668839 P668915 := rSub_new (rSub_rf (P := P668839)) hP668918
        refine G_dup dr_cX14_symbol_170 rfl ?_
        refine Gw_callI (As := []) (gV_ok D I) (cp_659115_StringBuilder_init l hl0 D I P668915 F668916 q668914 0 0 hm668926 he668923 (gB_w (gBl (show Int32.toInt 0 = 0 by decide)) (by decide) (by decide)) (gB_w (gBl (show Int32.toInt 0 = 0 by decide)) (by decide) (by decide))) dr_cX14_symbol_171 ⟨wr_7_236, wr_1_20, wr_7_47, by decide, rfl, (Nat.le_of_ble_eq_true rfl), (Nat.le_of_ble_eq_true rfl)⟩ wr_7_46 rfl (Nat.le_trans (show 1 + 1 ≤ 16 by decide) hMC) (Nat.le_trans (show 4 + 16 ≤ 160 by decide) hMS) (Nat.le_of_ble_eq_true rfl) (fun r668933 w668934 dc668930 ds668931 hp668932 => ?_)
        obtain ⟨P668936, F668937, q668935, rfl, rfl, hsb668938, hfr668939, he668940, he668941, hm668942, hq668943, hdc, hds⟩ := hp668932
        have hm668944 : q668841 ∈ P668936 := hsb668938 q668841 hm668924
        have hm668945 : q668842 ∈ P668936 := hsb668938 q668842 hm668925
        have hm668946 : q668914 ∈ P668936 := hsb668938 q668914 hm668926
        have hq668947 : q668935 ∉ P668839 := fun z => hq668943 (hsb668929 q668935 z)
        have hsb668948 : rSub P668839 P668936 := rSub_tr hsb668929 hsb668938
        have he668949 : F668937 q668841 = .inr (19, [.ref q668842, .int p668844, .int p668845, .int 6, .int p668847, .int p668848, .int p668849, .ref qo668850, .int p668851, .int p668852, .int p668853, .ref qo668854, .ref qo668855, .int p668856]) := (hfr668939 q668841 hm668924 (nm_c (fun h => hq668927 (h ▸ hmq668841)) nm_n)).trans he668921
        have he668950 : F668937 q668842 = .inl (I .byte, 8192, .inl f668857) := (hfr668939 q668842 hm668925 (nm_c (fun h => hq668927 (h ▸ hmq668842)) nm_n)).trans he668922
        have hfr668951 : rFr [q668841] P668839 F668840 F668937 := rFr_call hsb668929 hfr668928 hfr668939 (fun b hb hn => ⟨(nm_c (fun e => hn (e ▸ List.mem_cons_self)) nm_n), (nm_c (fun e => hq668927 (e ▸ hb)) nm_n)⟩)
        change G _ _ _ _ _ _ _ _ _ _ _
        refine G_widen (cs' := 2) (sl' := 20) (Nat.add_le_add_left hdc 1) (Nat.add_le_add_left hds 4) ?_
        refine G_ldcK (a := D.2 1000 32) dr_cX14_symbol_174 (fun _ _ _ h => gx_vk 32 rfl rfl h) ?_
        have hl32_668951 : (sb_32.length : Int) = 0 := rfl
        refine Gw_callV (As := [.ref (D.2 1000 32)]) (gV_ok D I) (cp_659417_StringBuilder_append l hl0 D I P668936 F668937 q668914 q668935 (D.2 1000 32) (D.2 1001 32) sb_32 0 0 (fun _ => 0) 16 hm668946 hm668942 he668940 he668941 (gx_sc 32 rfl rfl) (by omega) (by decide +kernel) (gB_w (gBl (show Int32.toInt 0 = 0 by decide)) (by decide) (by decide)) (gB_w (gBl (show Int32.toInt 0 = 0 by decide)) (by decide) (by decide)) (gF_w gF_0 (by decide) (by decide)) (by have qa0 : Int32.toInt 0 = 0 := (by decide); have qa1 : Int32.toInt 6 = 6 := (by decide); omega) (by have qa0 : Int32.toInt 0 = 0 := (by decide); have qa1 : Int32.toInt 6 = 6 := (by decide); omega)) dr_cX14_symbol_176 ⟨wr_8_195, wr_1_20, wr_8_143, by decide, rfl, (Nat.le_of_ble_eq_true rfl), (Nat.le_of_ble_eq_true rfl)⟩ wr_8_141 wr_8_142 hm668946 he668940 rfl (Nat.le_trans (show 2 + 0 ≤ 16 by decide) hMC) (Nat.le_trans (show 20 + 0 ≤ 160 by decide) hMS) (Nat.le_of_ble_eq_true rfl) (fun r668956 w668957 dc668953 ds668954 hp668955 => ?_) (fun _ _ _ _ _ z => z.elim)
        obtain ⟨F668964, o668958, f668959, rfl, rfl, hfr668966, he668967, he668968, hdc, hds, bo668958, bf668959, x668960, x668961, x668962, ht668963⟩ := hp668955
        have he668969 : F668964 q668841 = .inr (19, [.ref q668842, .int p668844, .int p668845, .int 6, .int p668847, .int p668848, .int p668849, .ref qo668850, .int p668851, .int p668852, .int p668853, .ref qo668854, .ref qo668855, .int p668856]) := (hfr668966 q668841 hm668944 (nm_c (fun h => hq668927 (h ▸ hmq668841)) (nm_c (fun h => hq668947 (h ▸ hmq668841)) nm_n))).trans he668949
        have he668970 : F668964 q668842 = .inl (I .byte, 8192, .inl f668857) := (hfr668966 q668842 hm668945 (nm_c (fun h => hq668927 (h ▸ hmq668842)) (nm_c (fun h => hq668947 (h ▸ hmq668842)) nm_n))).trans he668950
        have hfr668971 : rFr [q668841] P668839 F668840 F668964 := rFr_call hsb668948 hfr668951 hfr668966 (fun b hb hn => ⟨(nm_c (fun e => hn (e ▸ List.mem_cons_self)) nm_n), (nm_c (fun e => hq668927 (e ▸ hb)) (nm_c (fun e => hq668947 (e ▸ hb)) nm_n))⟩)
        rw [show Int32.toInt 0 = 0 from by decide] at x668960
        have bo668958' : gB o668958 0 0 := ⟨by omega, by omega⟩
        rw [show Int32.toInt 0 = 0 from by decide] at x668961
        rw [show Int32.toInt 0 = 0 from by decide] at x668962
        change G _ _ _ _ _ _ _ (.ref q668914 :: _) _ _ _
        refine G_widen (cs' := 2) (sl' := 20) (Nat.add_le_add_left hdc 2) (Nat.add_le_add_left hds 20) ?_
        refine G_iload_n 3 dr_cX14_symbol_179 rfl ?_
        refine G_i2c dr_cX14_symbol_180 (G_nam fun z668972 hz668972 => ?_)
        have ez668972 : z668972.toInt = p668843.toInt := gI_i2c hz668972 (by omega) (by omega)
        have bz668972 : gB z668972 33 127 := ⟨by omega, by omega⟩
        refine Gw_callV (As := [.int z668972]) (gV_ok D I) (cp_658676_StringBuilder_append l hl0 D I P668936 F668964 q668914 q668935 z668972 0 o668958 f668959 16 hm668946 hm668942 he668967 he668968 (gB_w bz668972 (by decide) (by decide)) (gB_w (gBl (show Int32.toInt 0 = 0 by decide)) (by decide) (by decide)) (gB_w bo668958' (by decide) (by decide)) bf668959 (by have qa0 : Int32.toInt 0 = 0 := (by decide); have qa1 : Int32.toInt 6 = 6 := (by decide); omega) (by have qa0 : Int32.toInt 0 = 0 := (by decide); have qa1 : Int32.toInt 6 = 6 := (by decide); omega)) dr_cX14_symbol_181 ⟨wr_7_237, wr_1_20, wr_8_0, by decide, rfl, (Nat.le_of_ble_eq_true rfl), (Nat.le_of_ble_eq_true rfl)⟩ wr_7_238 wr_7_239 hm668946 he668967 rfl (Nat.le_trans (show 2 + 0 ≤ 16 by decide) hMC) (Nat.le_trans (show 20 + 0 ≤ 160 by decide) hMS) (Nat.le_of_ble_eq_true rfl) (fun r668976 w668977 dc668973 ds668974 hp668975 => ?_) (fun _ _ _ _ _ z => z.elim)
        obtain ⟨F668982, o668978, f668979, rfl, rfl, hfr668984, he668985, he668986, hdc, hds, bo668978, bf668979, x668980, ht668981⟩ := hp668975
        have he668987 : F668982 q668841 = .inr (19, [.ref q668842, .int p668844, .int p668845, .int 6, .int p668847, .int p668848, .int p668849, .ref qo668850, .int p668851, .int p668852, .int p668853, .ref qo668854, .ref qo668855, .int p668856]) := (hfr668984 q668841 hm668944 (nm_c (fun h => hq668947 (h ▸ hmq668841)) (nm_c (fun h => hq668927 (h ▸ hmq668841)) nm_n))).trans he668969
        have he668988 : F668982 q668842 = .inl (I .byte, 8192, .inl f668857) := (hfr668984 q668842 hm668945 (nm_c (fun h => hq668947 (h ▸ hmq668842)) (nm_c (fun h => hq668927 (h ▸ hmq668842)) nm_n))).trans he668970
        have hfr668989 : rFr [q668841] P668839 F668840 F668982 := rFr_call hsb668948 hfr668971 hfr668984 (fun b hb hn => ⟨(nm_c (fun e => hn (e ▸ List.mem_cons_self)) nm_n), (nm_c (fun e => hq668947 (e ▸ hb)) (nm_c (fun e => hq668927 (e ▸ hb)) nm_n))⟩)
        have bo668978' : gB o668978 1 1 := ⟨by omega, by omega⟩
        change G _ _ _ _ _ _ _ (.ref q668914 :: _) _ _ _
        refine G_widen (cs' := 2) (sl' := 20) (Nat.add_le_add_left hdc 2) (Nat.add_le_add_left hds 20) ?_
        refine Gw_callV (As := []) (gV_ok D I) (cp_659890_StringBuilder_toString l hl0 D I P668936 F668982 q668914 q668935 0 o668978 f668979 16 hm668946 hm668942 he668985 he668986 (gB_w (gBl (show Int32.toInt 0 = 0 by decide)) (by decide) (by decide)) (gB_w bo668978' (by decide) (by decide)) bf668979 (by have qa0 : Int32.toInt 0 = 0 := (by decide); have qa1 : Int32.toInt 6 = 6 := (by decide); omega) (by have qa0 : Int32.toInt 0 = 0 := (by decide); have qa1 : Int32.toInt 6 = 6 := (by decide); omega)) dr_cX14_symbol_184 ⟨wr_8_66, wr_1_20, wr_8_69, by decide, rfl, (Nat.le_of_ble_eq_true rfl), (Nat.le_of_ble_eq_true rfl)⟩ wr_8_67 wr_8_68 hm668946 he668985 rfl (Nat.le_trans (show 2 + 2 ≤ 16 by decide) hMC) (show 20 + (o668978.toInt.toNat + 4) ≤ ((160 * (p668844.toInt - p668845.toInt)).toNat) by first | omega | decide) (Nat.le_of_ble_eq_true rfl) (fun r668993 w668994 dc668990 ds668991 hp668992 => ?_) (fun _ _ _ _ _ z => z.elim)
        obtain ⟨P669002, F669003, q668995, q668996, n668997, f668998, rfl, rfl, hsb669004, hfr669005, he669006, he669007, he669008, he669009, hm669010, hq669011, hm669012, hq669013, hdc, hds, bf668998, x668999, x669000, ht669001⟩ := hp668992
        have hm669014 : q668841 ∈ P669002 := hsb669004 q668841 hm668944
        have hm669015 : q668842 ∈ P669002 := hsb669004 q668842 hm668945
        have hm669016 : q668914 ∈ P669002 := hsb669004 q668914 hm668946
        have hm669017 : q668935 ∈ P669002 := hsb669004 q668935 hm668942
        have hq669018 : q668995 ∉ P668839 := fun z => hq669011 (hsb668948 q668995 z)
        have hq669019 : q668996 ∉ P668839 := fun z => hq669013 (hsb668948 q668996 z)
        have hsb669020 : rSub P668839 P669002 := rSub_tr hsb668948 hsb669004
        have he669021 : F669003 q668841 = .inr (19, [.ref q668842, .int p668844, .int p668845, .int 6, .int p668847, .int p668848, .int p668849, .ref qo668850, .int p668851, .int p668852, .int p668853, .ref qo668854, .ref qo668855, .int p668856]) := (hfr669005 q668841 hm668944 nm_n).trans he668987
        have he669022 : F669003 q668842 = .inl (I .byte, 8192, .inl f668857) := (hfr669005 q668842 hm668945 nm_n).trans he668988
        have hfr669023 : rFr [q668841] P668839 F668840 F669003 := rFr_call hsb668948 hfr668989 hfr669005 (fun b hb hn => ⟨(nm_c (fun e => hn (e ▸ List.mem_cons_self)) nm_n), nm_n⟩)
        have hne669024 : q668935 ≠ q668996 := fun h => hq669013 (h ▸ hm668942)
        change G _ _ _ _ _ _ _ (.ref q668995 :: _) _ _ _
        refine G_widen (cs' := 4) (sl' := 20 + (o668978.toInt.toNat + 4)) (Nat.add_le_add_left hdc 2) (by omega) ?_
        refine G_goto 192 dr_cX14_symbol_187 (by decide +kernel) ?_
        refine Gp_put 7 hm669014 he669021 dr_cX14_symbol_192 (gk_X14 D I) (Nat.le_of_ble_eq_true rfl) wr_9_43 rfl rfl rfl (Nat.le_of_ble_eq_true rfl) (fun F669025 e669026 n669027 => ?_)
        have he669028 : F669025 q668842 = .inl (I .byte, 8192, .inl f668857) := (n669027 q668842 (rn_ao he669022 he669021)).trans he669022
        have he669029 : F669025 q668995 = .inr (0, [.ref q668996, .int 0, .int 0, .int 0]) := (n669027 q668995 (fun h => hq669018 (h ▸ hmq668841))).trans he669006
        have he669030 : F669025 q668914 = .inr (1, [.ref q668935, .int 0, .int 0, .int o668978]) := (n669027 q668914 (fun h => hq668927 (h ▸ hmq668841))).trans he669007
        have he669031 : F669025 q668935 = .inl (I .byte, 16, .inl f668979) := (n669027 q668935 (fun h => hq668947 (h ▸ hmq668841))).trans he669008
        have he669032 : F669025 q668996 = .inl (I .byte, n668997, .inl f668998) := (n669027 q668996 (fun h => hq669019 (h ▸ hmq668841))).trans he669009
        have he669033 : F669025 q668841 = .inr (19, [.ref q668842, .int p668844, .int p668845, .int 6, .int p668847, .int p668848, .int p668849, .ref q668995, .int p668851, .int p668852, .int p668853, .ref qo668854, .ref qo668855, .int p668856]) := e669026
        have hfr669034 : rFr [q668841] P668839 F668840 F669025 := rFr_put' List.mem_cons_self hfr669023 n669027
        clear he668911 he668912 hfr668913 he668921 he668922 he668923 hm668924 hm668925 hm668926 hq668927 hfr668928 hsb668929 hsb668938 hfr668939 he668940 he668941 hm668942 hq668943 hm668944 hm668945 hm668946 hq668947 hsb668948 he668949 he668950 hfr668951 hfr668966 he668967 he668968 bf668959 he668969 he668970 hfr668971 ez668972 bz668972 hfr668984 he668985 he668986 bf668979 he668987 he668988 hfr668989 hsb669004 hfr669005 he669006 he669007 he669008 he669009 hq669011 hq669013 hm669016 hm669017 he669021 he669022 hfr669023 hne669024 he669030 he669031; try clear r668933; try clear w668934; try clear dc668930; try clear ds668931; try clear hp668932; try clear r668956; try clear w668957; try clear dc668953; try clear ds668954; try clear hp668955; try clear x668961; try clear x668962; try clear r668976; try clear w668977; try clear dc668973; try clear ds668974; try clear hp668975; try clear r668993; try clear w668994; try clear dc668990; try clear ds668991; try clear hp668992; try clear x669000
        refine G_aload_n 2 dr_cX14_symbol_195 rfl ?_
        refine G_dup dr_cX14_symbol_196 rfl ?_
        refine Gp_get 2 hm669014 he669033 dr_cX14_symbol_197 (gk_X14 D I) (Nat.le_of_ble_eq_true rfl) wr_9_38 rfl ?_
        refine G_iload_n 0 dr_cX14_symbol_200 rfl ?_
        refine G_if_eq 208 dr_cX14_symbol_201 (by decide +kernel) (fun _ => ?_) (fun hc => absurd hc (by decide))
        refine G_iconst 1 dr_cX14_symbol_208 (by decide +kernel) ?_
        refine G_iadd dr_cX14_symbol_209 (G_nam fun z669035 hz669035 => ?_)
        have ez669035 : z669035.toInt = p668845.toInt + 1 := by rw [gI_add hz669035 bp668845 (gBl (show Int32.toInt 1 = 1 by decide)) (by decide) (by decide), show Int32.toInt 1 = 1 from by decide]
        have bz669035 : gB z669035 1 8193 := gB_add (gI_add hz669035 bp668845 (gBl (show Int32.toInt 1 = 1 by decide)) (by decide) (by decide)) bp668845 (gBl (show Int32.toInt 1 = 1 by decide)) (by decide) (by decide)
        refine Gp_put 2 hm669014 he669033 dr_cX14_symbol_210 (gk_X14 D I) (Nat.le_of_ble_eq_true rfl) wr_9_38 rfl rfl rfl (Nat.le_of_ble_eq_true rfl) (fun F669036 e669037 n669038 => ?_)
        have he669039 : F669036 q668842 = .inl (I .byte, 8192, .inl f668857) := (n669038 q668842 (rn_ao he669028 he669033)).trans he669028
        have he669040 : F669036 q668995 = .inr (0, [.ref q668996, .int 0, .int 0, .int 0]) := (n669038 q668995 (fun h => hq669018 (h ▸ hmq668841))).trans he669029
        have he669041 : F669036 q668996 = .inl (I .byte, n668997, .inl f668998) := (n669038 q668996 (fun h => hq669019 (h ▸ hmq668841))).trans he669032
        have he669042 : F669036 q668841 = .inr (19, [.ref q668842, .int p668844, .int z669035, .int 6, .int p668847, .int p668848, .int p668849, .ref q668995, .int p668851, .int p668852, .int p668853, .ref qo668854, .ref qo668855, .int p668856]) := e669037
        have hfr669043 : rFr [q668841] P668839 F668840 F669036 := rFr_put' List.mem_cons_self hfr669034 n669038
        exact G_vretA dr_cX14_symbol_213 rfl (show 4 ≤ ((16 * (p668844.toInt - p668845.toInt)).toNat) by omega) (show 20 + (o668978.toInt.toNat + 4) ≤ ((160 * (p668844.toInt - p668845.toInt)).toNat) by omega) ⟨P669002, F669036, z669035, 6, q668995, (0, fun _ => 0), rfl, rfl, hsb669020, hfr669043, he669042, he669039, (by omega), (by omega), ⟨by omega, by omega⟩, (gB_w (gBl (show Int32.toInt 6 = 6 by decide)) (by decide) (by decide)), (by have qa0 : Int32.toInt 0 = 0 := (by decide); have qa1 : Int32.toInt 6 = 6 := (by decide); omega), (by have qa0 : Int32.toInt 0 = 0 := (by decide); have qa1 : Int32.toInt 6 = 6 := (by decide); omega), (tP_no (by decide) (by decide)), (vP_no (by decide) (by decide)), (fun R c1 c2 c3 c4 c5 c6 => c2 o668871 z668898 o668904 o668958 f668959 z668972 o668978 f668979 n668997 f668998 z669035 hJ668864 bo668871 ht668873 r668896 hz668898 bo668904 ht668905 r668907 bo668958 ht668963 hz668972 bo668978 ht668981 ht669001 ez669035)⟩
      · have r669044 : 0 ≤ o668904.toInt := gj_nlt hc668906 (show Int32.toInt 0 = 0 by decide)
        have bo668904' : gB o668904 0 65534 := ⟨by omega, by omega⟩
        refine G_iconst 5 dr_cX14_symbol_143 (by decide +kernel) ?_
        refine G_goto 149 dr_cX14_symbol_144 (by decide +kernel) ?_
        refine Gp_put 3 hmq668841 heq668841 dr_cX14_symbol_149 (gk_X14 D I) (Nat.le_of_ble_eq_true rfl) wr_9_39 rfl rfl rfl (Nat.le_of_ble_eq_true rfl) (fun F669045 e669046 n669047 => ?_)
        have he669048 : F669045 q668842 = .inl (I .byte, 8192, .inl f668857) := (n669047 q668842 (rn_ao heq668842 heq668841)).trans heq668842
        have he669049 : F669045 q668841 = .inr (19, [.ref q668842, .int p668844, .int p668845, .int 5, .int p668847, .int p668848, .int p668849, .ref qo668850, .int p668851, .int p668852, .int p668853, .ref qo668854, .ref qo668855, .int p668856]) := e669046
        have hfr669050 : rFr [q668841] P668839 F668840 F669045 := rFr_put (rFr_rf (W := []) (P := P668839) (F := F668840)) n669047
        clear ez668898 bz668898 bo668904'; try clear r668902; try clear w668903; try clear dc668899; try clear ds668900; try clear hp668901
        refine G_aload_n 2 dr_cX14_symbol_152 rfl ?_
        refine G_iload_n 0 dr_cX14_symbol_153 rfl ?_
        refine G_if_eq 161 dr_cX14_symbol_154 (by decide +kernel) (fun _ => ?_) (fun hc => absurd hc (by decide))
        refine G_iload_n 3 dr_cX14_symbol_161 rfl ?_
        refine G_bipush 32 dr_cX14_symbol_162 (by decide +kernel) ?_
        refine G_icmp_le 190 dr_cX14_symbol_164 (by decide +kernel) (fun hc => absurd (show False by have := gj_le hc (show Int32.toInt 32 = 32 by decide); omega) not_false) (fun _ => ?_)
        refine G_new [.null, .int 0, .int 0, .int 0] dr_cX14_symbol_167 (gk_J4 D I) wr_7_235 wr_7_44 wr_1_20 (gfs_J4) (Nat.le_trans (show 0 + 1 ≤ 16 by decide) hMC) (Nat.le_trans (show 0 + 4 ≤ 160 by decide) hMS) (fun q669051 => Gp_in (fun P669052 F669053 hq669054 hP669055 e669056 n669057 => ?_))
        refine G_widen (cs' := 1) (sl' := 4) (by omega) (by omega) ?_
        have he669058 : F669053 q668841 = .inr (19, [.ref q668842, .int p668844, .int p668845, .int 5, .int p668847, .int p668848, .int p668849, .ref qo668850, .int p668851, .int p668852, .int p668853, .ref qo668854, .ref qo668855, .int p668856]) := (n669057 q668841 (fun h => hq669054 (h ▸ hmq668841))).trans he669049
        have he669059 : F669053 q668842 = .inl (I .byte, 8192, .inl f668857) := (n669057 q668842 (fun h => hq669054 (h ▸ hmq668842))).trans he669048
        have he669060 : F669053 q669051 = .inr (1, [.null, .int 0, .int 0, .int 0]) := e669056
        have hm669061 : q668841 ∈ P669052 := (hP669055 q668841).mpr (Or.inl hmq668841)
        have hm669062 : q668842 ∈ P669052 := (hP669055 q668842).mpr (Or.inl hmq668842)
        have hm669063 : q669051 ∈ P669052 := (hP669055 q669051).mpr (Or.inr rfl)
        have hq669064 : q669051 ∉ P668839 := fun z => hq669054 ((rSub_rf (P := P668839)) q669051 z)
        have hfr669065 : rFr [q668841] P668839 F668840 F669053 := rFr_new (rSub_rf (P := P668839)) hq669054 hfr669050 n669057
        have hsb669066 : rSub P668839 P669052 := rSub_new (rSub_rf (P := P668839)) hP669055
        refine G_dup dr_cX14_symbol_170 rfl ?_
        refine Gw_callI (As := []) (gV_ok D I) (cp_659115_StringBuilder_init l hl0 D I P669052 F669053 q669051 0 0 hm669063 he669060 (gB_w (gBl (show Int32.toInt 0 = 0 by decide)) (by decide) (by decide)) (gB_w (gBl (show Int32.toInt 0 = 0 by decide)) (by decide) (by decide))) dr_cX14_symbol_171 ⟨wr_7_236, wr_1_20, wr_7_47, by decide, rfl, (Nat.le_of_ble_eq_true rfl), (Nat.le_of_ble_eq_true rfl)⟩ wr_7_46 rfl (Nat.le_trans (show 1 + 1 ≤ 16 by decide) hMC) (Nat.le_trans (show 4 + 16 ≤ 160 by decide) hMS) (Nat.le_of_ble_eq_true rfl) (fun r669070 w669071 dc669067 ds669068 hp669069 => ?_)
        obtain ⟨P669073, F669074, q669072, rfl, rfl, hsb669075, hfr669076, he669077, he669078, hm669079, hq669080, hdc, hds⟩ := hp669069
        have hm669081 : q668841 ∈ P669073 := hsb669075 q668841 hm669061
        have hm669082 : q668842 ∈ P669073 := hsb669075 q668842 hm669062
        have hm669083 : q669051 ∈ P669073 := hsb669075 q669051 hm669063
        have hq669084 : q669072 ∉ P668839 := fun z => hq669080 (hsb669066 q669072 z)
        have hsb669085 : rSub P668839 P669073 := rSub_tr hsb669066 hsb669075
        have he669086 : F669074 q668841 = .inr (19, [.ref q668842, .int p668844, .int p668845, .int 5, .int p668847, .int p668848, .int p668849, .ref qo668850, .int p668851, .int p668852, .int p668853, .ref qo668854, .ref qo668855, .int p668856]) := (hfr669076 q668841 hm669061 (nm_c (fun h => hq669064 (h ▸ hmq668841)) nm_n)).trans he669058
        have he669087 : F669074 q668842 = .inl (I .byte, 8192, .inl f668857) := (hfr669076 q668842 hm669062 (nm_c (fun h => hq669064 (h ▸ hmq668842)) nm_n)).trans he669059
        have hfr669088 : rFr [q668841] P668839 F668840 F669074 := rFr_call hsb669066 hfr669065 hfr669076 (fun b hb hn => ⟨(nm_c (fun e => hn (e ▸ List.mem_cons_self)) nm_n), (nm_c (fun e => hq669064 (e ▸ hb)) nm_n)⟩)
        change G _ _ _ _ _ _ _ _ _ _ _
        refine G_widen (cs' := 2) (sl' := 20) (Nat.add_le_add_left hdc 1) (Nat.add_le_add_left hds 4) ?_
        refine G_ldcK (a := D.2 1000 32) dr_cX14_symbol_174 (fun _ _ _ h => gx_vk 32 rfl rfl h) ?_
        have hl32_669088 : (sb_32.length : Int) = 0 := rfl
        refine Gw_callV (As := [.ref (D.2 1000 32)]) (gV_ok D I) (cp_659417_StringBuilder_append l hl0 D I P669073 F669074 q669051 q669072 (D.2 1000 32) (D.2 1001 32) sb_32 0 0 (fun _ => 0) 16 hm669083 hm669079 he669077 he669078 (gx_sc 32 rfl rfl) (by omega) (by decide +kernel) (gB_w (gBl (show Int32.toInt 0 = 0 by decide)) (by decide) (by decide)) (gB_w (gBl (show Int32.toInt 0 = 0 by decide)) (by decide) (by decide)) (gF_w gF_0 (by decide) (by decide)) (by have qa0 : Int32.toInt 0 = 0 := (by decide); have qa1 : Int32.toInt 5 = 5 := (by decide); omega) (by have qa0 : Int32.toInt 0 = 0 := (by decide); have qa1 : Int32.toInt 5 = 5 := (by decide); omega)) dr_cX14_symbol_176 ⟨wr_8_195, wr_1_20, wr_8_143, by decide, rfl, (Nat.le_of_ble_eq_true rfl), (Nat.le_of_ble_eq_true rfl)⟩ wr_8_141 wr_8_142 hm669083 he669077 rfl (Nat.le_trans (show 2 + 0 ≤ 16 by decide) hMC) (Nat.le_trans (show 20 + 0 ≤ 160 by decide) hMS) (Nat.le_of_ble_eq_true rfl) (fun r669093 w669094 dc669090 ds669091 hp669092 => ?_) (fun _ _ _ _ _ z => z.elim)
        obtain ⟨F669101, o669095, f669096, rfl, rfl, hfr669103, he669104, he669105, hdc, hds, bo669095, bf669096, x669097, x669098, x669099, ht669100⟩ := hp669092
        have he669106 : F669101 q668841 = .inr (19, [.ref q668842, .int p668844, .int p668845, .int 5, .int p668847, .int p668848, .int p668849, .ref qo668850, .int p668851, .int p668852, .int p668853, .ref qo668854, .ref qo668855, .int p668856]) := (hfr669103 q668841 hm669081 (nm_c (fun h => hq669064 (h ▸ hmq668841)) (nm_c (fun h => hq669084 (h ▸ hmq668841)) nm_n))).trans he669086
        have he669107 : F669101 q668842 = .inl (I .byte, 8192, .inl f668857) := (hfr669103 q668842 hm669082 (nm_c (fun h => hq669064 (h ▸ hmq668842)) (nm_c (fun h => hq669084 (h ▸ hmq668842)) nm_n))).trans he669087
        have hfr669108 : rFr [q668841] P668839 F668840 F669101 := rFr_call hsb669085 hfr669088 hfr669103 (fun b hb hn => ⟨(nm_c (fun e => hn (e ▸ List.mem_cons_self)) nm_n), (nm_c (fun e => hq669064 (e ▸ hb)) (nm_c (fun e => hq669084 (e ▸ hb)) nm_n))⟩)
        rw [show Int32.toInt 0 = 0 from by decide] at x669097
        have bo669095' : gB o669095 0 0 := ⟨by omega, by omega⟩
        rw [show Int32.toInt 0 = 0 from by decide] at x669098
        rw [show Int32.toInt 0 = 0 from by decide] at x669099
        change G _ _ _ _ _ _ _ (.ref q669051 :: _) _ _ _
        refine G_widen (cs' := 2) (sl' := 20) (Nat.add_le_add_left hdc 2) (Nat.add_le_add_left hds 20) ?_
        refine G_iload_n 3 dr_cX14_symbol_179 rfl ?_
        refine G_i2c dr_cX14_symbol_180 (G_nam fun z669109 hz669109 => ?_)
        have ez669109 : z669109.toInt = p668843.toInt := gI_i2c hz669109 (by omega) (by omega)
        have bz669109 : gB z669109 33 127 := ⟨by omega, by omega⟩
        refine Gw_callV (As := [.int z669109]) (gV_ok D I) (cp_658676_StringBuilder_append l hl0 D I P669073 F669101 q669051 q669072 z669109 0 o669095 f669096 16 hm669083 hm669079 he669104 he669105 (gB_w bz669109 (by decide) (by decide)) (gB_w (gBl (show Int32.toInt 0 = 0 by decide)) (by decide) (by decide)) (gB_w bo669095' (by decide) (by decide)) bf669096 (by have qa0 : Int32.toInt 0 = 0 := (by decide); have qa1 : Int32.toInt 5 = 5 := (by decide); omega) (by have qa0 : Int32.toInt 0 = 0 := (by decide); have qa1 : Int32.toInt 5 = 5 := (by decide); omega)) dr_cX14_symbol_181 ⟨wr_7_237, wr_1_20, wr_8_0, by decide, rfl, (Nat.le_of_ble_eq_true rfl), (Nat.le_of_ble_eq_true rfl)⟩ wr_7_238 wr_7_239 hm669083 he669104 rfl (Nat.le_trans (show 2 + 0 ≤ 16 by decide) hMC) (Nat.le_trans (show 20 + 0 ≤ 160 by decide) hMS) (Nat.le_of_ble_eq_true rfl) (fun r669113 w669114 dc669110 ds669111 hp669112 => ?_) (fun _ _ _ _ _ z => z.elim)
        obtain ⟨F669119, o669115, f669116, rfl, rfl, hfr669121, he669122, he669123, hdc, hds, bo669115, bf669116, x669117, ht669118⟩ := hp669112
        have he669124 : F669119 q668841 = .inr (19, [.ref q668842, .int p668844, .int p668845, .int 5, .int p668847, .int p668848, .int p668849, .ref qo668850, .int p668851, .int p668852, .int p668853, .ref qo668854, .ref qo668855, .int p668856]) := (hfr669121 q668841 hm669081 (nm_c (fun h => hq669084 (h ▸ hmq668841)) (nm_c (fun h => hq669064 (h ▸ hmq668841)) nm_n))).trans he669106
        have he669125 : F669119 q668842 = .inl (I .byte, 8192, .inl f668857) := (hfr669121 q668842 hm669082 (nm_c (fun h => hq669084 (h ▸ hmq668842)) (nm_c (fun h => hq669064 (h ▸ hmq668842)) nm_n))).trans he669107
        have hfr669126 : rFr [q668841] P668839 F668840 F669119 := rFr_call hsb669085 hfr669108 hfr669121 (fun b hb hn => ⟨(nm_c (fun e => hn (e ▸ List.mem_cons_self)) nm_n), (nm_c (fun e => hq669084 (e ▸ hb)) (nm_c (fun e => hq669064 (e ▸ hb)) nm_n))⟩)
        have bo669115' : gB o669115 1 1 := ⟨by omega, by omega⟩
        change G _ _ _ _ _ _ _ (.ref q669051 :: _) _ _ _
        refine G_widen (cs' := 2) (sl' := 20) (Nat.add_le_add_left hdc 2) (Nat.add_le_add_left hds 20) ?_
        refine Gw_callV (As := []) (gV_ok D I) (cp_659890_StringBuilder_toString l hl0 D I P669073 F669119 q669051 q669072 0 o669115 f669116 16 hm669083 hm669079 he669122 he669123 (gB_w (gBl (show Int32.toInt 0 = 0 by decide)) (by decide) (by decide)) (gB_w bo669115' (by decide) (by decide)) bf669116 (by have qa0 : Int32.toInt 0 = 0 := (by decide); have qa1 : Int32.toInt 5 = 5 := (by decide); omega) (by have qa0 : Int32.toInt 0 = 0 := (by decide); have qa1 : Int32.toInt 5 = 5 := (by decide); omega)) dr_cX14_symbol_184 ⟨wr_8_66, wr_1_20, wr_8_69, by decide, rfl, (Nat.le_of_ble_eq_true rfl), (Nat.le_of_ble_eq_true rfl)⟩ wr_8_67 wr_8_68 hm669083 he669122 rfl (Nat.le_trans (show 2 + 2 ≤ 16 by decide) hMC) (show 20 + (o669115.toInt.toNat + 4) ≤ ((160 * (p668844.toInt - p668845.toInt)).toNat) by first | omega | decide) (Nat.le_of_ble_eq_true rfl) (fun r669130 w669131 dc669127 ds669128 hp669129 => ?_) (fun _ _ _ _ _ z => z.elim)
        obtain ⟨P669139, F669140, q669132, q669133, n669134, f669135, rfl, rfl, hsb669141, hfr669142, he669143, he669144, he669145, he669146, hm669147, hq669148, hm669149, hq669150, hdc, hds, bf669135, x669136, x669137, ht669138⟩ := hp669129
        have hm669151 : q668841 ∈ P669139 := hsb669141 q668841 hm669081
        have hm669152 : q668842 ∈ P669139 := hsb669141 q668842 hm669082
        have hm669153 : q669051 ∈ P669139 := hsb669141 q669051 hm669083
        have hm669154 : q669072 ∈ P669139 := hsb669141 q669072 hm669079
        have hq669155 : q669132 ∉ P668839 := fun z => hq669148 (hsb669085 q669132 z)
        have hq669156 : q669133 ∉ P668839 := fun z => hq669150 (hsb669085 q669133 z)
        have hsb669157 : rSub P668839 P669139 := rSub_tr hsb669085 hsb669141
        have he669158 : F669140 q668841 = .inr (19, [.ref q668842, .int p668844, .int p668845, .int 5, .int p668847, .int p668848, .int p668849, .ref qo668850, .int p668851, .int p668852, .int p668853, .ref qo668854, .ref qo668855, .int p668856]) := (hfr669142 q668841 hm669081 nm_n).trans he669124
        have he669159 : F669140 q668842 = .inl (I .byte, 8192, .inl f668857) := (hfr669142 q668842 hm669082 nm_n).trans he669125
        have hfr669160 : rFr [q668841] P668839 F668840 F669140 := rFr_call hsb669085 hfr669126 hfr669142 (fun b hb hn => ⟨(nm_c (fun e => hn (e ▸ List.mem_cons_self)) nm_n), nm_n⟩)
        have hne669161 : q669072 ≠ q669133 := fun h => hq669150 (h ▸ hm669079)
        change G _ _ _ _ _ _ _ (.ref q669132 :: _) _ _ _
        refine G_widen (cs' := 4) (sl' := 20 + (o669115.toInt.toNat + 4)) (Nat.add_le_add_left hdc 2) (by omega) ?_
        refine G_goto 192 dr_cX14_symbol_187 (by decide +kernel) ?_
        refine Gp_put 7 hm669151 he669158 dr_cX14_symbol_192 (gk_X14 D I) (Nat.le_of_ble_eq_true rfl) wr_9_43 rfl rfl rfl (Nat.le_of_ble_eq_true rfl) (fun F669162 e669163 n669164 => ?_)
        have he669165 : F669162 q668842 = .inl (I .byte, 8192, .inl f668857) := (n669164 q668842 (rn_ao he669159 he669158)).trans he669159
        have he669166 : F669162 q669132 = .inr (0, [.ref q669133, .int 0, .int 0, .int 0]) := (n669164 q669132 (fun h => hq669155 (h ▸ hmq668841))).trans he669143
        have he669167 : F669162 q669051 = .inr (1, [.ref q669072, .int 0, .int 0, .int o669115]) := (n669164 q669051 (fun h => hq669064 (h ▸ hmq668841))).trans he669144
        have he669168 : F669162 q669072 = .inl (I .byte, 16, .inl f669116) := (n669164 q669072 (fun h => hq669084 (h ▸ hmq668841))).trans he669145
        have he669169 : F669162 q669133 = .inl (I .byte, n669134, .inl f669135) := (n669164 q669133 (fun h => hq669156 (h ▸ hmq668841))).trans he669146
        have he669170 : F669162 q668841 = .inr (19, [.ref q668842, .int p668844, .int p668845, .int 5, .int p668847, .int p668848, .int p668849, .ref q669132, .int p668851, .int p668852, .int p668853, .ref qo668854, .ref qo668855, .int p668856]) := e669163
        have hfr669171 : rFr [q668841] P668839 F668840 F669162 := rFr_put' List.mem_cons_self hfr669160 n669164
        clear he669048 he669049 hfr669050 he669058 he669059 he669060 hm669061 hm669062 hm669063 hq669064 hfr669065 hsb669066 hsb669075 hfr669076 he669077 he669078 hm669079 hq669080 hm669081 hm669082 hm669083 hq669084 hsb669085 he669086 he669087 hfr669088 hfr669103 he669104 he669105 bf669096 he669106 he669107 hfr669108 ez669109 bz669109 hfr669121 he669122 he669123 bf669116 he669124 he669125 hfr669126 hsb669141 hfr669142 he669143 he669144 he669145 he669146 hq669148 hq669150 hm669153 hm669154 he669158 he669159 hfr669160 hne669161 he669167 he669168; try clear r669070; try clear w669071; try clear dc669067; try clear ds669068; try clear hp669069; try clear r669093; try clear w669094; try clear dc669090; try clear ds669091; try clear hp669092; try clear x669098; try clear x669099; try clear r669113; try clear w669114; try clear dc669110; try clear ds669111; try clear hp669112; try clear r669130; try clear w669131; try clear dc669127; try clear ds669128; try clear hp669129; try clear x669137
        refine G_aload_n 2 dr_cX14_symbol_195 rfl ?_
        refine G_dup dr_cX14_symbol_196 rfl ?_
        refine Gp_get 2 hm669151 he669170 dr_cX14_symbol_197 (gk_X14 D I) (Nat.le_of_ble_eq_true rfl) wr_9_38 rfl ?_
        refine G_iload_n 0 dr_cX14_symbol_200 rfl ?_
        refine G_if_eq 208 dr_cX14_symbol_201 (by decide +kernel) (fun _ => ?_) (fun hc => absurd hc (by decide))
        refine G_iconst 1 dr_cX14_symbol_208 (by decide +kernel) ?_
        refine G_iadd dr_cX14_symbol_209 (G_nam fun z669172 hz669172 => ?_)
        have ez669172 : z669172.toInt = p668845.toInt + 1 := by rw [gI_add hz669172 bp668845 (gBl (show Int32.toInt 1 = 1 by decide)) (by decide) (by decide), show Int32.toInt 1 = 1 from by decide]
        have bz669172 : gB z669172 1 8193 := gB_add (gI_add hz669172 bp668845 (gBl (show Int32.toInt 1 = 1 by decide)) (by decide) (by decide)) bp668845 (gBl (show Int32.toInt 1 = 1 by decide)) (by decide) (by decide)
        refine Gp_put 2 hm669151 he669170 dr_cX14_symbol_210 (gk_X14 D I) (Nat.le_of_ble_eq_true rfl) wr_9_38 rfl rfl rfl (Nat.le_of_ble_eq_true rfl) (fun F669173 e669174 n669175 => ?_)
        have he669176 : F669173 q668842 = .inl (I .byte, 8192, .inl f668857) := (n669175 q668842 (rn_ao he669165 he669170)).trans he669165
        have he669177 : F669173 q669132 = .inr (0, [.ref q669133, .int 0, .int 0, .int 0]) := (n669175 q669132 (fun h => hq669155 (h ▸ hmq668841))).trans he669166
        have he669178 : F669173 q669133 = .inl (I .byte, n669134, .inl f669135) := (n669175 q669133 (fun h => hq669156 (h ▸ hmq668841))).trans he669169
        have he669179 : F669173 q668841 = .inr (19, [.ref q668842, .int p668844, .int z669172, .int 5, .int p668847, .int p668848, .int p668849, .ref q669132, .int p668851, .int p668852, .int p668853, .ref qo668854, .ref qo668855, .int p668856]) := e669174
        have hfr669180 : rFr [q668841] P668839 F668840 F669173 := rFr_put' List.mem_cons_self hfr669171 n669175
        exact G_vretA dr_cX14_symbol_213 rfl (show 4 ≤ ((16 * (p668844.toInt - p668845.toInt)).toNat) by omega) (show 20 + (o669115.toInt.toNat + 4) ≤ ((160 * (p668844.toInt - p668845.toInt)).toNat) by omega) ⟨P669139, F669173, z669172, 5, q669132, (n669134, f669135), rfl, rfl, hsb669157, hfr669180, he669179, he669176, (by omega), (by omega), ⟨by omega, by omega⟩, (gB_w (gBl (show Int32.toInt 5 = 5 by decide)) (by decide) (by decide)), (by have qa0 : Int32.toInt 0 = 0 := (by decide); have qa1 : Int32.toInt 5 = 5 := (by decide); omega), (by have qa0 : Int32.toInt 0 = 0 := (by decide); have qa1 : Int32.toInt 5 = 5 := (by decide); omega), (tP_5 hm669147 he669177 hm669149 he669178 bf669135 (by omega) (gB_w (gBl (show Int32.toInt 0 = 0 by decide)) (by decide) (by decide)) (fun e => hq669156 (e ▸ x668860)) (fun e => hq669156 (e ▸ x668861))), (vP_no (by decide) (by decide)), (fun R c1 c2 c3 c4 c5 c6 => c3 o668871 z668898 o668904 o669095 f669096 z669109 o669115 f669116 n669134 f669135 z669172 hJ668864 bo668871 ht668873 r668896 hz668898 bo668904 ht668905 r669044 bo669095 ht669100 hz669109 bo669115 ht669118 ht669138 ez669172)⟩
  refine G_aload_n 0 dr_cX14_symbol_0 rfl ?_
  refine Gp_get 2 hmq668841 heq668841 dr_cX14_symbol_1 (gk_X14 D I) (Nat.le_of_ble_eq_true rfl) wr_9_38 rfl ?_
  refine G_iconst 1 dr_cX14_symbol_4 (by decide +kernel) ?_
  refine G_iadd dr_cX14_symbol_5 (G_nam fun z669181 hz669181 => ?_)
  have ez669181 : z669181.toInt = p668845.toInt + 1 := by rw [gI_add hz669181 bp668845 (gBl (show Int32.toInt 1 = 1 by decide)) (by decide) (by decide), show Int32.toInt 1 = 1 from by decide]
  have bz669181 : gB z669181 1 8193 := gB_add (gI_add hz669181 bp668845 (gBl (show Int32.toInt 1 = 1 by decide)) (by decide) (by decide)) bp668845 (gBl (show Int32.toInt 1 = 1 by decide)) (by decide) (by decide)
  refine G_aload_n 0 dr_cX14_symbol_6 rfl ?_
  refine Gp_get 1 hmq668841 heq668841 dr_cX14_symbol_7 (gk_X14 D I) (Nat.le_of_ble_eq_true rfl) wr_9_37 rfl ?_
  refine G_icmp_ge 73 dr_cX14_symbol_10 (by decide +kernel) (fun hc669182 => ?_) (fun hc669182 => ?_)
  · have r669183 : p668844.toInt ≤ z669181.toInt := gC_le hc669182
    refine G_lv (L' := [(0, .ref q668841), (1, .int p668843)]) [0, 1] rfl ?_
    exact jn668863 (Or.inl ⟨z669181, ez669181, r669183⟩)
  · have r669184 : z669181.toInt < p668844.toInt := gC_nle hc669182
    have bz669181' : gB z669181 1 8191 := ⟨by omega, by omega⟩
    have bp668844' : gB p668844 2 8192 := ⟨by omega, by omega⟩
    refine G_aload_n 0 dr_cX14_symbol_13 rfl ?_
    refine Gp_get 0 hmq668841 heq668841 dr_cX14_symbol_14 (gk_X14 D I) (Nat.le_of_ble_eq_true rfl) wr_9_36 rfl ?_
    refine G_aload_n 0 dr_cX14_symbol_17 rfl ?_
    refine Gp_get 2 hmq668841 heq668841 dr_cX14_symbol_18 (gk_X14 D I) (Nat.le_of_ble_eq_true rfl) wr_9_38 rfl ?_
    refine G_iconst 1 dr_cX14_symbol_21 (by decide +kernel) ?_
    refine G_iadd dr_cX14_symbol_22 (G_eqi (y := z669181) hz669181.symm ?_)
    refine Gp_bald 1 hmq668842 heq668842 dr_cX14_symbol_23 rfl (gB_in bz669181' (by decide) (by decide)) (G_nam fun z669185 hz669185 => ?_)
    have bz669185 : gB z669185 (-128) 127 := by rw [hz669185]; exact bf668857 _
    refine G_bipush 32 dr_cX14_symbol_24 (by decide +kernel) ?_
    refine G_icmp_le 73 dr_cX14_symbol_26 (by decide +kernel) (fun hc669186 => ?_) (fun hc669186 => ?_)
    · have r669187 : z669185.toInt ≤ 32 := gj_le hc669186 (show Int32.toInt 32 = 32 by decide)
      have bz669185' : gB z669185 (-128) 32 := ⟨by omega, by omega⟩
      refine G_lv (L' := [(0, .ref q668841), (1, .int p668843)]) [0, 1] rfl ?_
      exact jn668863 (Or.inr (Or.inl ⟨z669181, z669185, ez669181, r669184, hz669185, bz669185, r669187⟩))
    · have r669188 : 32 < z669185.toInt := gj_nle hc669186 (show Int32.toInt 32 = 32 by decide)
      have bz669185' : gB z669185 33 127 := ⟨by omega, by omega⟩
      refine G_iload_n 1 dr_cX14_symbol_29 rfl ?_
      refine G_bipush 32 dr_cX14_symbol_30 (by decide +kernel) ?_
      refine G_icmp_le 73 dr_cX14_symbol_32 (by decide +kernel) (fun hc669189 => ?_) (fun hc669189 => ?_)
      · have r669190 : p668843.toInt ≤ 32 := gj_le hc669189 (show Int32.toInt 32 = 32 by decide)
        have bp668843' : gB p668843 (-128) 32 := ⟨by omega, by omega⟩
        refine G_lv (L' := [(0, .ref q668841), (1, .int p668843)]) [0, 1] rfl ?_
        exact jn668863 (Or.inr (Or.inr (⟨z669181, z669185, ez669181, r669184, hz669185, bz669185, r669188, r669190⟩)))
      · have r669191 : 32 < p668843.toInt := gj_nle hc669189 (show Int32.toInt 32 = 32 by decide)
        have bp668843' : gB p668843 33 127 := ⟨by omega, by omega⟩
        refine G_new [.null, .int 0, .int 0, .int 0] dr_cX14_symbol_35 (gk_J4 D I) wr_7_235 wr_7_44 wr_1_20 (gfs_J4) (Nat.le_trans (show 0 + 1 ≤ 16 by decide) hMC) (Nat.le_trans (show 0 + 4 ≤ 160 by decide) hMS) (fun q669192 => Gp_in (fun P669193 F669194 hq669195 hP669196 e669197 n669198 => ?_))
        refine G_widen (cs' := 1) (sl' := 4) (by omega) (by omega) ?_
        have he669199 : F669194 q668841 = .inr (19, [.ref q668842, .int p668844, .int p668845, .int p668846, .int p668847, .int p668848, .int p668849, .ref qo668850, .int p668851, .int p668852, .int p668853, .ref qo668854, .ref qo668855, .int p668856]) := (n669198 q668841 (fun h => hq669195 (h ▸ hmq668841))).trans heq668841
        have he669200 : F669194 q668842 = .inl (I .byte, 8192, .inl f668857) := (n669198 q668842 (fun h => hq669195 (h ▸ hmq668842))).trans heq668842
        have he669201 : F669194 q669192 = .inr (1, [.null, .int 0, .int 0, .int 0]) := e669197
        have hm669202 : q668841 ∈ P669193 := (hP669196 q668841).mpr (Or.inl hmq668841)
        have hm669203 : q668842 ∈ P669193 := (hP669196 q668842).mpr (Or.inl hmq668842)
        have hm669204 : q669192 ∈ P669193 := (hP669196 q669192).mpr (Or.inr rfl)
        have hq669205 : q669192 ∉ P668839 := fun z => hq669195 ((rSub_rf (P := P668839)) q669192 z)
        have hfr669206 : rFr [] P668839 F668840 F669194 := rFr_new (rSub_rf (P := P668839)) hq669195 (rFr_rf (W := []) (P := P668839) (F := F668840)) n669198
        have hsb669207 : rSub P668839 P669193 := rSub_new (rSub_rf (P := P668839)) hP669196
        refine G_dup dr_cX14_symbol_38 rfl ?_
        refine Gw_callI (As := []) (gV_ok D I) (cp_659115_StringBuilder_init l hl0 D I P669193 F669194 q669192 0 0 hm669204 he669201 (gB_w (gBl (show Int32.toInt 0 = 0 by decide)) (by decide) (by decide)) (gB_w (gBl (show Int32.toInt 0 = 0 by decide)) (by decide) (by decide))) dr_cX14_symbol_39 ⟨wr_7_236, wr_1_20, wr_7_47, by decide, rfl, (Nat.le_of_ble_eq_true rfl), (Nat.le_of_ble_eq_true rfl)⟩ wr_7_46 rfl (Nat.le_trans (show 1 + 1 ≤ 16 by decide) hMC) (Nat.le_trans (show 4 + 16 ≤ 160 by decide) hMS) (Nat.le_of_ble_eq_true rfl) (fun r669211 w669212 dc669208 ds669209 hp669210 => ?_)
        obtain ⟨P669214, F669215, q669213, rfl, rfl, hsb669216, hfr669217, he669218, he669219, hm669220, hq669221, hdc, hds⟩ := hp669210
        have hm669222 : q668841 ∈ P669214 := hsb669216 q668841 hm669202
        have hm669223 : q668842 ∈ P669214 := hsb669216 q668842 hm669203
        have hm669224 : q669192 ∈ P669214 := hsb669216 q669192 hm669204
        have hq669225 : q669213 ∉ P668839 := fun z => hq669221 (hsb669207 q669213 z)
        have hsb669226 : rSub P668839 P669214 := rSub_tr hsb669207 hsb669216
        have he669227 : F669215 q668841 = .inr (19, [.ref q668842, .int p668844, .int p668845, .int p668846, .int p668847, .int p668848, .int p668849, .ref qo668850, .int p668851, .int p668852, .int p668853, .ref qo668854, .ref qo668855, .int p668856]) := (hfr669217 q668841 hm669202 (nm_c (fun h => hq669205 (h ▸ hmq668841)) nm_n)).trans he669199
        have he669228 : F669215 q668842 = .inl (I .byte, 8192, .inl f668857) := (hfr669217 q668842 hm669203 (nm_c (fun h => hq669205 (h ▸ hmq668842)) nm_n)).trans he669200
        have hfr669229 : rFr [] P668839 F668840 F669215 := rFr_call hsb669207 hfr669206 hfr669217 (fun b hb hn => ⟨nm_n, (nm_c (fun e => hq669205 (e ▸ hb)) nm_n)⟩)
        change G _ _ _ _ _ _ _ _ _ _ _
        refine G_widen (cs' := 2) (sl' := 20) (Nat.add_le_add_left hdc 1) (Nat.add_le_add_left hds 4) ?_
        refine G_ldcK (a := D.2 1000 32) dr_cX14_symbol_42 (fun _ _ _ h => gx_vk 32 rfl rfl h) ?_
        have hl32_669229 : (sb_32.length : Int) = 0 := rfl
        refine Gw_callV (As := [.ref (D.2 1000 32)]) (gV_ok D I) (cp_659417_StringBuilder_append l hl0 D I P669214 F669215 q669192 q669213 (D.2 1000 32) (D.2 1001 32) sb_32 0 0 (fun _ => 0) 16 hm669224 hm669220 he669218 he669219 (gx_sc 32 rfl rfl) (by omega) (by decide +kernel) (gB_w (gBl (show Int32.toInt 0 = 0 by decide)) (by decide) (by decide)) (gB_w (gBl (show Int32.toInt 0 = 0 by decide)) (by decide) (by decide)) (gF_w gF_0 (by decide) (by decide)) (by have qa0 : Int32.toInt 0 = 0 := (by decide); omega) (by have qa0 : Int32.toInt 0 = 0 := (by decide); omega)) dr_cX14_symbol_44 ⟨wr_8_195, wr_1_20, wr_8_143, by decide, rfl, (Nat.le_of_ble_eq_true rfl), (Nat.le_of_ble_eq_true rfl)⟩ wr_8_141 wr_8_142 hm669224 he669218 rfl (Nat.le_trans (show 2 + 0 ≤ 16 by decide) hMC) (Nat.le_trans (show 20 + 0 ≤ 160 by decide) hMS) (Nat.le_of_ble_eq_true rfl) (fun r669234 w669235 dc669231 ds669232 hp669233 => ?_) (fun _ _ _ _ _ z => z.elim)
        obtain ⟨F669242, o669236, f669237, rfl, rfl, hfr669244, he669245, he669246, hdc, hds, bo669236, bf669237, x669238, x669239, x669240, ht669241⟩ := hp669233
        have he669247 : F669242 q668841 = .inr (19, [.ref q668842, .int p668844, .int p668845, .int p668846, .int p668847, .int p668848, .int p668849, .ref qo668850, .int p668851, .int p668852, .int p668853, .ref qo668854, .ref qo668855, .int p668856]) := (hfr669244 q668841 hm669222 (nm_c (fun h => hq669205 (h ▸ hmq668841)) (nm_c (fun h => hq669225 (h ▸ hmq668841)) nm_n))).trans he669227
        have he669248 : F669242 q668842 = .inl (I .byte, 8192, .inl f668857) := (hfr669244 q668842 hm669223 (nm_c (fun h => hq669205 (h ▸ hmq668842)) (nm_c (fun h => hq669225 (h ▸ hmq668842)) nm_n))).trans he669228
        have hfr669249 : rFr [] P668839 F668840 F669242 := rFr_call hsb669226 hfr669229 hfr669244 (fun b hb hn => ⟨nm_n, (nm_c (fun e => hq669205 (e ▸ hb)) (nm_c (fun e => hq669225 (e ▸ hb)) nm_n))⟩)
        rw [show Int32.toInt 0 = 0 from by decide] at x669238
        have bo669236' : gB o669236 0 0 := ⟨by omega, by omega⟩
        rw [show Int32.toInt 0 = 0 from by decide] at x669239
        rw [show Int32.toInt 0 = 0 from by decide] at x669240
        change G _ _ _ _ _ _ _ (.ref q669192 :: _) _ _ _
        refine G_widen (cs' := 2) (sl' := 20) (Nat.add_le_add_left hdc 2) (Nat.add_le_add_left hds 20) ?_
        refine G_iload_n 1 dr_cX14_symbol_47 rfl ?_
        refine G_i2c dr_cX14_symbol_48 (G_nam fun z669250 hz669250 => ?_)
        have ez669250 : z669250.toInt = p668843.toInt := gI_i2c hz669250 (by omega) (by omega)
        have bz669250 : gB z669250 33 127 := ⟨by omega, by omega⟩
        refine Gw_callV (As := [.int z669250]) (gV_ok D I) (cp_658676_StringBuilder_append l hl0 D I P669214 F669242 q669192 q669213 z669250 0 o669236 f669237 16 hm669224 hm669220 he669245 he669246 (gB_w bz669250 (by decide) (by decide)) (gB_w (gBl (show Int32.toInt 0 = 0 by decide)) (by decide) (by decide)) (gB_w bo669236' (by decide) (by decide)) bf669237 (by have qa0 : Int32.toInt 0 = 0 := (by decide); omega) (by have qa0 : Int32.toInt 0 = 0 := (by decide); omega)) dr_cX14_symbol_49 ⟨wr_7_237, wr_1_20, wr_8_0, by decide, rfl, (Nat.le_of_ble_eq_true rfl), (Nat.le_of_ble_eq_true rfl)⟩ wr_7_238 wr_7_239 hm669224 he669245 rfl (Nat.le_trans (show 2 + 0 ≤ 16 by decide) hMC) (Nat.le_trans (show 20 + 0 ≤ 160 by decide) hMS) (Nat.le_of_ble_eq_true rfl) (fun r669254 w669255 dc669251 ds669252 hp669253 => ?_) (fun _ _ _ _ _ z => z.elim)
        obtain ⟨F669260, o669256, f669257, rfl, rfl, hfr669262, he669263, he669264, hdc, hds, bo669256, bf669257, x669258, ht669259⟩ := hp669253
        have he669265 : F669260 q668841 = .inr (19, [.ref q668842, .int p668844, .int p668845, .int p668846, .int p668847, .int p668848, .int p668849, .ref qo668850, .int p668851, .int p668852, .int p668853, .ref qo668854, .ref qo668855, .int p668856]) := (hfr669262 q668841 hm669222 (nm_c (fun h => hq669225 (h ▸ hmq668841)) (nm_c (fun h => hq669205 (h ▸ hmq668841)) nm_n))).trans he669247
        have he669266 : F669260 q668842 = .inl (I .byte, 8192, .inl f668857) := (hfr669262 q668842 hm669223 (nm_c (fun h => hq669225 (h ▸ hmq668842)) (nm_c (fun h => hq669205 (h ▸ hmq668842)) nm_n))).trans he669248
        have hfr669267 : rFr [] P668839 F668840 F669260 := rFr_call hsb669226 hfr669249 hfr669262 (fun b hb hn => ⟨nm_n, (nm_c (fun e => hq669225 (e ▸ hb)) (nm_c (fun e => hq669205 (e ▸ hb)) nm_n))⟩)
        have bo669256' : gB o669256 1 1 := ⟨by omega, by omega⟩
        change G _ _ _ _ _ _ _ (.ref q669192 :: _) _ _ _
        refine G_widen (cs' := 2) (sl' := 20) (Nat.add_le_add_left hdc 2) (Nat.add_le_add_left hds 20) ?_
        refine G_aload_n 0 dr_cX14_symbol_52 rfl ?_
        refine Gp_get 0 hm669222 he669265 dr_cX14_symbol_53 (gk_X14 D I) (Nat.le_of_ble_eq_true rfl) wr_9_36 rfl ?_
        refine G_aload_n 0 dr_cX14_symbol_56 rfl ?_
        refine Gp_get 2 hm669222 he669265 dr_cX14_symbol_57 (gk_X14 D I) (Nat.le_of_ble_eq_true rfl) wr_9_38 rfl ?_
        refine G_iconst 1 dr_cX14_symbol_60 (by decide +kernel) ?_
        refine G_iadd dr_cX14_symbol_61 (G_eqi (y := z669181) hz669181.symm ?_)
        refine Gp_bald 1 hm669223 he669266 dr_cX14_symbol_62 rfl (gB_in bz669181' (by decide) (by decide)) (G_eqi (y := z669185) hz669185.symm ?_)
        refine G_i2c dr_cX14_symbol_63 (G_nam fun z669268 hz669268 => ?_)
        have ez669268 : z669268.toInt = z669185.toInt := gI_i2c hz669268 (by omega) (by omega)
        have bz669268 : gB z669268 33 127 := ⟨by omega, by omega⟩
        refine Gw_callV (As := [.int z669268]) (gV_ok D I) (cp_658676_StringBuilder_append l hl0 D I P669214 F669260 q669192 q669213 z669268 0 o669256 f669257 16 hm669224 hm669220 he669263 he669264 (gB_w bz669268 (by decide) (by decide)) (gB_w (gBl (show Int32.toInt 0 = 0 by decide)) (by decide) (by decide)) (gB_w bo669256' (by decide) (by decide)) bf669257 (by have qa0 : Int32.toInt 0 = 0 := (by decide); omega) (by have qa0 : Int32.toInt 0 = 0 := (by decide); omega)) dr_cX14_symbol_64 ⟨wr_7_237, wr_1_20, wr_8_0, by decide, rfl, (Nat.le_of_ble_eq_true rfl), (Nat.le_of_ble_eq_true rfl)⟩ wr_7_238 wr_7_239 hm669224 he669263 rfl (Nat.le_trans (show 2 + 0 ≤ 16 by decide) hMC) (Nat.le_trans (show 20 + 0 ≤ 160 by decide) hMS) (Nat.le_of_ble_eq_true rfl) (fun r669272 w669273 dc669269 ds669270 hp669271 => ?_) (fun _ _ _ _ _ z => z.elim)
        obtain ⟨F669278, o669274, f669275, rfl, rfl, hfr669280, he669281, he669282, hdc, hds, bo669274, bf669275, x669276, ht669277⟩ := hp669271
        have he669283 : F669278 q668841 = .inr (19, [.ref q668842, .int p668844, .int p668845, .int p668846, .int p668847, .int p668848, .int p668849, .ref qo668850, .int p668851, .int p668852, .int p668853, .ref qo668854, .ref qo668855, .int p668856]) := (hfr669280 q668841 hm669222 (nm_c (fun h => hq669225 (h ▸ hmq668841)) (nm_c (fun h => hq669205 (h ▸ hmq668841)) nm_n))).trans he669265
        have he669284 : F669278 q668842 = .inl (I .byte, 8192, .inl f668857) := (hfr669280 q668842 hm669223 (nm_c (fun h => hq669225 (h ▸ hmq668842)) (nm_c (fun h => hq669205 (h ▸ hmq668842)) nm_n))).trans he669266
        have hfr669285 : rFr [] P668839 F668840 F669278 := rFr_call hsb669226 hfr669267 hfr669280 (fun b hb hn => ⟨nm_n, (nm_c (fun e => hq669225 (e ▸ hb)) (nm_c (fun e => hq669205 (e ▸ hb)) nm_n))⟩)
        have bo669274' : gB o669274 2 2 := ⟨by omega, by omega⟩
        change G _ _ _ _ _ _ _ (.ref q669192 :: _) _ _ _
        refine G_widen (cs' := 2) (sl' := 20) (Nat.add_le_add_left hdc 2) (Nat.add_le_add_left hds 20) ?_
        refine Gw_callV (As := []) (gV_ok D I) (cp_659890_StringBuilder_toString l hl0 D I P669214 F669278 q669192 q669213 0 o669274 f669275 16 hm669224 hm669220 he669281 he669282 (gB_w (gBl (show Int32.toInt 0 = 0 by decide)) (by decide) (by decide)) (gB_w bo669274' (by decide) (by decide)) bf669275 (by have qa0 : Int32.toInt 0 = 0 := (by decide); omega) (by have qa0 : Int32.toInt 0 = 0 := (by decide); omega)) dr_cX14_symbol_67 ⟨wr_8_66, wr_1_20, wr_8_69, by decide, rfl, (Nat.le_of_ble_eq_true rfl), (Nat.le_of_ble_eq_true rfl)⟩ wr_8_67 wr_8_68 hm669224 he669281 rfl (Nat.le_trans (show 2 + 2 ≤ 16 by decide) hMC) (show 20 + (o669274.toInt.toNat + 4) ≤ ((160 * (p668844.toInt - p668845.toInt)).toNat) by first | omega | decide) (Nat.le_of_ble_eq_true rfl) (fun r669289 w669290 dc669286 ds669287 hp669288 => ?_) (fun _ _ _ _ _ z => z.elim)
        obtain ⟨P669298, F669299, q669291, q669292, n669293, f669294, rfl, rfl, hsb669300, hfr669301, he669302, he669303, he669304, he669305, hm669306, hq669307, hm669308, hq669309, hdc, hds, bf669294, x669295, x669296, ht669297⟩ := hp669288
        have hm669310 : q668841 ∈ P669298 := hsb669300 q668841 hm669222
        have hm669311 : q668842 ∈ P669298 := hsb669300 q668842 hm669223
        have hm669312 : q669192 ∈ P669298 := hsb669300 q669192 hm669224
        have hm669313 : q669213 ∈ P669298 := hsb669300 q669213 hm669220
        have hq669314 : q669291 ∉ P668839 := fun z => hq669307 (hsb669226 q669291 z)
        have hq669315 : q669292 ∉ P668839 := fun z => hq669309 (hsb669226 q669292 z)
        have hsb669316 : rSub P668839 P669298 := rSub_tr hsb669226 hsb669300
        have he669317 : F669299 q668841 = .inr (19, [.ref q668842, .int p668844, .int p668845, .int p668846, .int p668847, .int p668848, .int p668849, .ref qo668850, .int p668851, .int p668852, .int p668853, .ref qo668854, .ref qo668855, .int p668856]) := (hfr669301 q668841 hm669222 nm_n).trans he669283
        have he669318 : F669299 q668842 = .inl (I .byte, 8192, .inl f668857) := (hfr669301 q668842 hm669223 nm_n).trans he669284
        have hfr669319 : rFr [] P668839 F668840 F669299 := rFr_call hsb669226 hfr669285 hfr669301 (fun b hb hn => ⟨nm_n, nm_n⟩)
        have hne669320 : q669213 ≠ q669292 := fun h => hq669309 (h ▸ hm669220)
        change G _ _ _ _ _ _ _ (.ref q669291 :: _) _ _ _
        refine G_widen (cs' := 4) (sl' := 20 + (o669274.toInt.toNat + 4)) (Nat.add_le_add_left hdc 2) (by omega) ?_
        refine G_goto 75 dr_cX14_symbol_70 (by decide +kernel) ?_
        refine G_astore_n (L' := [(2, .ref q669291), (0, .ref q668841), (1, .int p668843)]) dr_cX14_symbol_75 (Nat.le_of_ble_eq_true rfl) rfl ?_
        clear jn668863 bz669181 he669199 he669200 he669201 hm669202 hm669203 hm669204 hq669205 hfr669206 hsb669207 hsb669216 hfr669217 he669218 he669219 hm669220 hq669221 hm669222 hm669223 hm669224 hq669225 hsb669226 he669227 he669228 hfr669229 hfr669244 he669245 he669246 bf669237 he669247 he669248 hfr669249 ez669250 bz669250 hfr669262 he669263 he669264 bf669257 he669265 he669266 hfr669267 ez669268 bz669268 hfr669280 he669281 he669282 bf669275 he669283 he669284 hfr669285 hsb669300 hfr669301 he669303 he669304 hq669307 hq669309 hm669312 hm669313 hne669320; try clear r669211; try clear w669212; try clear dc669208; try clear ds669209; try clear hp669210; try clear r669234; try clear w669235; try clear dc669231; try clear ds669232; try clear hp669233; try clear x669239; try clear x669240; try clear r669254; try clear w669255; try clear dc669251; try clear ds669252; try clear hp669253; try clear r669272; try clear w669273; try clear dc669269; try clear ds669270; try clear hp669271; try clear r669289; try clear w669290; try clear dc669286; try clear ds669287; try clear hp669288; try clear x669296
        refine G_aload_n 0 dr_cX14_symbol_76 rfl ?_
        refine Gw_callV (As := []) (gV_ok D I) (cp_659217_String_length l hl0 D I P669298 F669299 q669291 q669292 0 0 f669294 n669293 hm669306 hm669308 he669302 he669305 (gB_w (gBl (show Int32.toInt 0 = 0 by decide)) (by decide) (by decide)) bf669294 (by have qa0 : Int32.toInt 0 = 0 := (by decide); omega)) dr_cX14_symbol_77 ⟨wr_8_227, wr_1_21, wr_3_60, by decide, rfl, (Nat.le_of_ble_eq_true rfl), (Nat.le_of_ble_eq_true rfl)⟩ wr_3_58 wr_3_59 hm669306 he669302 rfl (Nat.le_trans (show 4 + 0 ≤ 16 by decide) hMC) (show 20 + (o669274.toInt.toNat + 4) + 0 ≤ ((160 * (p668844.toInt - p668845.toInt)).toNat) by first | omega | decide) (Nat.le_of_ble_eq_true rfl) (fun r669324 w669325 dc669321 ds669322 hp669323 => ?_) (fun _ _ _ _ _ z => z.elim)
        obtain ⟨o669326, rfl, rfl, hdc, hds, bo669326, x669327, ht669328⟩ := hp669323
        have bo669326' : gB o669326 2 2 := ⟨by omega, by omega⟩
        change G _ _ _ _ _ _ _ (.int o669326 :: _) _ _ _
        refine G_widen (cs' := 4) (sl' := 20 + (o669274.toInt.toNat + 4) + 0) (Nat.add_le_add_left hdc 4) (by omega) ?_
        refine G_iconst 2 dr_cX14_symbol_80 (by decide +kernel) ?_
        refine G_icmp_ne 120 dr_cX14_symbol_81 (by decide +kernel) (fun hc => absurd (show False by have := gj_neq hc (show Int32.toInt 2 = 2 by decide); omega) not_false) (fun _ => ?_)
        try clear r669324; try clear w669325; try clear dc669321; try clear ds669322; try clear hp669323
        refine G_ldcK (a := D.2 1000 36) dr_cX14_symbol_84 (fun _ _ _ h => gx_vk 36 rfl rfl h) ?_
        have hl36_669328 : (sb_36.length : Int) = 16 := rfl
        refine G_new [.null, .int 0, .int 0, .int 0] dr_cX14_symbol_86 (gk_J4 D I) wr_7_235 wr_7_44 wr_1_20 (gfs_J4) (Nat.le_trans (show 4 + 1 ≤ 16 by decide) hMC) (show 20 + (o669274.toInt.toNat + 4) + 0 + 4 ≤ ((160 * (p668844.toInt - p668845.toInt)).toNat) by first | omega | decide) (fun q669330 => Gp_in (fun P669331 F669332 hq669333 hP669334 e669335 n669336 => ?_))
        refine G_widen (cs' := 5) (sl' := 20 + (o669274.toInt.toNat + 4) + 0 + 4) (by omega) (by omega) ?_
        have he669337 : F669332 q668841 = .inr (19, [.ref q668842, .int p668844, .int p668845, .int p668846, .int p668847, .int p668848, .int p668849, .ref qo668850, .int p668851, .int p668852, .int p668853, .ref qo668854, .ref qo668855, .int p668856]) := (n669336 q668841 (fun h => hq669333 (h ▸ hm669310))).trans he669317
        have he669338 : F669332 q668842 = .inl (I .byte, 8192, .inl f668857) := (n669336 q668842 (fun h => hq669333 (h ▸ hm669311))).trans he669318
        have he669339 : F669332 q669291 = .inr (0, [.ref q669292, .int 0, .int 0, .int 0]) := (n669336 q669291 (fun h => hq669333 (h ▸ hm669306))).trans he669302
        have he669340 : F669332 q669292 = .inl (I .byte, n669293, .inl f669294) := (n669336 q669292 (fun h => hq669333 (h ▸ hm669308))).trans he669305
        have he669341 : F669332 q669330 = .inr (1, [.null, .int 0, .int 0, .int 0]) := e669335
        have hm669342 : q668841 ∈ P669331 := (hP669334 q668841).mpr (Or.inl hm669310)
        have hm669343 : q668842 ∈ P669331 := (hP669334 q668842).mpr (Or.inl hm669311)
        have hm669344 : q669291 ∈ P669331 := (hP669334 q669291).mpr (Or.inl hm669306)
        have hm669345 : q669292 ∈ P669331 := (hP669334 q669292).mpr (Or.inl hm669308)
        have hm669346 : q669330 ∈ P669331 := (hP669334 q669330).mpr (Or.inr rfl)
        have hq669347 : q669330 ∉ P668839 := fun z => hq669333 (hsb669316 q669330 z)
        have hfr669348 : rFr [] P668839 F668840 F669332 := rFr_new hsb669316 hq669333 hfr669319 n669336
        have hsb669349 : rSub P668839 P669331 := rSub_new hsb669316 hP669334
        refine G_dup dr_cX14_symbol_89 rfl ?_
        refine Gw_callI (As := []) (gV_ok D I) (cp_659115_StringBuilder_init l hl0 D I P669331 F669332 q669330 0 0 hm669346 he669341 (gB_w (gBl (show Int32.toInt 0 = 0 by decide)) (by decide) (by decide)) (gB_w (gBl (show Int32.toInt 0 = 0 by decide)) (by decide) (by decide))) dr_cX14_symbol_90 ⟨wr_7_236, wr_1_20, wr_7_47, by decide, rfl, (Nat.le_of_ble_eq_true rfl), (Nat.le_of_ble_eq_true rfl)⟩ wr_7_46 rfl (Nat.le_trans (show 5 + 1 ≤ 16 by decide) hMC) (show 20 + (o669274.toInt.toNat + 4) + 0 + 4 + 16 ≤ ((160 * (p668844.toInt - p668845.toInt)).toNat) by first | omega | decide) (Nat.le_of_ble_eq_true rfl) (fun r669353 w669354 dc669350 ds669351 hp669352 => ?_)
        obtain ⟨P669356, F669357, q669355, rfl, rfl, hsb669358, hfr669359, he669360, he669361, hm669362, hq669363, hdc, hds⟩ := hp669352
        have hm669364 : q668841 ∈ P669356 := hsb669358 q668841 hm669342
        have hm669365 : q668842 ∈ P669356 := hsb669358 q668842 hm669343
        have hm669366 : q669291 ∈ P669356 := hsb669358 q669291 hm669344
        have hm669367 : q669292 ∈ P669356 := hsb669358 q669292 hm669345
        have hm669368 : q669330 ∈ P669356 := hsb669358 q669330 hm669346
        have hq669369 : q669355 ∉ P668839 := fun z => hq669363 (hsb669349 q669355 z)
        have hsb669370 : rSub P668839 P669356 := rSub_tr hsb669349 hsb669358
        have he669371 : F669357 q668841 = .inr (19, [.ref q668842, .int p668844, .int p668845, .int p668846, .int p668847, .int p668848, .int p668849, .ref qo668850, .int p668851, .int p668852, .int p668853, .ref qo668854, .ref qo668855, .int p668856]) := (hfr669359 q668841 hm669342 (nm_c (fun h => hq669347 (h ▸ hmq668841)) nm_n)).trans he669337
        have he669372 : F669357 q668842 = .inl (I .byte, 8192, .inl f668857) := (hfr669359 q668842 hm669343 (nm_c (fun h => hq669347 (h ▸ hmq668842)) nm_n)).trans he669338
        have he669373 : F669357 q669291 = .inr (0, [.ref q669292, .int 0, .int 0, .int 0]) := (hfr669359 q669291 hm669344 (nm_c (rn_oo he669339 he669341 (by decide)) nm_n)).trans he669339
        have he669374 : F669357 q669292 = .inl (I .byte, n669293, .inl f669294) := (hfr669359 q669292 hm669345 (nm_c (rn_ao he669340 he669341) nm_n)).trans he669340
        have hfr669375 : rFr [] P668839 F668840 F669357 := rFr_call hsb669349 hfr669348 hfr669359 (fun b hb hn => ⟨nm_n, (nm_c (fun e => hq669347 (e ▸ hb)) nm_n)⟩)
        have hne669376 : q669292 ≠ q669355 := fun h => hq669363 (h ▸ hm669345)
        change G _ _ _ _ _ _ _ _ _ _ _
        refine G_widen (cs' := 6) (sl' := 20 + (o669274.toInt.toNat + 4) + 0 + 4 + 16) (Nat.add_le_add_left hdc 5) (by omega) ?_
        refine G_ldcK (a := D.2 1000 35) dr_cX14_symbol_93 (fun _ _ _ h => gx_vk 35 rfl rfl h) ?_
        have hl35_669376 : (sb_35.length : Int) = 1 := rfl
        refine Gw_callV (As := [.ref (D.2 1000 35)]) (gV_ok D I) (cp_659417_StringBuilder_append l hl0 D I P669356 F669357 q669330 q669355 (D.2 1000 35) (D.2 1001 35) sb_35 0 0 (fun _ => 0) 16 hm669368 hm669362 he669360 he669361 (gx_sc 35 rfl rfl) (by omega) (by decide +kernel) (gB_w (gBl (show Int32.toInt 0 = 0 by decide)) (by decide) (by decide)) (gB_w (gBl (show Int32.toInt 0 = 0 by decide)) (by decide) (by decide)) (gF_w gF_0 (by decide) (by decide)) (by have qa0 : Int32.toInt 0 = 0 := (by decide); omega) (by have qa0 : Int32.toInt 0 = 0 := (by decide); omega)) dr_cX14_symbol_95 ⟨wr_8_195, wr_1_20, wr_8_143, by decide, rfl, (Nat.le_of_ble_eq_true rfl), (Nat.le_of_ble_eq_true rfl)⟩ wr_8_141 wr_8_142 hm669368 he669360 rfl (Nat.le_trans (show 6 + 0 ≤ 16 by decide) hMC) (show 20 + (o669274.toInt.toNat + 4) + 0 + 4 + 16 + 0 ≤ ((160 * (p668844.toInt - p668845.toInt)).toNat) by first | omega | decide) (Nat.le_of_ble_eq_true rfl) (fun r669381 w669382 dc669378 ds669379 hp669380 => ?_) (fun _ _ _ _ _ z => z.elim)
        obtain ⟨F669389, o669383, f669384, rfl, rfl, hfr669391, he669392, he669393, hdc, hds, bo669383, bf669384, x669385, x669386, x669387, ht669388⟩ := hp669380
        have he669394 : F669389 q668841 = .inr (19, [.ref q668842, .int p668844, .int p668845, .int p668846, .int p668847, .int p668848, .int p668849, .ref qo668850, .int p668851, .int p668852, .int p668853, .ref qo668854, .ref qo668855, .int p668856]) := (hfr669391 q668841 hm669364 (nm_c (fun h => hq669347 (h ▸ hmq668841)) (nm_c (fun h => hq669369 (h ▸ hmq668841)) nm_n))).trans he669371
        have he669395 : F669389 q668842 = .inl (I .byte, 8192, .inl f668857) := (hfr669391 q668842 hm669365 (nm_c (fun h => hq669347 (h ▸ hmq668842)) (nm_c (fun h => hq669369 (h ▸ hmq668842)) nm_n))).trans he669372
        have he669396 : F669389 q669291 = .inr (0, [.ref q669292, .int 0, .int 0, .int 0]) := (hfr669391 q669291 hm669366 (nm_c (rn_oo he669373 he669360 (by decide)) (nm_c (rn_oa he669373 he669361) nm_n))).trans he669373
        have he669397 : F669389 q669292 = .inl (I .byte, n669293, .inl f669294) := (hfr669391 q669292 hm669367 (nm_c (rn_ao he669374 he669360) (nm_c hne669376 nm_n))).trans he669374
        have hfr669398 : rFr [] P668839 F668840 F669389 := rFr_call hsb669370 hfr669375 hfr669391 (fun b hb hn => ⟨nm_n, (nm_c (fun e => hq669347 (e ▸ hb)) (nm_c (fun e => hq669369 (e ▸ hb)) nm_n))⟩)
        rw [show Int32.toInt 0 = 0 from by decide] at x669385
        have bo669383' : gB o669383 1 1 := ⟨by omega, by omega⟩
        rw [show Int32.toInt 0 = 0 from by decide] at x669386
        rw [show Int32.toInt 0 = 0 from by decide] at x669387
        change G _ _ _ _ _ _ _ (.ref q669330 :: _) _ _ _
        refine G_widen (cs' := 6) (sl' := 20 + (o669274.toInt.toNat + 4) + 0 + 4 + 16 + 0) (Nat.add_le_add_left hdc 6) (by omega) ?_
        refine G_aload_n 0 dr_cX14_symbol_98 rfl ?_
        refine Gw_callV (As := [.ref q669291]) (gV_ok D I) (cp_659189_StringBuilder_append l hl0 D I P669356 F669389 q669330 q669291 q669355 q669292 0 o669383 0 0 f669384 16 f669294 n669293 hm669368 hm669366 hm669362 hm669367 he669392 he669396 he669393 he669397 (Ne.symm hne669376) (gB_w (gBl (show Int32.toInt 0 = 0 by decide)) (by decide) (by decide)) (gB_w bo669383' (by decide) (by decide)) (gB_w (gBl (show Int32.toInt 0 = 0 by decide)) (by decide) (by decide)) bf669384 bf669294 (by have qa0 : Int32.toInt 0 = 0 := (by decide); omega) (by have qa0 : Int32.toInt 0 = 0 := (by decide); omega) (by have qa0 : Int32.toInt 0 = 0 := (by decide); omega)) dr_cX14_symbol_99 ⟨wr_8_195, wr_1_20, wr_8_143, by decide, rfl, (Nat.le_of_ble_eq_true rfl), (Nat.le_of_ble_eq_true rfl)⟩ wr_8_141 wr_8_142 hm669368 he669392 rfl (Nat.le_trans (show 6 + 0 ≤ 16 by decide) hMC) (show 20 + (o669274.toInt.toNat + 4) + 0 + 4 + 16 + 0 + 0 ≤ ((160 * (p668844.toInt - p668845.toInt)).toNat) by first | omega | decide) (Nat.le_of_ble_eq_true rfl) (fun r669402 w669403 dc669399 ds669400 hp669401 => ?_) (fun _ _ _ _ _ z => z.elim)
        obtain ⟨F669410, o669404, f669405, rfl, rfl, hfr669412, he669413, he669414, he669415, he669416, hdc, hds, bo669404, bf669405, x669406, x669407, x669408, ht669409⟩ := hp669401
        have he669417 : F669410 q668841 = .inr (19, [.ref q668842, .int p668844, .int p668845, .int p668846, .int p668847, .int p668848, .int p668849, .ref qo668850, .int p668851, .int p668852, .int p668853, .ref qo668854, .ref qo668855, .int p668856]) := (hfr669412 q668841 hm669364 (nm_c (fun h => hq669347 (h ▸ hmq668841)) (nm_c (fun h => hq669369 (h ▸ hmq668841)) nm_n))).trans he669394
        have he669418 : F669410 q668842 = .inl (I .byte, 8192, .inl f668857) := (hfr669412 q668842 hm669365 (nm_c (fun h => hq669347 (h ▸ hmq668842)) (nm_c (fun h => hq669369 (h ▸ hmq668842)) nm_n))).trans he669395
        have hfr669419 : rFr [] P668839 F668840 F669410 := rFr_call hsb669370 hfr669398 hfr669412 (fun b hb hn => ⟨nm_n, (nm_c (fun e => hq669347 (e ▸ hb)) (nm_c (fun e => hq669369 (e ▸ hb)) nm_n))⟩)
        have bo669404' : gB o669404 3 3 := ⟨by omega, by omega⟩
        change G _ _ _ _ _ _ _ (.ref q669330 :: _) _ _ _
        refine G_widen (cs' := 6) (sl' := 20 + (o669274.toInt.toNat + 4) + 0 + 4 + 16 + 0 + 0) (Nat.add_le_add_left hdc 6) (by omega) ?_
        refine G_ldcK (a := D.2 1000 35) dr_cX14_symbol_102 (fun _ _ _ h => gx_vk 35 rfl rfl h) ?_
        have hl35_669419 : (sb_35.length : Int) = 1 := rfl
        refine Gw_callV (As := [.ref (D.2 1000 35)]) (gV_ok D I) (cp_659417_StringBuilder_append l hl0 D I P669356 F669410 q669330 q669355 (D.2 1000 35) (D.2 1001 35) sb_35 0 o669404 f669405 16 hm669368 hm669362 he669413 he669415 (gx_sc 35 rfl rfl) (by omega) (by decide +kernel) (gB_w (gBl (show Int32.toInt 0 = 0 by decide)) (by decide) (by decide)) (gB_w bo669404' (by decide) (by decide)) bf669405 (by have qa0 : Int32.toInt 0 = 0 := (by decide); omega) (by have qa0 : Int32.toInt 0 = 0 := (by decide); omega)) dr_cX14_symbol_104 ⟨wr_8_195, wr_1_20, wr_8_143, by decide, rfl, (Nat.le_of_ble_eq_true rfl), (Nat.le_of_ble_eq_true rfl)⟩ wr_8_141 wr_8_142 hm669368 he669413 rfl (Nat.le_trans (show 6 + 0 ≤ 16 by decide) hMC) (show 20 + (o669274.toInt.toNat + 4) + 0 + 4 + 16 + 0 + 0 + 0 ≤ ((160 * (p668844.toInt - p668845.toInt)).toNat) by first | omega | decide) (Nat.le_of_ble_eq_true rfl) (fun r669424 w669425 dc669421 ds669422 hp669423 => ?_) (fun _ _ _ _ _ z => z.elim)
        obtain ⟨F669432, o669426, f669427, rfl, rfl, hfr669434, he669435, he669436, hdc, hds, bo669426, bf669427, x669428, x669429, x669430, ht669431⟩ := hp669423
        have he669437 : F669432 q668841 = .inr (19, [.ref q668842, .int p668844, .int p668845, .int p668846, .int p668847, .int p668848, .int p668849, .ref qo668850, .int p668851, .int p668852, .int p668853, .ref qo668854, .ref qo668855, .int p668856]) := (hfr669434 q668841 hm669364 (nm_c (fun h => hq669347 (h ▸ hmq668841)) (nm_c (fun h => hq669369 (h ▸ hmq668841)) nm_n))).trans he669417
        have he669438 : F669432 q668842 = .inl (I .byte, 8192, .inl f668857) := (hfr669434 q668842 hm669365 (nm_c (fun h => hq669347 (h ▸ hmq668842)) (nm_c (fun h => hq669369 (h ▸ hmq668842)) nm_n))).trans he669418
        have he669439 : F669432 q669291 = .inr (0, [.ref q669292, .int 0, .int 0, .int 0]) := (hfr669434 q669291 hm669366 (nm_c (rn_oo he669414 he669413 (by decide)) (nm_c (rn_oa he669414 he669415) nm_n))).trans he669414
        have he669440 : F669432 q669292 = .inl (I .byte, n669293, .inl f669294) := (hfr669434 q669292 hm669367 (nm_c (rn_ao he669416 he669413) (nm_c hne669376 nm_n))).trans he669416
        have hfr669441 : rFr [] P668839 F668840 F669432 := rFr_call hsb669370 hfr669419 hfr669434 (fun b hb hn => ⟨nm_n, (nm_c (fun e => hq669347 (e ▸ hb)) (nm_c (fun e => hq669369 (e ▸ hb)) nm_n))⟩)
        have bo669426' : gB o669426 4 4 := ⟨by omega, by omega⟩
        change G _ _ _ _ _ _ _ (.ref q669330 :: _) _ _ _
        refine G_widen (cs' := 6) (sl' := 20 + (o669274.toInt.toNat + 4) + 0 + 4 + 16 + 0 + 0 + 0) (Nat.add_le_add_left hdc 6) (by omega) ?_
        refine Gw_callV (As := []) (gV_ok D I) (cp_659890_StringBuilder_toString l hl0 D I P669356 F669432 q669330 q669355 0 o669426 f669427 16 hm669368 hm669362 he669435 he669436 (gB_w (gBl (show Int32.toInt 0 = 0 by decide)) (by decide) (by decide)) (gB_w bo669426' (by decide) (by decide)) bf669427 (by have qa0 : Int32.toInt 0 = 0 := (by decide); omega) (by have qa0 : Int32.toInt 0 = 0 := (by decide); omega)) dr_cX14_symbol_107 ⟨wr_8_66, wr_1_20, wr_8_69, by decide, rfl, (Nat.le_of_ble_eq_true rfl), (Nat.le_of_ble_eq_true rfl)⟩ wr_8_67 wr_8_68 hm669368 he669435 rfl (Nat.le_trans (show 6 + 2 ≤ 16 by decide) hMC) (show 20 + (o669274.toInt.toNat + 4) + 0 + 4 + 16 + 0 + 0 + 0 + (o669426.toInt.toNat + 4) ≤ ((160 * (p668844.toInt - p668845.toInt)).toNat) by first | omega | decide) (Nat.le_of_ble_eq_true rfl) (fun r669445 w669446 dc669442 ds669443 hp669444 => ?_) (fun _ _ _ _ _ z => z.elim)
        obtain ⟨P669454, F669455, q669447, q669448, n669449, f669450, rfl, rfl, hsb669456, hfr669457, he669458, he669459, he669460, he669461, hm669462, hq669463, hm669464, hq669465, hdc, hds, bf669450, x669451, x669452, ht669453⟩ := hp669444
        have hm669466 : q668841 ∈ P669454 := hsb669456 q668841 hm669364
        have hm669467 : q668842 ∈ P669454 := hsb669456 q668842 hm669365
        have hm669468 : q669291 ∈ P669454 := hsb669456 q669291 hm669366
        have hm669469 : q669292 ∈ P669454 := hsb669456 q669292 hm669367
        have hm669470 : q669330 ∈ P669454 := hsb669456 q669330 hm669368
        have hm669471 : q669355 ∈ P669454 := hsb669456 q669355 hm669362
        have hq669472 : q669447 ∉ P668839 := fun z => hq669463 (hsb669370 q669447 z)
        have hq669473 : q669448 ∉ P668839 := fun z => hq669465 (hsb669370 q669448 z)
        have hsb669474 : rSub P668839 P669454 := rSub_tr hsb669370 hsb669456
        have he669475 : F669455 q668841 = .inr (19, [.ref q668842, .int p668844, .int p668845, .int p668846, .int p668847, .int p668848, .int p668849, .ref qo668850, .int p668851, .int p668852, .int p668853, .ref qo668854, .ref qo668855, .int p668856]) := (hfr669457 q668841 hm669364 nm_n).trans he669437
        have he669476 : F669455 q668842 = .inl (I .byte, 8192, .inl f668857) := (hfr669457 q668842 hm669365 nm_n).trans he669438
        have he669477 : F669455 q669291 = .inr (0, [.ref q669292, .int 0, .int 0, .int 0]) := (hfr669457 q669291 hm669366 nm_n).trans he669439
        have he669478 : F669455 q669292 = .inl (I .byte, n669293, .inl f669294) := (hfr669457 q669292 hm669367 nm_n).trans he669440
        have hfr669479 : rFr [] P668839 F668840 F669455 := rFr_call hsb669370 hfr669441 hfr669457 (fun b hb hn => ⟨nm_n, nm_n⟩)
        have hne669480 : q669291 ≠ q669447 := fun h => hq669463 (h ▸ hm669366)
        have hne669481 : q669292 ≠ q669448 := fun h => hq669465 (h ▸ hm669367)
        have hne669482 : q669355 ≠ q669448 := fun h => hq669465 (h ▸ hm669362)
        change G _ _ _ _ _ _ _ (.ref q669447 :: _) _ _ _
        refine G_widen (cs' := 8) (sl' := 20 + (o669274.toInt.toNat + 4) + 0 + 4 + 16 + 0 + 0 + 0 + (o669426.toInt.toNat + 4)) (Nat.add_le_add_left hdc 6) (by omega) ?_
        refine Gw_callVk (As := [.ref q669447]) (gV_ok D I) (cp_660349_String_indexOf l hl0 D I P669454 F669455 q669447 q669448 (D.2 1000 36) (D.2 1001 36) sb_36 0 0 f669450 n669449 hm669462 hm669464 he669458 he669461 (gx_sc 36 rfl rfl) (by omega) (by decide +kernel) (gB_w (gBl (show Int32.toInt 0 = 0 by decide)) (by decide) (by decide)) bf669450 (by have qa0 : Int32.toInt 0 = 0 := (by decide); omega) (by have qa0 : Int32.toInt 0 = 0 := (by decide); omega)) dr_cX14_symbol_110 ⟨wr_8_196, wr_1_21, wr_8_199, by decide, rfl, (Nat.le_of_ble_eq_true rfl), (Nat.le_of_ble_eq_true rfl)⟩ wr_8_197 wr_8_198 (fun _ _ _ h => ((gx_sc 36 rfl rfl) _ _ _ h).1) (Nat.le_trans (show 8 + 0 ≤ 16 by decide) hMC) (show 20 + (o669274.toInt.toNat + 4) + 0 + 4 + 16 + 0 + 0 + 0 + (o669426.toInt.toNat + 4) + 0 ≤ ((160 * (p668844.toInt - p668845.toInt)).toNat) by first | omega | decide) (Nat.le_of_ble_eq_true rfl) (fun r669486 w669487 dc669483 ds669484 hp669485 => ?_) (fun _ _ _ _ _ z => z.elim)
        obtain ⟨o669488, rfl, rfl, hdc, hds, bo669488, x669489, x669490, ht669491⟩ := hp669485
        change G _ _ _ _ _ _ _ (.int o669488 :: _) _ _ _
        refine G_widen (cs' := 8) (sl' := 20 + (o669274.toInt.toNat + 4) + 0 + 4 + 16 + 0 + 0 + 0 + (o669426.toInt.toNat + 4) + 0) (Nat.add_le_add_left hdc 8) (by omega) ?_
        refine G_if_lt 120 dr_cX14_symbol_113 (by decide +kernel) (fun hc669492 => ?_) (fun hc669492 => ?_)
        · have r669493 : o669488.toInt < 0 := gj_lt hc669492 (show Int32.toInt 0 = 0 by decide)
          have bo669488' : gB o669488 (-2147483646) (-1) := ⟨by omega, by omega⟩
          refine G_iconst 0 dr_cX14_symbol_120 (by decide +kernel) ?_
          refine G_istore_n (L' := [(3, .int 0), (2, .ref q669291), (0, .ref q668841), (1, .int p668843)]) dr_cX14_symbol_121 (Nat.le_of_ble_eq_true rfl) rfl ?_
          clear he669302 he669305 hm669306 hm669308 hm669310 hm669311 hsb669316 he669317 he669318 hfr669319 he669337 he669338 he669339 he669340 he669341 hm669342 hm669343 hm669344 hm669345 hm669346 hq669347 hfr669348 hsb669349 hsb669358 hfr669359 he669360 he669361 hm669362 hq669363 hm669364 hm669365 hm669366 hm669367 hm669368 hq669369 hsb669370 he669371 he669372 he669373 he669374 hfr669375 hne669376 hfr669391 he669392 he669393 bf669384 he669394 he669395 he669396 he669397 hfr669398 hfr669412 he669413 he669414 he669415 he669416 bf669405 he669417 he669418 hfr669419 hfr669434 he669435 he669436 bf669427 he669437 he669438 he669439 he669440 hfr669441 hsb669456 hfr669457 he669458 he669459 he669460 he669461 hm669462 hq669463 hm669464 hq669465 bf669450 hm669470 hm669471 hq669472 hq669473 hne669480 hne669481 hne669482; try clear r669353; try clear w669354; try clear dc669350; try clear ds669351; try clear hp669352; try clear r669381; try clear w669382; try clear dc669378; try clear ds669379; try clear hp669380; try clear x669386; try clear x669387; try clear r669402; try clear w669403; try clear dc669399; try clear ds669400; try clear hp669401; try clear x669407; try clear x669408; try clear r669424; try clear w669425; try clear dc669421; try clear ds669422; try clear hp669423; try clear x669429; try clear x669430; try clear r669445; try clear w669446; try clear dc669442; try clear ds669443; try clear hp669444; try clear x669452; try clear r669486; try clear w669487; try clear dc669483; try clear ds669484; try clear hp669485; try clear x669490
          refine G_aload_n 2 dr_cX14_symbol_122 rfl ?_
          refine G_iload_n 0 dr_cX14_symbol_123 rfl ?_
          refine G_if_ne 143 dr_cX14_symbol_124 (by decide +kernel) (fun hc => absurd hc (by decide)) (fun _ => ?_)
          refine G_iload_n 3 dr_cX14_symbol_127 rfl ?_
          refine G_bipush 32 dr_cX14_symbol_128 (by decide +kernel) ?_
          refine G_icmp_le 147 dr_cX14_symbol_130 (by decide +kernel) (fun hc => absurd (show False by have := gj_le hc (show Int32.toInt 32 = 32 by decide); omega) not_false) (fun _ => ?_)
          refine G_ldcK (a := D.2 1000 37) dr_cX14_symbol_133 (fun _ _ _ h => gx_vk 37 rfl rfl h) ?_
          have hl37_669493 : (sb_37.length : Int) = 14 := rfl
          refine G_iload_n 3 dr_cX14_symbol_135 rfl ?_
          refine G_i2c dr_cX14_symbol_136 (G_nam fun z669495 hz669495 => ?_)
          have ez669495 : z669495.toInt = p668843.toInt := gI_i2c hz669495 (by omega) (by omega)
          have bz669495 : gB z669495 33 127 := ⟨by omega, by omega⟩
          refine Gw_callVk (As := [.int z669495]) (gV_ok D I) (cp_667424_String_indexOf l hl0 D I P669454 F669455 (D.2 1000 37) (D.2 1001 37) sb_37 z669495 (gx_sc 37 rfl rfl) (by omega) (by decide +kernel) (gB_w bz669495 (by decide) (by decide))) dr_cX14_symbol_137 ⟨wr_8_230, wr_1_21, wr_8_233, by decide, rfl, (Nat.le_of_ble_eq_true rfl), (Nat.le_of_ble_eq_true rfl)⟩ wr_8_231 wr_8_232 (fun _ _ _ h => ((gx_sc 37 rfl rfl) _ _ _ h).1) (Nat.le_trans (show 8 + 0 ≤ 16 by decide) hMC) (show 20 + (o669274.toInt.toNat + 4) + 0 + 4 + 16 + 0 + 0 + 0 + (o669426.toInt.toNat + 4) + 0 + 0 ≤ ((160 * (p668844.toInt - p668845.toInt)).toNat) by first | omega | decide) (Nat.le_of_ble_eq_true rfl) (fun r669499 w669500 dc669496 ds669497 hp669498 => ?_) (fun _ _ _ _ _ z => z.elim)
          obtain ⟨o669501, rfl, rfl, hdc, hds, bo669501, ht669502⟩ := hp669498
          change G _ _ _ _ _ _ _ (.int o669501 :: _) _ _ _
          refine G_widen (cs' := 8) (sl' := 20 + (o669274.toInt.toNat + 4) + 0 + 4 + 16 + 0 + 0 + 0 + (o669426.toInt.toNat + 4) + 0 + 0) (Nat.add_le_add_left hdc 8) (by omega) ?_
          refine G_if_lt 147 dr_cX14_symbol_140 (by decide +kernel) (fun hc669503 => ?_) (fun hc669503 => ?_)
          · have r669504 : o669501.toInt < 0 := gj_lt hc669503 (show Int32.toInt 0 = 0 by decide)
            have bo669501' : gB o669501 (-1) (-1) := ⟨by omega, by omega⟩
            refine G_bipush 6 dr_cX14_symbol_147 (by decide +kernel) ?_
            refine Gp_put 3 hm669466 he669475 dr_cX14_symbol_149 (gk_X14 D I) (Nat.le_of_ble_eq_true rfl) wr_9_39 rfl rfl rfl (Nat.le_of_ble_eq_true rfl) (fun F669505 e669506 n669507 => ?_)
            have he669508 : F669505 q668842 = .inl (I .byte, 8192, .inl f668857) := (n669507 q668842 (rn_ao he669476 he669475)).trans he669476
            have he669509 : F669505 q669291 = .inr (0, [.ref q669292, .int 0, .int 0, .int 0]) := (n669507 q669291 (fun h => hq669314 (h ▸ hmq668841))).trans he669477
            have he669510 : F669505 q669292 = .inl (I .byte, n669293, .inl f669294) := (n669507 q669292 (fun h => hq669315 (h ▸ hmq668841))).trans he669478
            have he669511 : F669505 q668841 = .inr (19, [.ref q668842, .int p668844, .int p668845, .int 6, .int p668847, .int p668848, .int p668849, .ref qo668850, .int p668851, .int p668852, .int p668853, .ref qo668854, .ref qo668855, .int p668856]) := e669506
            have hfr669512 : rFr [q668841] P668839 F668840 F669505 := rFr_put hfr669479 n669507
            clear he669475 he669476 he669477 he669478 hfr669479 ez669495 bz669495 bo669501'; try clear r669499; try clear w669500; try clear dc669496; try clear ds669497; try clear hp669498
            refine G_aload_n 2 dr_cX14_symbol_152 rfl ?_
            refine G_iload_n 0 dr_cX14_symbol_153 rfl ?_
            refine G_if_eq 161 dr_cX14_symbol_154 (by decide +kernel) (fun _ => ?_) (fun hc => absurd hc (by decide))
            refine G_iload_n 3 dr_cX14_symbol_161 rfl ?_
            refine G_bipush 32 dr_cX14_symbol_162 (by decide +kernel) ?_
            refine G_icmp_le 190 dr_cX14_symbol_164 (by decide +kernel) (fun hc => absurd (show False by have := gj_le hc (show Int32.toInt 32 = 32 by decide); omega) not_false) (fun _ => ?_)
            refine G_new [.null, .int 0, .int 0, .int 0] dr_cX14_symbol_167 (gk_J4 D I) wr_7_235 wr_7_44 wr_1_20 (gfs_J4) (Nat.le_trans (show 8 + 1 ≤ 16 by decide) hMC) (show 20 + (o669274.toInt.toNat + 4) + 0 + 4 + 16 + 0 + 0 + 0 + (o669426.toInt.toNat + 4) + 0 + 0 + 4 ≤ ((160 * (p668844.toInt - p668845.toInt)).toNat) by first | omega | decide) (fun q669513 => Gp_in (fun P669514 F669515 hq669516 hP669517 e669518 n669519 => ?_))
            refine G_widen (cs' := 9) (sl' := 20 + (o669274.toInt.toNat + 4) + 0 + 4 + 16 + 0 + 0 + 0 + (o669426.toInt.toNat + 4) + 0 + 0 + 4) (by omega) (by omega) ?_
            have he669520 : F669515 q668841 = .inr (19, [.ref q668842, .int p668844, .int p668845, .int 6, .int p668847, .int p668848, .int p668849, .ref qo668850, .int p668851, .int p668852, .int p668853, .ref qo668854, .ref qo668855, .int p668856]) := (n669519 q668841 (fun h => hq669516 (h ▸ hm669466))).trans he669511
            have he669521 : F669515 q668842 = .inl (I .byte, 8192, .inl f668857) := (n669519 q668842 (fun h => hq669516 (h ▸ hm669467))).trans he669508
            have he669522 : F669515 q669291 = .inr (0, [.ref q669292, .int 0, .int 0, .int 0]) := (n669519 q669291 (fun h => hq669516 (h ▸ hm669468))).trans he669509
            have he669523 : F669515 q669292 = .inl (I .byte, n669293, .inl f669294) := (n669519 q669292 (fun h => hq669516 (h ▸ hm669469))).trans he669510
            have he669524 : F669515 q669513 = .inr (1, [.null, .int 0, .int 0, .int 0]) := e669518
            have hm669525 : q668841 ∈ P669514 := (hP669517 q668841).mpr (Or.inl hm669466)
            have hm669526 : q668842 ∈ P669514 := (hP669517 q668842).mpr (Or.inl hm669467)
            have hm669527 : q669291 ∈ P669514 := (hP669517 q669291).mpr (Or.inl hm669468)
            have hm669528 : q669292 ∈ P669514 := (hP669517 q669292).mpr (Or.inl hm669469)
            have hm669529 : q669513 ∈ P669514 := (hP669517 q669513).mpr (Or.inr rfl)
            have hq669530 : q669513 ∉ P668839 := fun z => hq669516 (hsb669474 q669513 z)
            have hfr669531 : rFr [q668841] P668839 F668840 F669515 := rFr_new hsb669474 hq669516 hfr669512 n669519
            have hsb669532 : rSub P668839 P669514 := rSub_new hsb669474 hP669517
            refine G_dup dr_cX14_symbol_170 rfl ?_
            refine Gw_callI (As := []) (gV_ok D I) (cp_659115_StringBuilder_init l hl0 D I P669514 F669515 q669513 0 0 hm669529 he669524 (gB_w (gBl (show Int32.toInt 0 = 0 by decide)) (by decide) (by decide)) (gB_w (gBl (show Int32.toInt 0 = 0 by decide)) (by decide) (by decide))) dr_cX14_symbol_171 ⟨wr_7_236, wr_1_20, wr_7_47, by decide, rfl, (Nat.le_of_ble_eq_true rfl), (Nat.le_of_ble_eq_true rfl)⟩ wr_7_46 rfl (Nat.le_trans (show 9 + 1 ≤ 16 by decide) hMC) (show 20 + (o669274.toInt.toNat + 4) + 0 + 4 + 16 + 0 + 0 + 0 + (o669426.toInt.toNat + 4) + 0 + 0 + 4 + 16 ≤ ((160 * (p668844.toInt - p668845.toInt)).toNat) by first | omega | decide) (Nat.le_of_ble_eq_true rfl) (fun r669536 w669537 dc669533 ds669534 hp669535 => ?_)
            obtain ⟨P669539, F669540, q669538, rfl, rfl, hsb669541, hfr669542, he669543, he669544, hm669545, hq669546, hdc, hds⟩ := hp669535
            have hm669547 : q668841 ∈ P669539 := hsb669541 q668841 hm669525
            have hm669548 : q668842 ∈ P669539 := hsb669541 q668842 hm669526
            have hm669549 : q669291 ∈ P669539 := hsb669541 q669291 hm669527
            have hm669550 : q669292 ∈ P669539 := hsb669541 q669292 hm669528
            have hm669551 : q669513 ∈ P669539 := hsb669541 q669513 hm669529
            have hq669552 : q669538 ∉ P668839 := fun z => hq669546 (hsb669532 q669538 z)
            have hsb669553 : rSub P668839 P669539 := rSub_tr hsb669532 hsb669541
            have he669554 : F669540 q668841 = .inr (19, [.ref q668842, .int p668844, .int p668845, .int 6, .int p668847, .int p668848, .int p668849, .ref qo668850, .int p668851, .int p668852, .int p668853, .ref qo668854, .ref qo668855, .int p668856]) := (hfr669542 q668841 hm669525 (nm_c (fun h => hq669530 (h ▸ hmq668841)) nm_n)).trans he669520
            have he669555 : F669540 q668842 = .inl (I .byte, 8192, .inl f668857) := (hfr669542 q668842 hm669526 (nm_c (fun h => hq669530 (h ▸ hmq668842)) nm_n)).trans he669521
            have he669556 : F669540 q669291 = .inr (0, [.ref q669292, .int 0, .int 0, .int 0]) := (hfr669542 q669291 hm669527 (nm_c (rn_oo he669522 he669524 (by decide)) nm_n)).trans he669522
            have he669557 : F669540 q669292 = .inl (I .byte, n669293, .inl f669294) := (hfr669542 q669292 hm669528 (nm_c (rn_ao he669523 he669524) nm_n)).trans he669523
            have hfr669558 : rFr [q668841] P668839 F668840 F669540 := rFr_call hsb669532 hfr669531 hfr669542 (fun b hb hn => ⟨(nm_c (fun e => hn (e ▸ List.mem_cons_self)) nm_n), (nm_c (fun e => hq669530 (e ▸ hb)) nm_n)⟩)
            have hne669559 : q669292 ≠ q669538 := fun h => hq669546 (h ▸ hm669528)
            change G _ _ _ _ _ _ _ _ _ _ _
            refine G_widen (cs' := 10) (sl' := 20 + (o669274.toInt.toNat + 4) + 0 + 4 + 16 + 0 + 0 + 0 + (o669426.toInt.toNat + 4) + 0 + 0 + 4 + 16) (Nat.add_le_add_left hdc 9) (by omega) ?_
            refine G_ldcK (a := D.2 1000 32) dr_cX14_symbol_174 (fun _ _ _ h => gx_vk 32 rfl rfl h) ?_
            have hl32_669559 : (sb_32.length : Int) = 0 := rfl
            refine Gw_callV (As := [.ref (D.2 1000 32)]) (gV_ok D I) (cp_659417_StringBuilder_append l hl0 D I P669539 F669540 q669513 q669538 (D.2 1000 32) (D.2 1001 32) sb_32 0 0 (fun _ => 0) 16 hm669551 hm669545 he669543 he669544 (gx_sc 32 rfl rfl) (by omega) (by decide +kernel) (gB_w (gBl (show Int32.toInt 0 = 0 by decide)) (by decide) (by decide)) (gB_w (gBl (show Int32.toInt 0 = 0 by decide)) (by decide) (by decide)) (gF_w gF_0 (by decide) (by decide)) (by have qa0 : Int32.toInt 0 = 0 := (by decide); have qa1 : Int32.toInt 6 = 6 := (by decide); omega) (by have qa0 : Int32.toInt 0 = 0 := (by decide); have qa1 : Int32.toInt 6 = 6 := (by decide); omega)) dr_cX14_symbol_176 ⟨wr_8_195, wr_1_20, wr_8_143, by decide, rfl, (Nat.le_of_ble_eq_true rfl), (Nat.le_of_ble_eq_true rfl)⟩ wr_8_141 wr_8_142 hm669551 he669543 rfl (Nat.le_trans (show 10 + 0 ≤ 16 by decide) hMC) (show 20 + (o669274.toInt.toNat + 4) + 0 + 4 + 16 + 0 + 0 + 0 + (o669426.toInt.toNat + 4) + 0 + 0 + 4 + 16 + 0 ≤ ((160 * (p668844.toInt - p668845.toInt)).toNat) by first | omega | decide) (Nat.le_of_ble_eq_true rfl) (fun r669564 w669565 dc669561 ds669562 hp669563 => ?_) (fun _ _ _ _ _ z => z.elim)
            obtain ⟨F669572, o669566, f669567, rfl, rfl, hfr669574, he669575, he669576, hdc, hds, bo669566, bf669567, x669568, x669569, x669570, ht669571⟩ := hp669563
            have he669577 : F669572 q668841 = .inr (19, [.ref q668842, .int p668844, .int p668845, .int 6, .int p668847, .int p668848, .int p668849, .ref qo668850, .int p668851, .int p668852, .int p668853, .ref qo668854, .ref qo668855, .int p668856]) := (hfr669574 q668841 hm669547 (nm_c (fun h => hq669530 (h ▸ hmq668841)) (nm_c (fun h => hq669552 (h ▸ hmq668841)) nm_n))).trans he669554
            have he669578 : F669572 q668842 = .inl (I .byte, 8192, .inl f668857) := (hfr669574 q668842 hm669548 (nm_c (fun h => hq669530 (h ▸ hmq668842)) (nm_c (fun h => hq669552 (h ▸ hmq668842)) nm_n))).trans he669555
            have he669579 : F669572 q669291 = .inr (0, [.ref q669292, .int 0, .int 0, .int 0]) := (hfr669574 q669291 hm669549 (nm_c (rn_oo he669556 he669543 (by decide)) (nm_c (rn_oa he669556 he669544) nm_n))).trans he669556
            have he669580 : F669572 q669292 = .inl (I .byte, n669293, .inl f669294) := (hfr669574 q669292 hm669550 (nm_c (rn_ao he669557 he669543) (nm_c hne669559 nm_n))).trans he669557
            have hfr669581 : rFr [q668841] P668839 F668840 F669572 := rFr_call hsb669553 hfr669558 hfr669574 (fun b hb hn => ⟨(nm_c (fun e => hn (e ▸ List.mem_cons_self)) nm_n), (nm_c (fun e => hq669530 (e ▸ hb)) (nm_c (fun e => hq669552 (e ▸ hb)) nm_n))⟩)
            rw [show Int32.toInt 0 = 0 from by decide] at x669568
            have bo669566' : gB o669566 0 0 := ⟨by omega, by omega⟩
            rw [show Int32.toInt 0 = 0 from by decide] at x669569
            rw [show Int32.toInt 0 = 0 from by decide] at x669570
            change G _ _ _ _ _ _ _ (.ref q669513 :: _) _ _ _
            refine G_widen (cs' := 10) (sl' := 20 + (o669274.toInt.toNat + 4) + 0 + 4 + 16 + 0 + 0 + 0 + (o669426.toInt.toNat + 4) + 0 + 0 + 4 + 16 + 0) (Nat.add_le_add_left hdc 10) (by omega) ?_
            refine G_iload_n 3 dr_cX14_symbol_179 rfl ?_
            refine G_i2c dr_cX14_symbol_180 (G_nam fun z669582 hz669582 => ?_)
            have ez669582 : z669582.toInt = p668843.toInt := gI_i2c hz669582 (by omega) (by omega)
            have bz669582 : gB z669582 33 127 := ⟨by omega, by omega⟩
            refine Gw_callV (As := [.int z669582]) (gV_ok D I) (cp_658676_StringBuilder_append l hl0 D I P669539 F669572 q669513 q669538 z669582 0 o669566 f669567 16 hm669551 hm669545 he669575 he669576 (gB_w bz669582 (by decide) (by decide)) (gB_w (gBl (show Int32.toInt 0 = 0 by decide)) (by decide) (by decide)) (gB_w bo669566' (by decide) (by decide)) bf669567 (by have qa0 : Int32.toInt 0 = 0 := (by decide); have qa1 : Int32.toInt 6 = 6 := (by decide); omega) (by have qa0 : Int32.toInt 0 = 0 := (by decide); have qa1 : Int32.toInt 6 = 6 := (by decide); omega)) dr_cX14_symbol_181 ⟨wr_7_237, wr_1_20, wr_8_0, by decide, rfl, (Nat.le_of_ble_eq_true rfl), (Nat.le_of_ble_eq_true rfl)⟩ wr_7_238 wr_7_239 hm669551 he669575 rfl (Nat.le_trans (show 10 + 0 ≤ 16 by decide) hMC) (show 20 + (o669274.toInt.toNat + 4) + 0 + 4 + 16 + 0 + 0 + 0 + (o669426.toInt.toNat + 4) + 0 + 0 + 4 + 16 + 0 + 0 ≤ ((160 * (p668844.toInt - p668845.toInt)).toNat) by first | omega | decide) (Nat.le_of_ble_eq_true rfl) (fun r669586 w669587 dc669583 ds669584 hp669585 => ?_) (fun _ _ _ _ _ z => z.elim)
            obtain ⟨F669592, o669588, f669589, rfl, rfl, hfr669594, he669595, he669596, hdc, hds, bo669588, bf669589, x669590, ht669591⟩ := hp669585
            have he669597 : F669592 q668841 = .inr (19, [.ref q668842, .int p668844, .int p668845, .int 6, .int p668847, .int p668848, .int p668849, .ref qo668850, .int p668851, .int p668852, .int p668853, .ref qo668854, .ref qo668855, .int p668856]) := (hfr669594 q668841 hm669547 (nm_c (fun h => hq669552 (h ▸ hmq668841)) (nm_c (fun h => hq669530 (h ▸ hmq668841)) nm_n))).trans he669577
            have he669598 : F669592 q668842 = .inl (I .byte, 8192, .inl f668857) := (hfr669594 q668842 hm669548 (nm_c (fun h => hq669552 (h ▸ hmq668842)) (nm_c (fun h => hq669530 (h ▸ hmq668842)) nm_n))).trans he669578
            have he669599 : F669592 q669291 = .inr (0, [.ref q669292, .int 0, .int 0, .int 0]) := (hfr669594 q669291 hm669549 (nm_c (rn_oa he669579 he669576) (nm_c (rn_oo he669579 he669575 (by decide)) nm_n))).trans he669579
            have he669600 : F669592 q669292 = .inl (I .byte, n669293, .inl f669294) := (hfr669594 q669292 hm669550 (nm_c hne669559 (nm_c (rn_ao he669580 he669575) nm_n))).trans he669580
            have hfr669601 : rFr [q668841] P668839 F668840 F669592 := rFr_call hsb669553 hfr669581 hfr669594 (fun b hb hn => ⟨(nm_c (fun e => hn (e ▸ List.mem_cons_self)) nm_n), (nm_c (fun e => hq669552 (e ▸ hb)) (nm_c (fun e => hq669530 (e ▸ hb)) nm_n))⟩)
            have bo669588' : gB o669588 1 1 := ⟨by omega, by omega⟩
            change G _ _ _ _ _ _ _ (.ref q669513 :: _) _ _ _
            refine G_widen (cs' := 10) (sl' := 20 + (o669274.toInt.toNat + 4) + 0 + 4 + 16 + 0 + 0 + 0 + (o669426.toInt.toNat + 4) + 0 + 0 + 4 + 16 + 0 + 0) (Nat.add_le_add_left hdc 10) (by omega) ?_
            refine Gw_callV (As := []) (gV_ok D I) (cp_659890_StringBuilder_toString l hl0 D I P669539 F669592 q669513 q669538 0 o669588 f669589 16 hm669551 hm669545 he669595 he669596 (gB_w (gBl (show Int32.toInt 0 = 0 by decide)) (by decide) (by decide)) (gB_w bo669588' (by decide) (by decide)) bf669589 (by have qa0 : Int32.toInt 0 = 0 := (by decide); have qa1 : Int32.toInt 6 = 6 := (by decide); omega) (by have qa0 : Int32.toInt 0 = 0 := (by decide); have qa1 : Int32.toInt 6 = 6 := (by decide); omega)) dr_cX14_symbol_184 ⟨wr_8_66, wr_1_20, wr_8_69, by decide, rfl, (Nat.le_of_ble_eq_true rfl), (Nat.le_of_ble_eq_true rfl)⟩ wr_8_67 wr_8_68 hm669551 he669595 rfl (Nat.le_trans (show 10 + 2 ≤ 16 by decide) hMC) (show 20 + (o669274.toInt.toNat + 4) + 0 + 4 + 16 + 0 + 0 + 0 + (o669426.toInt.toNat + 4) + 0 + 0 + 4 + 16 + 0 + 0 + (o669588.toInt.toNat + 4) ≤ ((160 * (p668844.toInt - p668845.toInt)).toNat) by first | omega | decide) (Nat.le_of_ble_eq_true rfl) (fun r669605 w669606 dc669602 ds669603 hp669604 => ?_) (fun _ _ _ _ _ z => z.elim)
            obtain ⟨P669614, F669615, q669607, q669608, n669609, f669610, rfl, rfl, hsb669616, hfr669617, he669618, he669619, he669620, he669621, hm669622, hq669623, hm669624, hq669625, hdc, hds, bf669610, x669611, x669612, ht669613⟩ := hp669604
            have hm669626 : q668841 ∈ P669614 := hsb669616 q668841 hm669547
            have hm669627 : q668842 ∈ P669614 := hsb669616 q668842 hm669548
            have hm669628 : q669291 ∈ P669614 := hsb669616 q669291 hm669549
            have hm669629 : q669292 ∈ P669614 := hsb669616 q669292 hm669550
            have hm669630 : q669513 ∈ P669614 := hsb669616 q669513 hm669551
            have hm669631 : q669538 ∈ P669614 := hsb669616 q669538 hm669545
            have hq669632 : q669607 ∉ P668839 := fun z => hq669623 (hsb669553 q669607 z)
            have hq669633 : q669608 ∉ P668839 := fun z => hq669625 (hsb669553 q669608 z)
            have hsb669634 : rSub P668839 P669614 := rSub_tr hsb669553 hsb669616
            have he669635 : F669615 q668841 = .inr (19, [.ref q668842, .int p668844, .int p668845, .int 6, .int p668847, .int p668848, .int p668849, .ref qo668850, .int p668851, .int p668852, .int p668853, .ref qo668854, .ref qo668855, .int p668856]) := (hfr669617 q668841 hm669547 nm_n).trans he669597
            have he669636 : F669615 q668842 = .inl (I .byte, 8192, .inl f668857) := (hfr669617 q668842 hm669548 nm_n).trans he669598
            have he669637 : F669615 q669291 = .inr (0, [.ref q669292, .int 0, .int 0, .int 0]) := (hfr669617 q669291 hm669549 nm_n).trans he669599
            have he669638 : F669615 q669292 = .inl (I .byte, n669293, .inl f669294) := (hfr669617 q669292 hm669550 nm_n).trans he669600
            have hfr669639 : rFr [q668841] P668839 F668840 F669615 := rFr_call hsb669553 hfr669601 hfr669617 (fun b hb hn => ⟨(nm_c (fun e => hn (e ▸ List.mem_cons_self)) nm_n), nm_n⟩)
            have hne669640 : q669291 ≠ q669607 := fun h => hq669623 (h ▸ hm669549)
            have hne669641 : q669292 ≠ q669608 := fun h => hq669625 (h ▸ hm669550)
            have hne669642 : q669538 ≠ q669608 := fun h => hq669625 (h ▸ hm669545)
            change G _ _ _ _ _ _ _ (.ref q669607 :: _) _ _ _
            refine G_widen (cs' := 12) (sl' := 20 + (o669274.toInt.toNat + 4) + 0 + 4 + 16 + 0 + 0 + 0 + (o669426.toInt.toNat + 4) + 0 + 0 + 4 + 16 + 0 + 0 + (o669588.toInt.toNat + 4)) (Nat.add_le_add_left hdc 10) (by omega) ?_
            refine G_goto 192 dr_cX14_symbol_187 (by decide +kernel) ?_
            refine Gp_put 7 hm669626 he669635 dr_cX14_symbol_192 (gk_X14 D I) (Nat.le_of_ble_eq_true rfl) wr_9_43 rfl rfl rfl (Nat.le_of_ble_eq_true rfl) (fun F669643 e669644 n669645 => ?_)
            have he669646 : F669643 q668842 = .inl (I .byte, 8192, .inl f668857) := (n669645 q668842 (rn_ao he669636 he669635)).trans he669636
            have he669647 : F669643 q669291 = .inr (0, [.ref q669292, .int 0, .int 0, .int 0]) := (n669645 q669291 (fun h => hq669314 (h ▸ hmq668841))).trans he669637
            have he669648 : F669643 q669292 = .inl (I .byte, n669293, .inl f669294) := (n669645 q669292 (fun h => hq669315 (h ▸ hmq668841))).trans he669638
            have he669649 : F669643 q669607 = .inr (0, [.ref q669608, .int 0, .int 0, .int 0]) := (n669645 q669607 (fun h => hq669632 (h ▸ hmq668841))).trans he669618
            have he669650 : F669643 q669513 = .inr (1, [.ref q669538, .int 0, .int 0, .int o669588]) := (n669645 q669513 (fun h => hq669530 (h ▸ hmq668841))).trans he669619
            have he669651 : F669643 q669538 = .inl (I .byte, 16, .inl f669589) := (n669645 q669538 (fun h => hq669552 (h ▸ hmq668841))).trans he669620
            have he669652 : F669643 q669608 = .inl (I .byte, n669609, .inl f669610) := (n669645 q669608 (fun h => hq669633 (h ▸ hmq668841))).trans he669621
            have he669653 : F669643 q668841 = .inr (19, [.ref q668842, .int p668844, .int p668845, .int 6, .int p668847, .int p668848, .int p668849, .ref q669607, .int p668851, .int p668852, .int p668853, .ref qo668854, .ref qo668855, .int p668856]) := e669644
            have hfr669654 : rFr [q668841] P668839 F668840 F669643 := rFr_put' List.mem_cons_self hfr669639 n669645
            clear hm669466 hm669467 hm669468 hm669469 hsb669474 he669508 he669509 he669510 he669511 hfr669512 he669520 he669521 he669522 he669523 he669524 hm669525 hm669526 hm669527 hm669528 hm669529 hq669530 hfr669531 hsb669532 hsb669541 hfr669542 he669543 he669544 hm669545 hq669546 hm669547 hm669548 hm669549 hm669550 hm669551 hq669552 hsb669553 he669554 he669555 he669556 he669557 hfr669558 hne669559 hfr669574 he669575 he669576 bf669567 he669577 he669578 he669579 he669580 hfr669581 ez669582 bz669582 hfr669594 he669595 he669596 bf669589 he669597 he669598 he669599 he669600 hfr669601 hsb669616 hfr669617 he669618 he669619 he669620 he669621 hq669623 hq669625 hm669630 hm669631 he669635 he669636 he669637 he669638 hfr669639 hne669642 he669650 he669651; try clear r669536; try clear w669537; try clear dc669533; try clear ds669534; try clear hp669535; try clear r669564; try clear w669565; try clear dc669561; try clear ds669562; try clear hp669563; try clear x669569; try clear x669570; try clear r669586; try clear w669587; try clear dc669583; try clear ds669584; try clear hp669585; try clear r669605; try clear w669606; try clear dc669602; try clear ds669603; try clear hp669604; try clear x669612
            refine G_aload_n 2 dr_cX14_symbol_195 rfl ?_
            refine G_dup dr_cX14_symbol_196 rfl ?_
            refine Gp_get 2 hm669626 he669653 dr_cX14_symbol_197 (gk_X14 D I) (Nat.le_of_ble_eq_true rfl) wr_9_38 rfl ?_
            refine G_iload_n 0 dr_cX14_symbol_200 rfl ?_
            refine G_if_eq 208 dr_cX14_symbol_201 (by decide +kernel) (fun _ => ?_) (fun hc => absurd hc (by decide))
            refine G_iconst 1 dr_cX14_symbol_208 (by decide +kernel) ?_
            refine G_iadd dr_cX14_symbol_209 (G_eqi (y := z669181) hz669181.symm ?_)
            refine Gp_put 2 hm669626 he669653 dr_cX14_symbol_210 (gk_X14 D I) (Nat.le_of_ble_eq_true rfl) wr_9_38 rfl rfl rfl (Nat.le_of_ble_eq_true rfl) (fun F669655 e669656 n669657 => ?_)
            have he669658 : F669655 q668842 = .inl (I .byte, 8192, .inl f668857) := (n669657 q668842 (rn_ao he669646 he669653)).trans he669646
            have he669659 : F669655 q669291 = .inr (0, [.ref q669292, .int 0, .int 0, .int 0]) := (n669657 q669291 (fun h => hq669314 (h ▸ hmq668841))).trans he669647
            have he669660 : F669655 q669292 = .inl (I .byte, n669293, .inl f669294) := (n669657 q669292 (fun h => hq669315 (h ▸ hmq668841))).trans he669648
            have he669661 : F669655 q669607 = .inr (0, [.ref q669608, .int 0, .int 0, .int 0]) := (n669657 q669607 (fun h => hq669632 (h ▸ hmq668841))).trans he669649
            have he669662 : F669655 q669608 = .inl (I .byte, n669609, .inl f669610) := (n669657 q669608 (fun h => hq669633 (h ▸ hmq668841))).trans he669652
            have he669663 : F669655 q668841 = .inr (19, [.ref q668842, .int p668844, .int z669181, .int 6, .int p668847, .int p668848, .int p668849, .ref q669607, .int p668851, .int p668852, .int p668853, .ref qo668854, .ref qo668855, .int p668856]) := e669656
            have hfr669664 : rFr [q668841] P668839 F668840 F669655 := rFr_put' List.mem_cons_self hfr669654 n669657
            exact G_vretA dr_cX14_symbol_213 rfl (show 12 ≤ ((16 * (p668844.toInt - p668845.toInt)).toNat) by omega) (show 20 + (o669274.toInt.toNat + 4) + 0 + 4 + 16 + 0 + 0 + 0 + (o669426.toInt.toNat + 4) + 0 + 0 + 4 + 16 + 0 + 0 + (o669588.toInt.toNat + 4) ≤ ((160 * (p668844.toInt - p668845.toInt)).toNat) by omega) ⟨P669614, F669655, z669181, 6, q669607, (0, fun _ => 0), rfl, rfl, hsb669634, hfr669664, he669663, he669658, (by omega), (by omega), (gB_w bz669181' (by decide) (by decide)), (gB_w (gBl (show Int32.toInt 6 = 6 by decide)) (by decide) (by decide)), (by have qa0 : Int32.toInt 0 = 0 := (by decide); have qa1 : Int32.toInt 6 = 6 := (by decide); omega), (by have qa0 : Int32.toInt 0 = 0 := (by decide); have qa1 : Int32.toInt 6 = 6 := (by decide); omega), (tP_no (by decide) (by decide)), (vP_no (by decide) (by decide)), (fun R c1 c2 c3 c4 c5 c6 => c4 z669181 z669185 o669236 f669237 z669250 o669256 f669257 z669268 o669274 f669275 n669293 f669294 o669326 o669383 f669384 o669404 f669405 o669426 f669427 n669449 f669450 o669488 z669495 o669501 o669566 f669567 z669582 o669588 f669589 n669609 f669610 ez669181 r669184 hz669185 bz669185 r669188 r669191 bo669236 ht669241 hz669250 bo669256 ht669259 hz669268 bo669274 ht669277 ht669297 bo669326 ht669328 bo669383 ht669388 bo669404 ht669409 bo669426 ht669431 ht669453 bo669488 ht669491 r669493 hz669495 bo669501 ht669502 r669504 bo669566 ht669571 hz669582 bo669588 ht669591 ht669613)⟩
          · have r669665 : 0 ≤ o669501.toInt := gj_nlt hc669503 (show Int32.toInt 0 = 0 by decide)
            have bo669501' : gB o669501 0 65534 := ⟨by omega, by omega⟩
            refine G_iconst 5 dr_cX14_symbol_143 (by decide +kernel) ?_
            refine G_goto 149 dr_cX14_symbol_144 (by decide +kernel) ?_
            refine Gp_put 3 hm669466 he669475 dr_cX14_symbol_149 (gk_X14 D I) (Nat.le_of_ble_eq_true rfl) wr_9_39 rfl rfl rfl (Nat.le_of_ble_eq_true rfl) (fun F669666 e669667 n669668 => ?_)
            have he669669 : F669666 q668842 = .inl (I .byte, 8192, .inl f668857) := (n669668 q668842 (rn_ao he669476 he669475)).trans he669476
            have he669670 : F669666 q669291 = .inr (0, [.ref q669292, .int 0, .int 0, .int 0]) := (n669668 q669291 (fun h => hq669314 (h ▸ hmq668841))).trans he669477
            have he669671 : F669666 q669292 = .inl (I .byte, n669293, .inl f669294) := (n669668 q669292 (fun h => hq669315 (h ▸ hmq668841))).trans he669478
            have he669672 : F669666 q668841 = .inr (19, [.ref q668842, .int p668844, .int p668845, .int 5, .int p668847, .int p668848, .int p668849, .ref qo668850, .int p668851, .int p668852, .int p668853, .ref qo668854, .ref qo668855, .int p668856]) := e669667
            have hfr669673 : rFr [q668841] P668839 F668840 F669666 := rFr_put hfr669479 n669668
            clear he669475 he669476 he669477 he669478 hfr669479 ez669495 bz669495 bo669501'; try clear r669499; try clear w669500; try clear dc669496; try clear ds669497; try clear hp669498
            refine G_aload_n 2 dr_cX14_symbol_152 rfl ?_
            refine G_iload_n 0 dr_cX14_symbol_153 rfl ?_
            refine G_if_eq 161 dr_cX14_symbol_154 (by decide +kernel) (fun _ => ?_) (fun hc => absurd hc (by decide))
            refine G_iload_n 3 dr_cX14_symbol_161 rfl ?_
            refine G_bipush 32 dr_cX14_symbol_162 (by decide +kernel) ?_
            refine G_icmp_le 190 dr_cX14_symbol_164 (by decide +kernel) (fun hc => absurd (show False by have := gj_le hc (show Int32.toInt 32 = 32 by decide); omega) not_false) (fun _ => ?_)
            refine G_new [.null, .int 0, .int 0, .int 0] dr_cX14_symbol_167 (gk_J4 D I) wr_7_235 wr_7_44 wr_1_20 (gfs_J4) (Nat.le_trans (show 8 + 1 ≤ 16 by decide) hMC) (show 20 + (o669274.toInt.toNat + 4) + 0 + 4 + 16 + 0 + 0 + 0 + (o669426.toInt.toNat + 4) + 0 + 0 + 4 ≤ ((160 * (p668844.toInt - p668845.toInt)).toNat) by first | omega | decide) (fun q669674 => Gp_in (fun P669675 F669676 hq669677 hP669678 e669679 n669680 => ?_))
            refine G_widen (cs' := 9) (sl' := 20 + (o669274.toInt.toNat + 4) + 0 + 4 + 16 + 0 + 0 + 0 + (o669426.toInt.toNat + 4) + 0 + 0 + 4) (by omega) (by omega) ?_
            have he669681 : F669676 q668841 = .inr (19, [.ref q668842, .int p668844, .int p668845, .int 5, .int p668847, .int p668848, .int p668849, .ref qo668850, .int p668851, .int p668852, .int p668853, .ref qo668854, .ref qo668855, .int p668856]) := (n669680 q668841 (fun h => hq669677 (h ▸ hm669466))).trans he669672
            have he669682 : F669676 q668842 = .inl (I .byte, 8192, .inl f668857) := (n669680 q668842 (fun h => hq669677 (h ▸ hm669467))).trans he669669
            have he669683 : F669676 q669291 = .inr (0, [.ref q669292, .int 0, .int 0, .int 0]) := (n669680 q669291 (fun h => hq669677 (h ▸ hm669468))).trans he669670
            have he669684 : F669676 q669292 = .inl (I .byte, n669293, .inl f669294) := (n669680 q669292 (fun h => hq669677 (h ▸ hm669469))).trans he669671
            have he669685 : F669676 q669674 = .inr (1, [.null, .int 0, .int 0, .int 0]) := e669679
            have hm669686 : q668841 ∈ P669675 := (hP669678 q668841).mpr (Or.inl hm669466)
            have hm669687 : q668842 ∈ P669675 := (hP669678 q668842).mpr (Or.inl hm669467)
            have hm669688 : q669291 ∈ P669675 := (hP669678 q669291).mpr (Or.inl hm669468)
            have hm669689 : q669292 ∈ P669675 := (hP669678 q669292).mpr (Or.inl hm669469)
            have hm669690 : q669674 ∈ P669675 := (hP669678 q669674).mpr (Or.inr rfl)
            have hq669691 : q669674 ∉ P668839 := fun z => hq669677 (hsb669474 q669674 z)
            have hfr669692 : rFr [q668841] P668839 F668840 F669676 := rFr_new hsb669474 hq669677 hfr669673 n669680
            have hsb669693 : rSub P668839 P669675 := rSub_new hsb669474 hP669678
            refine G_dup dr_cX14_symbol_170 rfl ?_
            refine Gw_callI (As := []) (gV_ok D I) (cp_659115_StringBuilder_init l hl0 D I P669675 F669676 q669674 0 0 hm669690 he669685 (gB_w (gBl (show Int32.toInt 0 = 0 by decide)) (by decide) (by decide)) (gB_w (gBl (show Int32.toInt 0 = 0 by decide)) (by decide) (by decide))) dr_cX14_symbol_171 ⟨wr_7_236, wr_1_20, wr_7_47, by decide, rfl, (Nat.le_of_ble_eq_true rfl), (Nat.le_of_ble_eq_true rfl)⟩ wr_7_46 rfl (Nat.le_trans (show 9 + 1 ≤ 16 by decide) hMC) (show 20 + (o669274.toInt.toNat + 4) + 0 + 4 + 16 + 0 + 0 + 0 + (o669426.toInt.toNat + 4) + 0 + 0 + 4 + 16 ≤ ((160 * (p668844.toInt - p668845.toInt)).toNat) by first | omega | decide) (Nat.le_of_ble_eq_true rfl) (fun r669697 w669698 dc669694 ds669695 hp669696 => ?_)
            obtain ⟨P669700, F669701, q669699, rfl, rfl, hsb669702, hfr669703, he669704, he669705, hm669706, hq669707, hdc, hds⟩ := hp669696
            have hm669708 : q668841 ∈ P669700 := hsb669702 q668841 hm669686
            have hm669709 : q668842 ∈ P669700 := hsb669702 q668842 hm669687
            have hm669710 : q669291 ∈ P669700 := hsb669702 q669291 hm669688
            have hm669711 : q669292 ∈ P669700 := hsb669702 q669292 hm669689
            have hm669712 : q669674 ∈ P669700 := hsb669702 q669674 hm669690
            have hq669713 : q669699 ∉ P668839 := fun z => hq669707 (hsb669693 q669699 z)
            have hsb669714 : rSub P668839 P669700 := rSub_tr hsb669693 hsb669702
            have he669715 : F669701 q668841 = .inr (19, [.ref q668842, .int p668844, .int p668845, .int 5, .int p668847, .int p668848, .int p668849, .ref qo668850, .int p668851, .int p668852, .int p668853, .ref qo668854, .ref qo668855, .int p668856]) := (hfr669703 q668841 hm669686 (nm_c (fun h => hq669691 (h ▸ hmq668841)) nm_n)).trans he669681
            have he669716 : F669701 q668842 = .inl (I .byte, 8192, .inl f668857) := (hfr669703 q668842 hm669687 (nm_c (fun h => hq669691 (h ▸ hmq668842)) nm_n)).trans he669682
            have he669717 : F669701 q669291 = .inr (0, [.ref q669292, .int 0, .int 0, .int 0]) := (hfr669703 q669291 hm669688 (nm_c (rn_oo he669683 he669685 (by decide)) nm_n)).trans he669683
            have he669718 : F669701 q669292 = .inl (I .byte, n669293, .inl f669294) := (hfr669703 q669292 hm669689 (nm_c (rn_ao he669684 he669685) nm_n)).trans he669684
            have hfr669719 : rFr [q668841] P668839 F668840 F669701 := rFr_call hsb669693 hfr669692 hfr669703 (fun b hb hn => ⟨(nm_c (fun e => hn (e ▸ List.mem_cons_self)) nm_n), (nm_c (fun e => hq669691 (e ▸ hb)) nm_n)⟩)
            have hne669720 : q669292 ≠ q669699 := fun h => hq669707 (h ▸ hm669689)
            change G _ _ _ _ _ _ _ _ _ _ _
            refine G_widen (cs' := 10) (sl' := 20 + (o669274.toInt.toNat + 4) + 0 + 4 + 16 + 0 + 0 + 0 + (o669426.toInt.toNat + 4) + 0 + 0 + 4 + 16) (Nat.add_le_add_left hdc 9) (by omega) ?_
            refine G_ldcK (a := D.2 1000 32) dr_cX14_symbol_174 (fun _ _ _ h => gx_vk 32 rfl rfl h) ?_
            have hl32_669720 : (sb_32.length : Int) = 0 := rfl
            refine Gw_callV (As := [.ref (D.2 1000 32)]) (gV_ok D I) (cp_659417_StringBuilder_append l hl0 D I P669700 F669701 q669674 q669699 (D.2 1000 32) (D.2 1001 32) sb_32 0 0 (fun _ => 0) 16 hm669712 hm669706 he669704 he669705 (gx_sc 32 rfl rfl) (by omega) (by decide +kernel) (gB_w (gBl (show Int32.toInt 0 = 0 by decide)) (by decide) (by decide)) (gB_w (gBl (show Int32.toInt 0 = 0 by decide)) (by decide) (by decide)) (gF_w gF_0 (by decide) (by decide)) (by have qa0 : Int32.toInt 0 = 0 := (by decide); have qa1 : Int32.toInt 5 = 5 := (by decide); omega) (by have qa0 : Int32.toInt 0 = 0 := (by decide); have qa1 : Int32.toInt 5 = 5 := (by decide); omega)) dr_cX14_symbol_176 ⟨wr_8_195, wr_1_20, wr_8_143, by decide, rfl, (Nat.le_of_ble_eq_true rfl), (Nat.le_of_ble_eq_true rfl)⟩ wr_8_141 wr_8_142 hm669712 he669704 rfl (Nat.le_trans (show 10 + 0 ≤ 16 by decide) hMC) (show 20 + (o669274.toInt.toNat + 4) + 0 + 4 + 16 + 0 + 0 + 0 + (o669426.toInt.toNat + 4) + 0 + 0 + 4 + 16 + 0 ≤ ((160 * (p668844.toInt - p668845.toInt)).toNat) by first | omega | decide) (Nat.le_of_ble_eq_true rfl) (fun r669725 w669726 dc669722 ds669723 hp669724 => ?_) (fun _ _ _ _ _ z => z.elim)
            obtain ⟨F669733, o669727, f669728, rfl, rfl, hfr669735, he669736, he669737, hdc, hds, bo669727, bf669728, x669729, x669730, x669731, ht669732⟩ := hp669724
            have he669738 : F669733 q668841 = .inr (19, [.ref q668842, .int p668844, .int p668845, .int 5, .int p668847, .int p668848, .int p668849, .ref qo668850, .int p668851, .int p668852, .int p668853, .ref qo668854, .ref qo668855, .int p668856]) := (hfr669735 q668841 hm669708 (nm_c (fun h => hq669691 (h ▸ hmq668841)) (nm_c (fun h => hq669713 (h ▸ hmq668841)) nm_n))).trans he669715
            have he669739 : F669733 q668842 = .inl (I .byte, 8192, .inl f668857) := (hfr669735 q668842 hm669709 (nm_c (fun h => hq669691 (h ▸ hmq668842)) (nm_c (fun h => hq669713 (h ▸ hmq668842)) nm_n))).trans he669716
            have he669740 : F669733 q669291 = .inr (0, [.ref q669292, .int 0, .int 0, .int 0]) := (hfr669735 q669291 hm669710 (nm_c (rn_oo he669717 he669704 (by decide)) (nm_c (rn_oa he669717 he669705) nm_n))).trans he669717
            have he669741 : F669733 q669292 = .inl (I .byte, n669293, .inl f669294) := (hfr669735 q669292 hm669711 (nm_c (rn_ao he669718 he669704) (nm_c hne669720 nm_n))).trans he669718
            have hfr669742 : rFr [q668841] P668839 F668840 F669733 := rFr_call hsb669714 hfr669719 hfr669735 (fun b hb hn => ⟨(nm_c (fun e => hn (e ▸ List.mem_cons_self)) nm_n), (nm_c (fun e => hq669691 (e ▸ hb)) (nm_c (fun e => hq669713 (e ▸ hb)) nm_n))⟩)
            rw [show Int32.toInt 0 = 0 from by decide] at x669729
            have bo669727' : gB o669727 0 0 := ⟨by omega, by omega⟩
            rw [show Int32.toInt 0 = 0 from by decide] at x669730
            rw [show Int32.toInt 0 = 0 from by decide] at x669731
            change G _ _ _ _ _ _ _ (.ref q669674 :: _) _ _ _
            refine G_widen (cs' := 10) (sl' := 20 + (o669274.toInt.toNat + 4) + 0 + 4 + 16 + 0 + 0 + 0 + (o669426.toInt.toNat + 4) + 0 + 0 + 4 + 16 + 0) (Nat.add_le_add_left hdc 10) (by omega) ?_
            refine G_iload_n 3 dr_cX14_symbol_179 rfl ?_
            refine G_i2c dr_cX14_symbol_180 (G_nam fun z669743 hz669743 => ?_)
            have ez669743 : z669743.toInt = p668843.toInt := gI_i2c hz669743 (by omega) (by omega)
            have bz669743 : gB z669743 33 127 := ⟨by omega, by omega⟩
            refine Gw_callV (As := [.int z669743]) (gV_ok D I) (cp_658676_StringBuilder_append l hl0 D I P669700 F669733 q669674 q669699 z669743 0 o669727 f669728 16 hm669712 hm669706 he669736 he669737 (gB_w bz669743 (by decide) (by decide)) (gB_w (gBl (show Int32.toInt 0 = 0 by decide)) (by decide) (by decide)) (gB_w bo669727' (by decide) (by decide)) bf669728 (by have qa0 : Int32.toInt 0 = 0 := (by decide); have qa1 : Int32.toInt 5 = 5 := (by decide); omega) (by have qa0 : Int32.toInt 0 = 0 := (by decide); have qa1 : Int32.toInt 5 = 5 := (by decide); omega)) dr_cX14_symbol_181 ⟨wr_7_237, wr_1_20, wr_8_0, by decide, rfl, (Nat.le_of_ble_eq_true rfl), (Nat.le_of_ble_eq_true rfl)⟩ wr_7_238 wr_7_239 hm669712 he669736 rfl (Nat.le_trans (show 10 + 0 ≤ 16 by decide) hMC) (show 20 + (o669274.toInt.toNat + 4) + 0 + 4 + 16 + 0 + 0 + 0 + (o669426.toInt.toNat + 4) + 0 + 0 + 4 + 16 + 0 + 0 ≤ ((160 * (p668844.toInt - p668845.toInt)).toNat) by first | omega | decide) (Nat.le_of_ble_eq_true rfl) (fun r669747 w669748 dc669744 ds669745 hp669746 => ?_) (fun _ _ _ _ _ z => z.elim)
            obtain ⟨F669753, o669749, f669750, rfl, rfl, hfr669755, he669756, he669757, hdc, hds, bo669749, bf669750, x669751, ht669752⟩ := hp669746
            have he669758 : F669753 q668841 = .inr (19, [.ref q668842, .int p668844, .int p668845, .int 5, .int p668847, .int p668848, .int p668849, .ref qo668850, .int p668851, .int p668852, .int p668853, .ref qo668854, .ref qo668855, .int p668856]) := (hfr669755 q668841 hm669708 (nm_c (fun h => hq669713 (h ▸ hmq668841)) (nm_c (fun h => hq669691 (h ▸ hmq668841)) nm_n))).trans he669738
            have he669759 : F669753 q668842 = .inl (I .byte, 8192, .inl f668857) := (hfr669755 q668842 hm669709 (nm_c (fun h => hq669713 (h ▸ hmq668842)) (nm_c (fun h => hq669691 (h ▸ hmq668842)) nm_n))).trans he669739
            have he669760 : F669753 q669291 = .inr (0, [.ref q669292, .int 0, .int 0, .int 0]) := (hfr669755 q669291 hm669710 (nm_c (rn_oa he669740 he669737) (nm_c (rn_oo he669740 he669736 (by decide)) nm_n))).trans he669740
            have he669761 : F669753 q669292 = .inl (I .byte, n669293, .inl f669294) := (hfr669755 q669292 hm669711 (nm_c hne669720 (nm_c (rn_ao he669741 he669736) nm_n))).trans he669741
            have hfr669762 : rFr [q668841] P668839 F668840 F669753 := rFr_call hsb669714 hfr669742 hfr669755 (fun b hb hn => ⟨(nm_c (fun e => hn (e ▸ List.mem_cons_self)) nm_n), (nm_c (fun e => hq669713 (e ▸ hb)) (nm_c (fun e => hq669691 (e ▸ hb)) nm_n))⟩)
            have bo669749' : gB o669749 1 1 := ⟨by omega, by omega⟩
            change G _ _ _ _ _ _ _ (.ref q669674 :: _) _ _ _
            refine G_widen (cs' := 10) (sl' := 20 + (o669274.toInt.toNat + 4) + 0 + 4 + 16 + 0 + 0 + 0 + (o669426.toInt.toNat + 4) + 0 + 0 + 4 + 16 + 0 + 0) (Nat.add_le_add_left hdc 10) (by omega) ?_
            refine Gw_callV (As := []) (gV_ok D I) (cp_659890_StringBuilder_toString l hl0 D I P669700 F669753 q669674 q669699 0 o669749 f669750 16 hm669712 hm669706 he669756 he669757 (gB_w (gBl (show Int32.toInt 0 = 0 by decide)) (by decide) (by decide)) (gB_w bo669749' (by decide) (by decide)) bf669750 (by have qa0 : Int32.toInt 0 = 0 := (by decide); have qa1 : Int32.toInt 5 = 5 := (by decide); omega) (by have qa0 : Int32.toInt 0 = 0 := (by decide); have qa1 : Int32.toInt 5 = 5 := (by decide); omega)) dr_cX14_symbol_184 ⟨wr_8_66, wr_1_20, wr_8_69, by decide, rfl, (Nat.le_of_ble_eq_true rfl), (Nat.le_of_ble_eq_true rfl)⟩ wr_8_67 wr_8_68 hm669712 he669756 rfl (Nat.le_trans (show 10 + 2 ≤ 16 by decide) hMC) (show 20 + (o669274.toInt.toNat + 4) + 0 + 4 + 16 + 0 + 0 + 0 + (o669426.toInt.toNat + 4) + 0 + 0 + 4 + 16 + 0 + 0 + (o669749.toInt.toNat + 4) ≤ ((160 * (p668844.toInt - p668845.toInt)).toNat) by first | omega | decide) (Nat.le_of_ble_eq_true rfl) (fun r669766 w669767 dc669763 ds669764 hp669765 => ?_) (fun _ _ _ _ _ z => z.elim)
            obtain ⟨P669775, F669776, q669768, q669769, n669770, f669771, rfl, rfl, hsb669777, hfr669778, he669779, he669780, he669781, he669782, hm669783, hq669784, hm669785, hq669786, hdc, hds, bf669771, x669772, x669773, ht669774⟩ := hp669765
            have hm669787 : q668841 ∈ P669775 := hsb669777 q668841 hm669708
            have hm669788 : q668842 ∈ P669775 := hsb669777 q668842 hm669709
            have hm669789 : q669291 ∈ P669775 := hsb669777 q669291 hm669710
            have hm669790 : q669292 ∈ P669775 := hsb669777 q669292 hm669711
            have hm669791 : q669674 ∈ P669775 := hsb669777 q669674 hm669712
            have hm669792 : q669699 ∈ P669775 := hsb669777 q669699 hm669706
            have hq669793 : q669768 ∉ P668839 := fun z => hq669784 (hsb669714 q669768 z)
            have hq669794 : q669769 ∉ P668839 := fun z => hq669786 (hsb669714 q669769 z)
            have hsb669795 : rSub P668839 P669775 := rSub_tr hsb669714 hsb669777
            have he669796 : F669776 q668841 = .inr (19, [.ref q668842, .int p668844, .int p668845, .int 5, .int p668847, .int p668848, .int p668849, .ref qo668850, .int p668851, .int p668852, .int p668853, .ref qo668854, .ref qo668855, .int p668856]) := (hfr669778 q668841 hm669708 nm_n).trans he669758
            have he669797 : F669776 q668842 = .inl (I .byte, 8192, .inl f668857) := (hfr669778 q668842 hm669709 nm_n).trans he669759
            have he669798 : F669776 q669291 = .inr (0, [.ref q669292, .int 0, .int 0, .int 0]) := (hfr669778 q669291 hm669710 nm_n).trans he669760
            have he669799 : F669776 q669292 = .inl (I .byte, n669293, .inl f669294) := (hfr669778 q669292 hm669711 nm_n).trans he669761
            have hfr669800 : rFr [q668841] P668839 F668840 F669776 := rFr_call hsb669714 hfr669762 hfr669778 (fun b hb hn => ⟨(nm_c (fun e => hn (e ▸ List.mem_cons_self)) nm_n), nm_n⟩)
            have hne669801 : q669291 ≠ q669768 := fun h => hq669784 (h ▸ hm669710)
            have hne669802 : q669292 ≠ q669769 := fun h => hq669786 (h ▸ hm669711)
            have hne669803 : q669699 ≠ q669769 := fun h => hq669786 (h ▸ hm669706)
            change G _ _ _ _ _ _ _ (.ref q669768 :: _) _ _ _
            refine G_widen (cs' := 12) (sl' := 20 + (o669274.toInt.toNat + 4) + 0 + 4 + 16 + 0 + 0 + 0 + (o669426.toInt.toNat + 4) + 0 + 0 + 4 + 16 + 0 + 0 + (o669749.toInt.toNat + 4)) (Nat.add_le_add_left hdc 10) (by omega) ?_
            refine G_goto 192 dr_cX14_symbol_187 (by decide +kernel) ?_
            refine Gp_put 7 hm669787 he669796 dr_cX14_symbol_192 (gk_X14 D I) (Nat.le_of_ble_eq_true rfl) wr_9_43 rfl rfl rfl (Nat.le_of_ble_eq_true rfl) (fun F669804 e669805 n669806 => ?_)
            have he669807 : F669804 q668842 = .inl (I .byte, 8192, .inl f668857) := (n669806 q668842 (rn_ao he669797 he669796)).trans he669797
            have he669808 : F669804 q669291 = .inr (0, [.ref q669292, .int 0, .int 0, .int 0]) := (n669806 q669291 (fun h => hq669314 (h ▸ hmq668841))).trans he669798
            have he669809 : F669804 q669292 = .inl (I .byte, n669293, .inl f669294) := (n669806 q669292 (fun h => hq669315 (h ▸ hmq668841))).trans he669799
            have he669810 : F669804 q669768 = .inr (0, [.ref q669769, .int 0, .int 0, .int 0]) := (n669806 q669768 (fun h => hq669793 (h ▸ hmq668841))).trans he669779
            have he669811 : F669804 q669674 = .inr (1, [.ref q669699, .int 0, .int 0, .int o669749]) := (n669806 q669674 (fun h => hq669691 (h ▸ hmq668841))).trans he669780
            have he669812 : F669804 q669699 = .inl (I .byte, 16, .inl f669750) := (n669806 q669699 (fun h => hq669713 (h ▸ hmq668841))).trans he669781
            have he669813 : F669804 q669769 = .inl (I .byte, n669770, .inl f669771) := (n669806 q669769 (fun h => hq669794 (h ▸ hmq668841))).trans he669782
            have he669814 : F669804 q668841 = .inr (19, [.ref q668842, .int p668844, .int p668845, .int 5, .int p668847, .int p668848, .int p668849, .ref q669768, .int p668851, .int p668852, .int p668853, .ref qo668854, .ref qo668855, .int p668856]) := e669805
            have hfr669815 : rFr [q668841] P668839 F668840 F669804 := rFr_put' List.mem_cons_self hfr669800 n669806
            clear hm669466 hm669467 hm669468 hm669469 hsb669474 he669669 he669670 he669671 he669672 hfr669673 he669681 he669682 he669683 he669684 he669685 hm669686 hm669687 hm669688 hm669689 hm669690 hq669691 hfr669692 hsb669693 hsb669702 hfr669703 he669704 he669705 hm669706 hq669707 hm669708 hm669709 hm669710 hm669711 hm669712 hq669713 hsb669714 he669715 he669716 he669717 he669718 hfr669719 hne669720 hfr669735 he669736 he669737 bf669728 he669738 he669739 he669740 he669741 hfr669742 ez669743 bz669743 hfr669755 he669756 he669757 bf669750 he669758 he669759 he669760 he669761 hfr669762 hsb669777 hfr669778 he669779 he669780 he669781 he669782 hq669784 hq669786 hm669791 hm669792 he669796 he669797 he669798 he669799 hfr669800 hne669803 he669811 he669812; try clear r669697; try clear w669698; try clear dc669694; try clear ds669695; try clear hp669696; try clear r669725; try clear w669726; try clear dc669722; try clear ds669723; try clear hp669724; try clear x669730; try clear x669731; try clear r669747; try clear w669748; try clear dc669744; try clear ds669745; try clear hp669746; try clear r669766; try clear w669767; try clear dc669763; try clear ds669764; try clear hp669765; try clear x669773
            refine G_aload_n 2 dr_cX14_symbol_195 rfl ?_
            refine G_dup dr_cX14_symbol_196 rfl ?_
            refine Gp_get 2 hm669787 he669814 dr_cX14_symbol_197 (gk_X14 D I) (Nat.le_of_ble_eq_true rfl) wr_9_38 rfl ?_
            refine G_iload_n 0 dr_cX14_symbol_200 rfl ?_
            refine G_if_eq 208 dr_cX14_symbol_201 (by decide +kernel) (fun _ => ?_) (fun hc => absurd hc (by decide))
            refine G_iconst 1 dr_cX14_symbol_208 (by decide +kernel) ?_
            refine G_iadd dr_cX14_symbol_209 (G_eqi (y := z669181) hz669181.symm ?_)
            refine Gp_put 2 hm669787 he669814 dr_cX14_symbol_210 (gk_X14 D I) (Nat.le_of_ble_eq_true rfl) wr_9_38 rfl rfl rfl (Nat.le_of_ble_eq_true rfl) (fun F669816 e669817 n669818 => ?_)
            have he669819 : F669816 q668842 = .inl (I .byte, 8192, .inl f668857) := (n669818 q668842 (rn_ao he669807 he669814)).trans he669807
            have he669820 : F669816 q669291 = .inr (0, [.ref q669292, .int 0, .int 0, .int 0]) := (n669818 q669291 (fun h => hq669314 (h ▸ hmq668841))).trans he669808
            have he669821 : F669816 q669292 = .inl (I .byte, n669293, .inl f669294) := (n669818 q669292 (fun h => hq669315 (h ▸ hmq668841))).trans he669809
            have he669822 : F669816 q669768 = .inr (0, [.ref q669769, .int 0, .int 0, .int 0]) := (n669818 q669768 (fun h => hq669793 (h ▸ hmq668841))).trans he669810
            have he669823 : F669816 q669769 = .inl (I .byte, n669770, .inl f669771) := (n669818 q669769 (fun h => hq669794 (h ▸ hmq668841))).trans he669813
            have he669824 : F669816 q668841 = .inr (19, [.ref q668842, .int p668844, .int z669181, .int 5, .int p668847, .int p668848, .int p668849, .ref q669768, .int p668851, .int p668852, .int p668853, .ref qo668854, .ref qo668855, .int p668856]) := e669817
            have hfr669825 : rFr [q668841] P668839 F668840 F669816 := rFr_put' List.mem_cons_self hfr669815 n669818
            exact G_vretA dr_cX14_symbol_213 rfl (show 12 ≤ ((16 * (p668844.toInt - p668845.toInt)).toNat) by omega) (show 20 + (o669274.toInt.toNat + 4) + 0 + 4 + 16 + 0 + 0 + 0 + (o669426.toInt.toNat + 4) + 0 + 0 + 4 + 16 + 0 + 0 + (o669749.toInt.toNat + 4) ≤ ((160 * (p668844.toInt - p668845.toInt)).toNat) by omega) ⟨P669775, F669816, z669181, 5, q669768, (n669770, f669771), rfl, rfl, hsb669795, hfr669825, he669824, he669819, (by omega), (by omega), (gB_w bz669181' (by decide) (by decide)), (gB_w (gBl (show Int32.toInt 5 = 5 by decide)) (by decide) (by decide)), (by have qa0 : Int32.toInt 0 = 0 := (by decide); have qa1 : Int32.toInt 5 = 5 := (by decide); omega), (by have qa0 : Int32.toInt 0 = 0 := (by decide); have qa1 : Int32.toInt 5 = 5 := (by decide); omega), (tP_5 hm669783 he669822 hm669785 he669823 bf669771 (by omega) (gB_w (gBl (show Int32.toInt 0 = 0 by decide)) (by decide) (by decide)) (fun e => hq669794 (e ▸ x668860)) (fun e => hq669794 (e ▸ x668861))), (vP_no (by decide) (by decide)), (fun R c1 c2 c3 c4 c5 c6 => c5 z669181 z669185 o669236 f669237 z669250 o669256 f669257 z669268 o669274 f669275 n669293 f669294 o669326 o669383 f669384 o669404 f669405 o669426 f669427 n669449 f669450 o669488 z669495 o669501 o669727 f669728 z669743 o669749 f669750 n669770 f669771 ez669181 r669184 hz669185 bz669185 r669188 r669191 bo669236 ht669241 hz669250 bo669256 ht669259 hz669268 bo669274 ht669277 ht669297 bo669326 ht669328 bo669383 ht669388 bo669404 ht669409 bo669426 ht669431 ht669453 bo669488 ht669491 r669493 hz669495 bo669501 ht669502 r669665 bo669727 ht669732 hz669743 bo669749 ht669752 ht669774)⟩
        · have r669826 : 0 ≤ o669488.toInt := gj_nlt hc669492 (show Int32.toInt 0 = 0 by decide)
          have bo669488' : gB o669488 0 16777215 := ⟨by omega, by omega⟩
          refine G_iconst 1 dr_cX14_symbol_116 (by decide +kernel) ?_
          refine G_goto 121 dr_cX14_symbol_117 (by decide +kernel) ?_
          refine G_istore_n (L' := [(3, .int 1), (2, .ref q669291), (0, .ref q668841), (1, .int p668843)]) dr_cX14_symbol_121 (Nat.le_of_ble_eq_true rfl) rfl ?_
          clear he669302 he669305 hm669306 hm669308 hm669310 hm669311 hsb669316 he669317 he669318 hfr669319 he669337 he669338 he669339 he669340 he669341 hm669342 hm669343 hm669344 hm669345 hm669346 hq669347 hfr669348 hsb669349 hsb669358 hfr669359 he669360 he669361 hm669362 hq669363 hm669364 hm669365 hm669366 hm669367 hm669368 hq669369 hsb669370 he669371 he669372 he669373 he669374 hfr669375 hne669376 hfr669391 he669392 he669393 bf669384 he669394 he669395 he669396 he669397 hfr669398 hfr669412 he669413 he669414 he669415 he669416 bf669405 he669417 he669418 hfr669419 hfr669434 he669435 he669436 bf669427 he669437 he669438 he669439 he669440 hfr669441 hsb669456 hfr669457 he669458 he669459 he669460 he669461 hm669462 hq669463 hm669464 hq669465 bf669450 hm669470 hm669471 hq669472 hq669473 hne669480 hne669481 hne669482; try clear r669353; try clear w669354; try clear dc669350; try clear ds669351; try clear hp669352; try clear r669381; try clear w669382; try clear dc669378; try clear ds669379; try clear hp669380; try clear x669386; try clear x669387; try clear r669402; try clear w669403; try clear dc669399; try clear ds669400; try clear hp669401; try clear x669407; try clear x669408; try clear r669424; try clear w669425; try clear dc669421; try clear ds669422; try clear hp669423; try clear x669429; try clear x669430; try clear r669445; try clear w669446; try clear dc669442; try clear ds669443; try clear hp669444; try clear x669452; try clear r669486; try clear w669487; try clear dc669483; try clear ds669484; try clear hp669485; try clear x669490
          refine G_aload_n 2 dr_cX14_symbol_122 rfl ?_
          refine G_iload_n 0 dr_cX14_symbol_123 rfl ?_
          refine G_if_ne 143 dr_cX14_symbol_124 (by decide +kernel) (fun _ => ?_) (fun hc => absurd hc (by decide))
          refine G_iconst 5 dr_cX14_symbol_143 (by decide +kernel) ?_
          refine G_goto 149 dr_cX14_symbol_144 (by decide +kernel) ?_
          refine Gp_put 3 hm669466 he669475 dr_cX14_symbol_149 (gk_X14 D I) (Nat.le_of_ble_eq_true rfl) wr_9_39 rfl rfl rfl (Nat.le_of_ble_eq_true rfl) (fun F669827 e669828 n669829 => ?_)
          have he669830 : F669827 q668842 = .inl (I .byte, 8192, .inl f668857) := (n669829 q668842 (rn_ao he669476 he669475)).trans he669476
          have he669831 : F669827 q669291 = .inr (0, [.ref q669292, .int 0, .int 0, .int 0]) := (n669829 q669291 (fun h => hq669314 (h ▸ hmq668841))).trans he669477
          have he669832 : F669827 q669292 = .inl (I .byte, n669293, .inl f669294) := (n669829 q669292 (fun h => hq669315 (h ▸ hmq668841))).trans he669478
          have he669833 : F669827 q668841 = .inr (19, [.ref q668842, .int p668844, .int p668845, .int 5, .int p668847, .int p668848, .int p668849, .ref qo668850, .int p668851, .int p668852, .int p668853, .ref qo668854, .ref qo668855, .int p668856]) := e669828
          have hfr669834 : rFr [q668841] P668839 F668840 F669827 := rFr_put hfr669479 n669829
          clear he669475 he669476 he669477 he669478 hfr669479
          refine G_aload_n 2 dr_cX14_symbol_152 rfl ?_
          refine G_iload_n 0 dr_cX14_symbol_153 rfl ?_
          refine G_if_eq 161 dr_cX14_symbol_154 (by decide +kernel) (fun hc => absurd hc (by decide)) (fun _ => ?_)
          refine G_aload_n 1 dr_cX14_symbol_157 rfl ?_
          refine G_goto 192 dr_cX14_symbol_158 (by decide +kernel) ?_
          refine Gp_put 7 hm669466 he669833 dr_cX14_symbol_192 (gk_X14 D I) (Nat.le_of_ble_eq_true rfl) wr_9_43 rfl rfl rfl (Nat.le_of_ble_eq_true rfl) (fun F669835 e669836 n669837 => ?_)
          have he669838 : F669835 q668842 = .inl (I .byte, 8192, .inl f668857) := (n669837 q668842 (rn_ao he669830 he669833)).trans he669830
          have he669839 : F669835 q669291 = .inr (0, [.ref q669292, .int 0, .int 0, .int 0]) := (n669837 q669291 (fun h => hq669314 (h ▸ hmq668841))).trans he669831
          have he669840 : F669835 q669292 = .inl (I .byte, n669293, .inl f669294) := (n669837 q669292 (fun h => hq669315 (h ▸ hmq668841))).trans he669832
          have he669841 : F669835 q668841 = .inr (19, [.ref q668842, .int p668844, .int p668845, .int 5, .int p668847, .int p668848, .int p668849, .ref q669291, .int p668851, .int p668852, .int p668853, .ref qo668854, .ref qo668855, .int p668856]) := e669836
          have hfr669842 : rFr [q668841] P668839 F668840 F669835 := rFr_put' List.mem_cons_self hfr669834 n669837
          clear he669830 he669831 he669832 he669833 hfr669834
          refine G_aload_n 2 dr_cX14_symbol_195 rfl ?_
          refine G_dup dr_cX14_symbol_196 rfl ?_
          refine Gp_get 2 hm669466 he669841 dr_cX14_symbol_197 (gk_X14 D I) (Nat.le_of_ble_eq_true rfl) wr_9_38 rfl ?_
          refine G_iload_n 0 dr_cX14_symbol_200 rfl ?_
          refine G_if_eq 208 dr_cX14_symbol_201 (by decide +kernel) (fun hc => absurd hc (by decide)) (fun _ => ?_)
          refine G_iconst 2 dr_cX14_symbol_204 (by decide +kernel) ?_
          refine G_goto 209 dr_cX14_symbol_205 (by decide +kernel) ?_
          refine G_iadd dr_cX14_symbol_209 (G_nam fun z669843 hz669843 => ?_)
          have ez669843 : z669843.toInt = p668845.toInt + 2 := by rw [gI_add hz669843 bp668845 (gBl (show Int32.toInt 2 = 2 by decide)) (by decide) (by decide), show Int32.toInt 2 = 2 from by decide]
          have bz669843 : gB z669843 2 8194 := gB_add (gI_add hz669843 bp668845 (gBl (show Int32.toInt 2 = 2 by decide)) (by decide) (by decide)) bp668845 (gBl (show Int32.toInt 2 = 2 by decide)) (by decide) (by decide)
          refine Gp_put 2 hm669466 he669841 dr_cX14_symbol_210 (gk_X14 D I) (Nat.le_of_ble_eq_true rfl) wr_9_38 rfl rfl rfl (Nat.le_of_ble_eq_true rfl) (fun F669844 e669845 n669846 => ?_)
          have he669847 : F669844 q668842 = .inl (I .byte, 8192, .inl f668857) := (n669846 q668842 (rn_ao he669838 he669841)).trans he669838
          have he669848 : F669844 q669291 = .inr (0, [.ref q669292, .int 0, .int 0, .int 0]) := (n669846 q669291 (fun h => hq669314 (h ▸ hmq668841))).trans he669839
          have he669849 : F669844 q669292 = .inl (I .byte, n669293, .inl f669294) := (n669846 q669292 (fun h => hq669315 (h ▸ hmq668841))).trans he669840
          have he669850 : F669844 q668841 = .inr (19, [.ref q668842, .int p668844, .int z669843, .int 5, .int p668847, .int p668848, .int p668849, .ref q669291, .int p668851, .int p668852, .int p668853, .ref qo668854, .ref qo668855, .int p668856]) := e669845
          have hfr669851 : rFr [q668841] P668839 F668840 F669844 := rFr_put' List.mem_cons_self hfr669842 n669846
          exact G_vretA dr_cX14_symbol_213 rfl (show 8 ≤ ((16 * (p668844.toInt - p668845.toInt)).toNat) by omega) (show 20 + (o669274.toInt.toNat + 4) + 0 + 4 + 16 + 0 + 0 + 0 + (o669426.toInt.toNat + 4) + 0 ≤ ((160 * (p668844.toInt - p668845.toInt)).toNat) by omega) ⟨P669454, F669844, z669843, 5, q669291, (n669293, f669294), rfl, rfl, hsb669474, hfr669851, he669850, he669847, (by omega), (by omega), ⟨by omega, by omega⟩, (gB_w (gBl (show Int32.toInt 5 = 5 by decide)) (by decide) (by decide)), (by have qa0 : Int32.toInt 0 = 0 := (by decide); have qa1 : Int32.toInt 1 = 1 := (by decide); have qa2 : Int32.toInt 5 = 5 := (by decide); omega), (by have qa0 : Int32.toInt 0 = 0 := (by decide); have qa1 : Int32.toInt 1 = 1 := (by decide); have qa2 : Int32.toInt 5 = 5 := (by decide); omega), (tP_5 hm669468 he669848 hm669469 he669849 bf669294 (by omega) (gB_w (gBl (show Int32.toInt 0 = 0 by decide)) (by decide) (by decide)) (fun e => hq669315 (e ▸ x668860)) (fun e => hq669315 (e ▸ x668861))), (vP_no (by decide) (by decide)), (fun R c1 c2 c3 c4 c5 c6 => c6 z669181 z669185 o669236 f669237 z669250 o669256 f669257 z669268 o669274 f669275 n669293 f669294 o669326 o669383 f669384 o669404 f669405 o669426 f669427 n669449 f669450 o669488 z669843 ez669181 r669184 hz669185 bz669185 r669188 r669191 bo669236 ht669241 hz669250 bo669256 ht669259 hz669268 bo669274 ht669277 ht669297 bo669326 ht669328 bo669383 ht669388 bo669404 ht669409 bo669426 ht669431 ht669453 bo669488 ht669491 r669826 ez669843)⟩
/- tr_RReader_isLetter2: result -/
def tr_RReader_isLetter2 (a0 : Int32) (o1 : Int32) : Prop := ∀ R : (Int32) → Prop,
  (a0.toInt < 97 → R (0 : Int32)) →
  (97 ≤ a0.toInt → 122 < a0.toInt → R (0 : Int32)) →
  (97 ≤ a0.toInt → a0.toInt ≤ 122 → R (1 : Int32)) →
  R o1
