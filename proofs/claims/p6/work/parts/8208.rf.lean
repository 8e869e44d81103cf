theorem dr_cX14_number_0 : decode cX14_number 0 = .ok (.iload_n 1, 1) := by decide +kernel
theorem dr_cX14_number_1 : decode cX14_number 1 = .ok (.ifCond .eq 13, 3) := by decide +kernel
theorem dr_cX14_number_14 : decode cX14_number 14 = .ok (.lconst 0, 1) := by decide +kernel
theorem dr_cX14_number_15 : decode cX14_number 15 = .ok (.lstore_n 2, 1) := by decide +kernel
theorem dr_cX14_number_16 : decode cX14_number 16 = .ok (.aload_n 0, 1) := by decide +kernel
theorem dr_cX14_number_17 : decode cX14_number 17 = .ok (.getfield 44, 3) := by decide +kernel
theorem wr_9_38 : (Jvm.Cond.fieldLink "SpillForgeModel$Reader" (44 : Nat) "SpillForgeModel$Reader" "at" "I") ∈ gw := gw_9 38 rfl rfl
theorem dr_cX14_number_20 : decode cX14_number 20 = .ok (.aload_n 0, 1) := by decide +kernel
theorem dr_cX14_number_21 : decode cX14_number 21 = .ok (.getfield 32, 3) := by decide +kernel
theorem wr_9_37 : (Jvm.Cond.fieldLink "SpillForgeModel$Reader" (32 : Nat) "SpillForgeModel$Reader" "n" "I") ∈ gw := gw_9 37 rfl rfl
theorem dr_cX14_number_24 : decode cX14_number 24 = .ok (.if_icmp .ge 58, 3) := by decide +kernel
theorem dr_cX14_number_82 : decode cX14_number 82 = .ok (.iload_n 1, 1) := by decide +kernel
theorem dr_cX14_number_83 : decode cX14_number 83 = .ok (.ifCond .eq 6, 3) := by decide +kernel
theorem dr_cX14_number_89 : decode cX14_number 89 = .ok (.aload_n 0, 1) := by decide +kernel
theorem dr_cX14_number_90 : decode cX14_number 90 = .ok (.lload_n 2, 1) := by decide +kernel
theorem dr_cX14_number_91 : decode cX14_number 91 = .ok (.l2i, 1) := by decide +kernel
theorem dr_cX14_number_92 : decode cX14_number 92 = .ok (.putfield 80, 3) := by decide +kernel
theorem wr_9_41 : (Jvm.Cond.fieldLink "SpillForgeModel$Reader" (80 : Nat) "SpillForgeModel$Reader" "value" "I") ∈ gw := gw_9 41 rfl rfl
theorem dr_cX14_number_95 : decode cX14_number 95 = .ok (.aload_n 0, 1) := by decide +kernel
theorem dr_cX14_number_96 : decode cX14_number 96 = .ok (.lload_n 2, 1) := by decide +kernel
theorem dr_cX14_number_97 : decode cX14_number 97 = .ok (.lload_n 2, 1) := by decide +kernel
theorem dr_cX14_number_98 : decode cX14_number 98 = .ok (.l2i, 1) := by decide +kernel
theorem dr_cX14_number_99 : decode cX14_number 99 = .ok (.i2l, 1) := by decide +kernel
theorem dr_cX14_number_100 : decode cX14_number 100 = .ok (.lcmp, 1) := by decide +kernel
theorem dr_cX14_number_101 : decode cX14_number 101 = .ok (.ifCond .ne 7, 3) := by decide +kernel
theorem dr_cX14_number_108 : decode cX14_number 108 = .ok (.bipush 6, 2) := by decide +kernel
theorem dr_cX14_number_110 : decode cX14_number 110 = .ok (.putfield 38, 3) := by decide +kernel
theorem wr_9_39 : (Jvm.Cond.fieldLink "SpillForgeModel$Reader" (38 : Nat) "SpillForgeModel$Reader" "kind" "I") ∈ gw := gw_9 39 rfl rfl
theorem dr_cX14_number_113 : decode cX14_number 113 = .ok (.return_, 1) := by decide +kernel
theorem dr_cX14_number_104 : decode cX14_number 104 = .ok (.iconst 4, 1) := by decide +kernel
theorem dr_cX14_number_105 : decode cX14_number 105 = .ok (.goto 5, 3) := by decide +kernel
theorem dr_cX14_number_27 : decode cX14_number 27 = .ok (.aload_n 0, 1) := by decide +kernel
theorem dr_cX14_number_28 : decode cX14_number 28 = .ok (.getfield 28, 3) := by decide +kernel
theorem wr_9_36 : (Jvm.Cond.fieldLink "SpillForgeModel$Reader" (28 : Nat) "SpillForgeModel$Reader" "t" "[B") ∈ gw := gw_9 36 rfl rfl
theorem dr_cX14_number_31 : decode cX14_number 31 = .ok (.aload_n 0, 1) := by decide +kernel
theorem dr_cX14_number_32 : decode cX14_number 32 = .ok (.getfield 44, 3) := by decide +kernel
theorem dr_cX14_number_35 : decode cX14_number 35 = .ok (.baload, 1) := by decide +kernel
theorem dr_cX14_number_36 : decode cX14_number 36 = .ok (.invokestatic 50, 3) := by decide +kernel
theorem wr_7_219 : (Jvm.Cond.methodLink "SpillForgeModel$Reader" (50 : Nat) ({ cls := "SpillForgeModel$Reader", name := "isDigit", desc := "(I)Z" } : Jvm.MethodName)) ∈ gw := gw_7 219 rfl rfl
theorem wr_1_32 : (Jvm.Cond.initialized "SpillForgeModel$Reader") ∈ gw := gw_1 32 rfl rfl
theorem wr_7_221 : (Jvm.Cond.code ({ cls := "SpillForgeModel$Reader", name := "isDigit", desc := "(I)Z" } : Jvm.MethodName) prog_17_method_2_code (1 : Nat) (Option.some Jvm.ClassFile.FieldType.boolean)) ∈ gw := gw_7 221 rfl rfl
theorem wr_7_220 : (Jvm.Cond.static ({ cls := "SpillForgeModel$Reader", name := "isDigit", desc := "(I)Z" } : Jvm.MethodName)) ∈ gw := gw_7 220 rfl rfl
theorem dr_cX14_number_39 : decode cX14_number 39 = .ok (.ifCond .eq 43, 3) := by decide +kernel
theorem dr_cX14_number_42 : decode cX14_number 42 = .ok (.lload_n 2, 1) := by decide +kernel
theorem dr_cX14_number_43 : decode cX14_number 43 = .ok (.ldc2_w 68, 3) := by decide +kernel
theorem wr_7_229 : (Jvm.Cond.constantLong "SpillForgeModel$Reader" (68 : Nat) (10 : Int64)) ∈ gw := gw_7 229 rfl rfl
theorem dr_cX14_number_46 : decode cX14_number 46 = .ok (.lmul, 1) := by decide +kernel
theorem dr_cX14_number_47 : decode cX14_number 47 = .ok (.aload_n 0, 1) := by decide +kernel
theorem dr_cX14_number_48 : decode cX14_number 48 = .ok (.getfield 28, 3) := by decide +kernel
theorem dr_cX14_number_51 : decode cX14_number 51 = .ok (.aload_n 0, 1) := by decide +kernel
theorem dr_cX14_number_52 : decode cX14_number 52 = .ok (.getfield 44, 3) := by decide +kernel
theorem dr_cX14_number_55 : decode cX14_number 55 = .ok (.baload, 1) := by decide +kernel
theorem dr_cX14_number_56 : decode cX14_number 56 = .ok (.i2l, 1) := by decide +kernel
theorem dr_cX14_number_57 : decode cX14_number 57 = .ok (.ladd, 1) := by decide +kernel
theorem dr_cX14_number_58 : decode cX14_number 58 = .ok (.ldc2_w 70, 3) := by decide +kernel
theorem wr_7_230 : (Jvm.Cond.constantLong "SpillForgeModel$Reader" (70 : Nat) (48 : Int64)) ∈ gw := gw_7 230 rfl rfl
theorem dr_cX14_number_61 : decode cX14_number 61 = .ok (.lsub, 1) := by decide +kernel
theorem dr_cX14_number_62 : decode cX14_number 62 = .ok (.ldc2_w 111, 3) := by decide +kernel
theorem wr_8_222 : (Jvm.Cond.constantLong "SpillForgeModel$Reader" (111 : Nat) (1099511627776 : Int64)) ∈ gw := gw_8 222 rfl rfl
theorem dr_cX14_number_65 : decode cX14_number 65 = .ok (.invokestatic 74, 3) := by decide +kernel
theorem wr_7_232 : (Jvm.Cond.methodLink "SpillForgeModel$Reader" (74 : Nat) ({ cls := "java/lang/Math", name := "min", desc := "(JJ)J" } : Jvm.MethodName)) ∈ gw := gw_7 232 rfl rfl
theorem wr_3_40 : (Jvm.Cond.code ({ cls := "java/lang/Math", name := "min", desc := "(JJ)J" } : Jvm.MethodName) prog_32_method_70_code (4 : Nat) (Option.some Jvm.ClassFile.FieldType.long)) ∈ gw := gw_3 40 rfl rfl
theorem wr_3_39 : (Jvm.Cond.static ({ cls := "java/lang/Math", name := "min", desc := "(JJ)J" } : Jvm.MethodName)) ∈ gw := gw_3 39 rfl rfl
theorem dr_cX14_number_68 : decode cX14_number 68 = .ok (.lstore_n 2, 1) := by decide +kernel
theorem dr_cX14_number_69 : decode cX14_number 69 = .ok (.aload_n 0, 1) := by decide +kernel
theorem dr_cX14_number_70 : decode cX14_number 70 = .ok (.dup, 1) := by decide +kernel
theorem dr_cX14_number_71 : decode cX14_number 71 = .ok (.getfield 44, 3) := by decide +kernel
theorem dr_cX14_number_74 : decode cX14_number 74 = .ok (.iconst 1, 1) := by decide +kernel
theorem dr_cX14_number_75 : decode cX14_number 75 = .ok (.iadd, 1) := by decide +kernel
theorem dr_cX14_number_76 : decode cX14_number 76 = .ok (.putfield 44, 3) := by decide +kernel
theorem dr_cX14_number_79 : decode cX14_number 79 = .ok (.goto (-63), 3) := by decide +kernel
theorem dr_cX14_number_4 : decode cX14_number 4 = .ok (.aload_n 0, 1) := by decide +kernel
theorem dr_cX14_number_5 : decode cX14_number 5 = .ok (.dup, 1) := by decide +kernel
theorem dr_cX14_number_6 : decode cX14_number 6 = .ok (.getfield 44, 3) := by decide +kernel
theorem dr_cX14_number_9 : decode cX14_number 9 = .ok (.iconst 1, 1) := by decide +kernel
theorem dr_cX14_number_10 : decode cX14_number 10 = .ok (.iadd, 1) := by decide +kernel
theorem dr_cX14_number_11 : decode cX14_number 11 = .ok (.putfield 44, 3) := by decide +kernel
theorem dr_cX14_number_86 : decode cX14_number 86 = .ok (.lload_n 2, 1) := by decide +kernel
theorem dr_cX14_number_87 : decode cX14_number 87 = .ok (.lneg, 1) := by decide +kernel
theorem dr_cX14_number_88 : decode cX14_number 88 = .ok (.lstore_n 2, 1) := by decide +kernel
theorem dr_cX14_symbol_73 : decode cX14_symbol 73 = .ok (.ldc 9, 2) := by decide +kernel
theorem dr_cX14_symbol_75 : decode cX14_symbol 75 = .ok (.astore_n 2, 1) := by decide +kernel
theorem dr_cX14_symbol_76 : decode cX14_symbol 76 = .ok (.aload_n 2, 1) := by decide +kernel
theorem dr_cX14_symbol_77 : decode cX14_symbol 77 = .ok (.invokevirtual 113, 3) := by decide +kernel
theorem wr_8_227 : (Jvm.Cond.methodLink "SpillForgeModel$Reader" (113 : Nat) ({ cls := "java/lang/String", name := "length", desc := "()I" } : Jvm.MethodName)) ∈ gw := gw_8 227 rfl rfl
theorem dr_cX14_symbol_80 : decode cX14_symbol 80 = .ok (.iconst 2, 1) := by decide +kernel
theorem dr_cX14_symbol_81 : decode cX14_symbol 81 = .ok (.if_icmp .ne 39, 3) := by decide +kernel
theorem dr_cX14_symbol_120 : decode cX14_symbol 120 = .ok (.iconst 0, 1) := by decide +kernel
theorem dr_cX14_symbol_121 : decode cX14_symbol 121 = .ok (.istore_n 3, 1) := by decide +kernel
theorem dr_cX14_symbol_122 : decode cX14_symbol 122 = .ok (.aload_n 0, 1) := by decide +kernel
theorem dr_cX14_symbol_123 : decode cX14_symbol 123 = .ok (.iload_n 3, 1) := by decide +kernel
theorem dr_cX14_symbol_124 : decode cX14_symbol 124 = .ok (.ifCond .ne 19, 3) := by decide +kernel
theorem dr_cX14_symbol_127 : decode cX14_symbol 127 = .ok (.iload_n 1, 1) := by decide +kernel
theorem dr_cX14_symbol_128 : decode cX14_symbol 128 = .ok (.bipush 32, 2) := by decide +kernel
theorem dr_cX14_symbol_130 : decode cX14_symbol 130 = .ok (.if_icmp .le 17, 3) := by decide +kernel
theorem dr_cX14_symbol_147 : decode cX14_symbol 147 = .ok (.bipush 6, 2) := by decide +kernel
theorem dr_cX14_symbol_149 : decode cX14_symbol 149 = .ok (.putfield 38, 3) := by decide +kernel
theorem dr_cX14_symbol_152 : decode cX14_symbol 152 = .ok (.aload_n 0, 1) := by decide +kernel
theorem dr_cX14_symbol_153 : decode cX14_symbol 153 = .ok (.iload_n 3, 1) := by decide +kernel
theorem dr_cX14_symbol_154 : decode cX14_symbol 154 = .ok (.ifCond .eq 7, 3) := by decide +kernel
theorem dr_cX14_symbol_161 : decode cX14_symbol 161 = .ok (.iload_n 1, 1) := by decide +kernel
theorem dr_cX14_symbol_162 : decode cX14_symbol 162 = .ok (.bipush 32, 2) := by decide +kernel
theorem dr_cX14_symbol_164 : decode cX14_symbol 164 = .ok (.if_icmp .le 26, 3) := by decide +kernel
theorem dr_cX14_symbol_190 : decode cX14_symbol 190 = .ok (.ldc 9, 2) := by decide +kernel
theorem dr_cX14_symbol_192 : decode cX14_symbol 192 = .ok (.putfield 11, 3) := by decide +kernel
theorem wr_9_43 : (Jvm.Cond.fieldLink "SpillForgeModel$Reader" (11 : Nat) "SpillForgeModel$Reader" "text" "Ljava/lang/String;") ∈ gw := gw_9 43 rfl rfl
theorem dr_cX14_symbol_195 : decode cX14_symbol 195 = .ok (.aload_n 0, 1) := by decide +kernel
theorem dr_cX14_symbol_196 : decode cX14_symbol 196 = .ok (.dup, 1) := by decide +kernel
theorem dr_cX14_symbol_197 : decode cX14_symbol 197 = .ok (.getfield 44, 3) := by decide +kernel
theorem dr_cX14_symbol_200 : decode cX14_symbol 200 = .ok (.iload_n 3, 1) := by decide +kernel
theorem dr_cX14_symbol_201 : decode cX14_symbol 201 = .ok (.ifCond .eq 7, 3) := by decide +kernel
theorem dr_cX14_symbol_208 : decode cX14_symbol 208 = .ok (.iconst 1, 1) := by decide +kernel
theorem dr_cX14_symbol_209 : decode cX14_symbol 209 = .ok (.iadd, 1) := by decide +kernel
theorem dr_cX14_symbol_210 : decode cX14_symbol 210 = .ok (.putfield 44, 3) := by decide +kernel
theorem dr_cX14_symbol_213 : decode cX14_symbol 213 = .ok (.return_, 1) := by decide +kernel
theorem dr_cX14_symbol_133 : decode cX14_symbol 133 = .ok (.ldc 119, 2) := by decide +kernel
theorem dr_cX14_symbol_135 : decode cX14_symbol 135 = .ok (.iload_n 1, 1) := by decide +kernel
theorem dr_cX14_symbol_136 : decode cX14_symbol 136 = .ok (.i2c, 1) := by decide +kernel
theorem dr_cX14_symbol_137 : decode cX14_symbol 137 = .ok (.invokevirtual 121, 3) := by decide +kernel
theorem wr_8_230 : (Jvm.Cond.methodLink "SpillForgeModel$Reader" (121 : Nat) ({ cls := "java/lang/String", name := "indexOf", desc := "(I)I" } : Jvm.MethodName)) ∈ gw := gw_8 230 rfl rfl
theorem wr_8_233 : (Jvm.Cond.code ({ cls := "java/lang/String", name := "indexOf", desc := "(I)I" } : Jvm.MethodName) prog_34_method_79_code (2 : Nat) (Option.some Jvm.ClassFile.FieldType.int)) ∈ gw := gw_8 233 rfl rfl
theorem wr_8_231 : (Jvm.Cond.instanceMethod ({ cls := "java/lang/String", name := "indexOf", desc := "(I)I" } : Jvm.MethodName)) ∈ gw := gw_8 231 rfl rfl
theorem wr_8_232 : (Jvm.Cond.selects "java/lang/String" ({ cls := "java/lang/String", name := "indexOf", desc := "(I)I" } : Jvm.MethodName) ({ cls := "java/lang/String", name := "indexOf", desc := "(I)I" } : Jvm.MethodName)) ∈ gw := gw_8 232 rfl rfl
theorem dr_cX14_symbol_140 : decode cX14_symbol 140 = .ok (.ifCond .lt 7, 3) := by decide +kernel
theorem dr_cX14_symbol_167 : decode cX14_symbol 167 = .ok (.new 87, 3) := by decide +kernel
theorem wr_7_235 : (Jvm.Cond.classLink "SpillForgeModel$Reader" (87 : Nat) "java/lang/StringBuilder") ∈ gw := gw_7 235 rfl rfl
theorem dr_cX14_symbol_170 : decode cX14_symbol 170 = .ok (.dup, 1) := by decide +kernel
theorem dr_cX14_symbol_171 : decode cX14_symbol 171 = .ok (.invokespecial 89, 3) := by decide +kernel
theorem wr_7_236 : (Jvm.Cond.methodLink "SpillForgeModel$Reader" (89 : Nat) ({ cls := "java/lang/StringBuilder", name := "<init>", desc := "()V" } : Jvm.MethodName)) ∈ gw := gw_7 236 rfl rfl
theorem wr_7_47 : (Jvm.Cond.code ({ cls := "java/lang/StringBuilder", name := "<init>", desc := "()V" } : Jvm.MethodName) prog_35_method_1_code (1 : Nat) (Option.none : Option Jvm.ClassFile.FieldType)) ∈ gw := gw_7 47 rfl rfl
theorem wr_7_46 : (Jvm.Cond.instanceMethod ({ cls := "java/lang/StringBuilder", name := "<init>", desc := "()V" } : Jvm.MethodName)) ∈ gw := gw_7 46 rfl rfl
theorem dr_cX14_symbol_174 : decode cX14_symbol 174 = .ok (.ldc 9, 2) := by decide +kernel
theorem dr_cX14_symbol_176 : decode cX14_symbol 176 = .ok (.invokevirtual 102, 3) := by decide +kernel
theorem wr_8_195 : (Jvm.Cond.methodLink "SpillForgeModel$Reader" (102 : Nat) ({ cls := "java/lang/StringBuilder", name := "append", desc := "(Ljava/lang/String;)Ljava/lang/StringBuilder;" } : Jvm.MethodName)) ∈ gw := gw_8 195 rfl rfl
theorem wr_8_143 : (Jvm.Cond.code ({ cls := "java/lang/StringBuilder", name := "append", desc := "(Ljava/lang/String;)Ljava/lang/StringBuilder;" } : Jvm.MethodName) prog_35_method_7_code (2 : Nat) (Option.some (Jvm.ClassFile.FieldType.object "java/lang/StringBuilder"))) ∈ gw := gw_8 143 rfl rfl
theorem wr_8_141 : (Jvm.Cond.instanceMethod ({ cls := "java/lang/StringBuilder", name := "append", desc := "(Ljava/lang/String;)Ljava/lang/StringBuilder;" } : Jvm.MethodName)) ∈ gw := gw_8 141 rfl rfl
theorem wr_8_142 : (Jvm.Cond.selects "java/lang/StringBuilder" ({ cls := "java/lang/StringBuilder", name := "append", desc := "(Ljava/lang/String;)Ljava/lang/StringBuilder;" } : Jvm.MethodName) ({ cls := "java/lang/StringBuilder", name := "append", desc := "(Ljava/lang/String;)Ljava/lang/StringBuilder;" } : Jvm.MethodName)) ∈ gw := gw_8 142 rfl rfl
theorem dr_cX14_symbol_179 : decode cX14_symbol 179 = .ok (.iload_n 1, 1) := by decide +kernel
theorem dr_cX14_symbol_180 : decode cX14_symbol 180 = .ok (.i2c, 1) := by decide +kernel
theorem dr_cX14_symbol_181 : decode cX14_symbol 181 = .ok (.invokevirtual 90, 3) := by decide +kernel
theorem wr_7_237 : (Jvm.Cond.methodLink "SpillForgeModel$Reader" (90 : Nat) ({ cls := "java/lang/StringBuilder", name := "append", desc := "(C)Ljava/lang/StringBuilder;" } : Jvm.MethodName)) ∈ gw := gw_7 237 rfl rfl
theorem wr_8_0 : (Jvm.Cond.code ({ cls := "java/lang/StringBuilder", name := "append", desc := "(C)Ljava/lang/StringBuilder;" } : Jvm.MethodName) prog_35_method_14_code (2 : Nat) (Option.some (Jvm.ClassFile.FieldType.object "java/lang/StringBuilder"))) ∈ gw := gw_8 0 rfl rfl
theorem wr_7_238 : (Jvm.Cond.instanceMethod ({ cls := "java/lang/StringBuilder", name := "append", desc := "(C)Ljava/lang/StringBuilder;" } : Jvm.MethodName)) ∈ gw := gw_7 238 rfl rfl
theorem wr_7_239 : (Jvm.Cond.selects "java/lang/StringBuilder" ({ cls := "java/lang/StringBuilder", name := "append", desc := "(C)Ljava/lang/StringBuilder;" } : Jvm.MethodName) ({ cls := "java/lang/StringBuilder", name := "append", desc := "(C)Ljava/lang/StringBuilder;" } : Jvm.MethodName)) ∈ gw := gw_7 239 rfl rfl
theorem dr_cX14_symbol_184 : decode cX14_symbol 184 = .ok (.invokevirtual 94, 3) := by decide +kernel
theorem wr_8_66 : (Jvm.Cond.methodLink "SpillForgeModel$Reader" (94 : Nat) ({ cls := "java/lang/StringBuilder", name := "toString", desc := "()Ljava/lang/String;" } : Jvm.MethodName)) ∈ gw := gw_8 66 rfl rfl
theorem wr_8_69 : (Jvm.Cond.code ({ cls := "java/lang/StringBuilder", name := "toString", desc := "()Ljava/lang/String;" } : Jvm.MethodName) prog_35_method_42_code (1 : Nat) (Option.some (Jvm.ClassFile.FieldType.object "java/lang/String"))) ∈ gw := gw_8 69 rfl rfl
theorem wr_8_67 : (Jvm.Cond.instanceMethod ({ cls := "java/lang/StringBuilder", name := "toString", desc := "()Ljava/lang/String;" } : Jvm.MethodName)) ∈ gw := gw_8 67 rfl rfl
theorem wr_8_68 : (Jvm.Cond.selects "java/lang/StringBuilder" ({ cls := "java/lang/StringBuilder", name := "toString", desc := "()Ljava/lang/String;" } : Jvm.MethodName) ({ cls := "java/lang/StringBuilder", name := "toString", desc := "()Ljava/lang/String;" } : Jvm.MethodName)) ∈ gw := gw_8 68 rfl rfl
theorem dr_cX14_symbol_187 : decode cX14_symbol 187 = .ok (.goto 5, 3) := by decide +kernel
theorem dr_cX14_symbol_143 : decode cX14_symbol 143 = .ok (.iconst 5, 1) := by decide +kernel
theorem dr_cX14_symbol_144 : decode cX14_symbol 144 = .ok (.goto 5, 3) := by decide +kernel
theorem dr_cX14_symbol_0 : decode cX14_symbol 0 = .ok (.aload_n 0, 1) := by decide +kernel
theorem dr_cX14_symbol_1 : decode cX14_symbol 1 = .ok (.getfield 44, 3) := by decide +kernel
theorem dr_cX14_symbol_4 : decode cX14_symbol 4 = .ok (.iconst 1, 1) := by decide +kernel
theorem dr_cX14_symbol_5 : decode cX14_symbol 5 = .ok (.iadd, 1) := by decide +kernel
theorem dr_cX14_symbol_6 : decode cX14_symbol 6 = .ok (.aload_n 0, 1) := by decide +kernel
theorem dr_cX14_symbol_7 : decode cX14_symbol 7 = .ok (.getfield 32, 3) := by decide +kernel
theorem dr_cX14_symbol_10 : decode cX14_symbol 10 = .ok (.if_icmp .ge 63, 3) := by decide +kernel
theorem dr_cX14_symbol_13 : decode cX14_symbol 13 = .ok (.aload_n 0, 1) := by decide +kernel
theorem dr_cX14_symbol_14 : decode cX14_symbol 14 = .ok (.getfield 28, 3) := by decide +kernel
theorem dr_cX14_symbol_17 : decode cX14_symbol 17 = .ok (.aload_n 0, 1) := by decide +kernel
theorem dr_cX14_symbol_18 : decode cX14_symbol 18 = .ok (.getfield 44, 3) := by decide +kernel
theorem dr_cX14_symbol_21 : decode cX14_symbol 21 = .ok (.iconst 1, 1) := by decide +kernel
theorem dr_cX14_symbol_22 : decode cX14_symbol 22 = .ok (.iadd, 1) := by decide +kernel
theorem dr_cX14_symbol_23 : decode cX14_symbol 23 = .ok (.baload, 1) := by decide +kernel
theorem dr_cX14_symbol_24 : decode cX14_symbol 24 = .ok (.bipush 32, 2) := by decide +kernel
theorem dr_cX14_symbol_26 : decode cX14_symbol 26 = .ok (.if_icmp .le 47, 3) := by decide +kernel
theorem dr_cX14_symbol_29 : decode cX14_symbol 29 = .ok (.iload_n 1, 1) := by decide +kernel
theorem dr_cX14_symbol_30 : decode cX14_symbol 30 = .ok (.bipush 32, 2) := by decide +kernel
theorem dr_cX14_symbol_32 : decode cX14_symbol 32 = .ok (.if_icmp .le 41, 3) := by decide +kernel
theorem dr_cX14_symbol_35 : decode cX14_symbol 35 = .ok (.new 87, 3) := by decide +kernel
theorem dr_cX14_symbol_38 : decode cX14_symbol 38 = .ok (.dup, 1) := by decide +kernel
theorem dr_cX14_symbol_39 : decode cX14_symbol 39 = .ok (.invokespecial 89, 3) := by decide +kernel
theorem dr_cX14_symbol_42 : decode cX14_symbol 42 = .ok (.ldc 9, 2) := by decide +kernel
theorem dr_cX14_symbol_44 : decode cX14_symbol 44 = .ok (.invokevirtual 102, 3) := by decide +kernel
theorem dr_cX14_symbol_47 : decode cX14_symbol 47 = .ok (.iload_n 1, 1) := by decide +kernel
theorem dr_cX14_symbol_48 : decode cX14_symbol 48 = .ok (.i2c, 1) := by decide +kernel
theorem dr_cX14_symbol_49 : decode cX14_symbol 49 = .ok (.invokevirtual 90, 3) := by decide +kernel
theorem dr_cX14_symbol_52 : decode cX14_symbol 52 = .ok (.aload_n 0, 1) := by decide +kernel
theorem dr_cX14_symbol_53 : decode cX14_symbol 53 = .ok (.getfield 28, 3) := by decide +kernel
theorem dr_cX14_symbol_56 : decode cX14_symbol 56 = .ok (.aload_n 0, 1) := by decide +kernel
theorem dr_cX14_symbol_57 : decode cX14_symbol 57 = .ok (.getfield 44, 3) := by decide +kernel
theorem dr_cX14_symbol_60 : decode cX14_symbol 60 = .ok (.iconst 1, 1) := by decide +kernel
theorem dr_cX14_symbol_61 : decode cX14_symbol 61 = .ok (.iadd, 1) := by decide +kernel
theorem dr_cX14_symbol_62 : decode cX14_symbol 62 = .ok (.baload, 1) := by decide +kernel
theorem dr_cX14_symbol_63 : decode cX14_symbol 63 = .ok (.i2c, 1) := by decide +kernel
theorem dr_cX14_symbol_64 : decode cX14_symbol 64 = .ok (.invokevirtual 90, 3) := by decide +kernel
theorem dr_cX14_symbol_67 : decode cX14_symbol 67 = .ok (.invokevirtual 94, 3) := by decide +kernel
theorem dr_cX14_symbol_70 : decode cX14_symbol 70 = .ok (.goto 5, 3) := by decide +kernel
theorem dr_cX14_symbol_84 : decode cX14_symbol 84 = .ok (.ldc 117, 2) := by decide +kernel
theorem dr_cX14_symbol_86 : decode cX14_symbol 86 = .ok (.new 87, 3) := by decide +kernel
theorem dr_cX14_symbol_89 : decode cX14_symbol 89 = .ok (.dup, 1) := by decide +kernel
theorem dr_cX14_symbol_90 : decode cX14_symbol 90 = .ok (.invokespecial 89, 3) := by decide +kernel
theorem dr_cX14_symbol_93 : decode cX14_symbol 93 = .ok (.ldc 100, 2) := by decide +kernel
theorem dr_cX14_symbol_95 : decode cX14_symbol 95 = .ok (.invokevirtual 102, 3) := by decide +kernel
theorem dr_cX14_symbol_98 : decode cX14_symbol 98 = .ok (.aload_n 2, 1) := by decide +kernel
theorem dr_cX14_symbol_99 : decode cX14_symbol 99 = .ok (.invokevirtual 102, 3) := by decide +kernel
theorem dr_cX14_symbol_102 : decode cX14_symbol 102 = .ok (.ldc 100, 2) := by decide +kernel
theorem dr_cX14_symbol_104 : decode cX14_symbol 104 = .ok (.invokevirtual 102, 3) := by decide +kernel
theorem dr_cX14_symbol_107 : decode cX14_symbol 107 = .ok (.invokevirtual 94, 3) := by decide +kernel
theorem dr_cX14_symbol_110 : decode cX14_symbol 110 = .ok (.invokevirtual 105, 3) := by decide +kernel
theorem wr_8_196 : (Jvm.Cond.methodLink "SpillForgeModel$Reader" (105 : Nat) ({ cls := "java/lang/String", name := "indexOf", desc := "(Ljava/lang/String;)I" } : Jvm.MethodName)) ∈ gw := gw_8 196 rfl rfl
theorem wr_8_199 : (Jvm.Cond.code ({ cls := "java/lang/String", name := "indexOf", desc := "(Ljava/lang/String;)I" } : Jvm.MethodName) prog_34_method_84_code (3 : Nat) (Option.some Jvm.ClassFile.FieldType.int)) ∈ gw := gw_8 199 rfl rfl
theorem wr_8_197 : (Jvm.Cond.instanceMethod ({ cls := "java/lang/String", name := "indexOf", desc := "(Ljava/lang/String;)I" } : Jvm.MethodName)) ∈ gw := gw_8 197 rfl rfl
theorem wr_8_198 : (Jvm.Cond.selects "java/lang/String" ({ cls := "java/lang/String", name := "indexOf", desc := "(Ljava/lang/String;)I" } : Jvm.MethodName) ({ cls := "java/lang/String", name := "indexOf", desc := "(Ljava/lang/String;)I" } : Jvm.MethodName)) ∈ gw := gw_8 198 rfl rfl
theorem dr_cX14_symbol_113 : decode cX14_symbol 113 = .ok (.ifCond .lt 7, 3) := by decide +kernel
theorem dr_cX14_symbol_116 : decode cX14_symbol 116 = .ok (.iconst 1, 1) := by decide +kernel
theorem dr_cX14_symbol_117 : decode cX14_symbol 117 = .ok (.goto 4, 3) := by decide +kernel
theorem dr_cX14_symbol_157 : decode cX14_symbol 157 = .ok (.aload_n 2, 1) := by decide +kernel
theorem dr_cX14_symbol_158 : decode cX14_symbol 158 = .ok (.goto 34, 3) := by decide +kernel
theorem dr_cX14_symbol_204 : decode cX14_symbol 204 = .ok (.iconst 2, 1) := by decide +kernel
theorem dr_cX14_symbol_205 : decode cX14_symbol 205 = .ok (.goto 4, 3) := by decide +kernel
abbrev ky_668076_Reader_number : gKey := (cX14_number, 4, "SpillForgeModel$Reader", none, [], "number", fun _ _ => True)
def pp_668076_Reader_number (D : va_G) (I : FieldType → ClassId) (P668052 : List Nat) (F668053 : Nat → va_E) (q668054 : Nat) (q668055 : Nat) (p668056 : Int32) (p668057 : Int32) (p668058 : Int32) (p668059 : Int32) (p668060 : Int32) (p668061 : Int32) (p668062 : Int32) (qo668063 : Nat) (p668064 : Int32) (p668065 : Int32) (p668066 : Int32) (qo668067 : Nat) (qo668068 : Nat) (p668069 : Int32) (f668070 : Nat → Int32) : Option Value → va_W → Nat → Nat → Prop := fun r w dc ds => ∃ (F668674 : Nat → va_E) (o668670 : Int32) (o668671 : Int32) (o668672 : Int32) (xt668675 : gTx), r = none ∧ w = va_pl P668052 F668674 ∧ rFr [q668054] P668052 F668053 F668674 ∧ F668674 q668054 = .inr (19, [.ref q668055, .int p668057, .int o668670, .int o668671, .int p668060, .int o668672, .int p668062, .ref qo668063, .int p668064, .int p668065, .int p668066, .ref qo668067, .ref qo668068, .int p668069]) ∧ F668674 q668055 = .inl (I .byte, 8192, .inl f668070) ∧ dc ≤ (16 * (o668670.toInt - p668058.toInt)).toNat ∧ ds ≤ (160 * (o668670.toInt - p668058.toInt)).toNat ∧ gB o668670 0 8192 ∧ gB o668671 4 6 ∧ p668058.toInt < o668670.toInt ∧ o668670.toInt ≤ p668057.toInt ∧ tP I P668052 F668674 o668671 qo668063 qo668068 qo668067 xt668675 ∧ vP o668671 o668672 ∧ tr_RReader_number p668056 p668057 p668058 f668070 o668670 o668671 o668672 xt668675
set_option maxRecDepth 100000 in
set_option maxHeartbeats 4000000 in
theorem cp_668076_Reader_number (l : Launch) (hl0 : l.stackTraces = false) (D : va_G) (I : FieldType → ClassId) (P668052 : List Nat) (F668053 : Nat → va_E) (q668054 : Nat) (q668055 : Nat) (p668056 : Int32) (p668057 : Int32) (p668058 : Int32) (p668059 : Int32) (p668060 : Int32) (p668061 : Int32) (p668062 : Int32) (qo668063 : Nat) (p668064 : Int32) (p668065 : Int32) (p668066 : Int32) (qo668067 : Nat) (qo668068 : Nat) (p668069 : Int32) (f668070 : Nat → Int32) (hmq668054 : q668054 ∈ P668052) (hmq668055 : q668055 ∈ P668052) (heq668054 : F668053 q668054 = .inr (19, [.ref q668055, .int p668057, .int p668058, .int p668059, .int p668060, .int p668061, .int p668062, .ref qo668063, .int p668064, .int p668065, .int p668066, .ref qo668067, .ref qo668068, .int p668069])) (heq668055 : F668053 q668055 = .inl (I .byte, 8192, .inl f668070)) (bp668056 : gB p668056 0 1) (bp668057 : gB p668057 0 8192) (bp668058 : gB p668058 0 8192) (bp668059 : gB p668059 0 6) (bp668060 : gB p668060 0 8192) (bp668062 : gB p668062 0 6) (bp668064 : gB p668064 (-1) 8192) (bp668065 : gB p668065 0 4) (bp668066 : gB p668066 0 1000000) (bp668069 : gB p668069 0 1000000) (bf668070 : gF f668070 (-128) 127) (x668071 : p668058.toInt ≤ p668057.toInt) (x668072 : p668058.toInt < p668057.toInt) (x668073 : cDg f668070 p668058 p668056) (x668074 : qo668068 ∈ P668052) (x668075 : qo668067 ∈ P668052) : CtA (gV D I) l yX14_number cX14_number 4 none 1 23 ((16 * (p668057.toInt - p668058.toInt)).toNat) ((160 * (p668057.toInt - p668058.toInt)).toNat) [.ref q668054, .int p668056] (va_pl P668052 F668053) (pp_668076_Reader_number D I P668052 F668053 q668054 q668055 p668056 p668057 p668058 p668059 p668060 p668061 p668062 qo668063 p668064 p668065 p668066 qo668067 qo668068 p668069 f668070) gNA := by
  refine CtA_of hl0 (by decide) (Nat.le_of_ble_eq_true rfl) ?_
  have bp668061 := gB_any p668061
  refine G_iload_n 1 dr_cX14_number_0 rfl ?_
  refine G_if_eq 14 dr_cX14_number_1 (by decide +kernel) (fun hc668077 => ?_) (fun hc668077 => ?_)
  · have r668078 : p668056.toInt = 0 := gj_eq hc668077 (show Int32.toInt 0 = 0 by decide)
    have bp668056' : gB p668056 0 0 := ⟨by omega, by omega⟩
    refine G_lconst 0 dr_cX14_number_14 rfl ?_
    refine G_lstore_n (L' := [(2, .long 0), (0, .ref q668054), (1, .int p668056)]) dr_cX14_number_15 (Nat.le_of_ble_eq_true rfl) rfl ?_
    have hlp16_668288 : ∀ (n16_668288 : Nat) (F668282 : Nat → va_E) (gl668280 : Int64) (g668281 : Int32), gB g668281 0 8192 → rFr [q668054] P668052 F668053 F668282 → F668282 q668054 = .inr (19, [.ref q668055, .int p668057, .int g668281, .int p668059, .int p668060, .int p668061, .int p668062, .ref qo668063, .int p668064, .int p668065, .int p668066, .ref qo668067, .ref qo668068, .int p668069]) → F668282 q668055 = .inl (I .byte, 8192, .inl f668070) → p668058.toInt ≤ g668281.toInt → g668281.toInt ≤ p668057.toInt → (p668056.toInt = 0 ∨ p668058.toInt < g668281.toInt) → (∀ (k : Nat) (e1 : Int64) (e2 : Int32), tl_RReader_number_16 p668057 f668070 gl668280 g668281 k e1 e2 → tl_RReader_number_16 p668057 f668070 (0 : Int64) p668058 k e1 e2) → ((8193 : Int) - g668281.toInt).toNat < n16_668288 → G (gV D I) l (gRm 1 23 ((16 * (p668057.toInt - p668058.toInt)).toNat) ((160 * (p668057.toInt - p668058.toInt)).toNat)) (gMA (gV D I) (pp_668076_Reader_number D I P668052 F668053 q668054 q668055 p668056 p668057 p668058 p668059 p668060 p668061 p668062 qo668063 p668064 p668065 p668066 qo668067 qo668068 p668069 f668070) gNA ((16 * (p668057.toInt - p668058.toInt)).toNat) ((160 * (p668057.toInt - p668058.toInt)).toNat)) ky_668076_Reader_number 16 [(2, .long gl668280), (0, .ref q668054), (1, .int p668056)] [] (va_pl P668052 F668282) 0 0 := by
      intro n16_668288
      induction n16_668288 with
      | zero => intro F668282 gl668280 g668281 bg668281 hfr668285 he668283 he668284 x668286 x668287 x668288 kt16_668288 hm16_668288; exact absurd hm16_668288 (Nat.not_lt_zero _)
      | succ n16_668288 ih16_668288 =>
        intro F668282 gl668280 g668281 bg668281 hfr668285 he668283 he668284 x668286 x668287 x668288 kt16_668288 hm16_668288
        refine G_aload_n 1 dr_cX14_number_16 rfl ?_
        refine Gp_get 2 hmq668054 he668283 dr_cX14_number_17 (gk_X14 D I) (Nat.le_of_ble_eq_true rfl) wr_9_38 rfl ?_
        refine G_aload_n 1 dr_cX14_number_20 rfl ?_
        refine Gp_get 1 hmq668054 he668283 dr_cX14_number_21 (gk_X14 D I) (Nat.le_of_ble_eq_true rfl) wr_9_37 rfl ?_
        refine G_icmp_ge 82 dr_cX14_number_24 (by decide +kernel) (fun hc668289 => ?_) (fun hc668289 => ?_)
        · have r668290 : p668057.toInt ≤ g668281.toInt := gC_le hc668289
          have hx668291 : tl_RReader_number_16 p668057 f668070 (0 : Int64) p668058 82 gl668280 g668281 := kt16_668288 82 gl668280 g668281 (fun R c1 c2 c3 => c1 gl668280 g668281 bg668281 r668290)
          have x668292 : p668058.toInt < g668281.toInt := by first | omega | exact cDg_lt x668073 (by omega) (by assumption) (isP_0 (by assumption) (by omega)) (by omega)
          refine G_iload_n 2 dr_cX14_number_82 rfl ?_
          refine G_if_eq 89 dr_cX14_number_83 (by decide +kernel) (fun _ => ?_) (fun hc => absurd (show False by have := gj_neq hc (show Int32.toInt 0 = 0 by decide); omega) not_false)
          refine G_aload_n 1 dr_cX14_number_89 rfl ?_
          refine G_lload_n 0 dr_cX14_number_90 rfl ?_
          refine G_l2i dr_cX14_number_91 (G_nam fun z668293 hz668293 => ?_)
          have bz668293 : gB z668293 (-2147483648) 2147483647 := gB_any z668293
          refine Gp_put 5 hmq668054 he668283 dr_cX14_number_92 (gk_X14 D I) (Nat.le_of_ble_eq_true rfl) wr_9_41 rfl rfl rfl (Nat.le_of_ble_eq_true rfl) (fun F668294 e668295 n668296 => ?_)
          have he668297 : F668294 q668055 = .inl (I .byte, 8192, .inl f668070) := (n668296 q668055 (rn_ao he668284 he668283)).trans he668284
          have he668298 : F668294 q668054 = .inr (19, [.ref q668055, .int p668057, .int g668281, .int p668059, .int p668060, .int z668293, .int p668062, .ref qo668063, .int p668064, .int p668065, .int p668066, .ref qo668067, .ref qo668068, .int p668069]) := e668295
          have hfr668299 : rFr [q668054] P668052 F668053 F668294 := rFr_put' List.mem_cons_self hfr668285 n668296
          refine G_aload_n 1 dr_cX14_number_95 rfl ?_
          refine G_lload_n 0 dr_cX14_number_96 rfl ?_
          refine G_lload_n 0 dr_cX14_number_97 rfl ?_
          refine G_l2i dr_cX14_number_98 (G_nam fun z668300 hz668300 => ?_)
          have bz668300 : gB z668300 (-2147483648) 2147483647 := gB_any z668300
          refine G_i2l dr_cX14_number_99 (G_namL fun u668301 hu668301 => ?_)
          refine G_lcmp dr_cX14_number_100 (G_nam fun z668302 hz668302 => ?_)
          have bz668302 : gB z668302 (-1) 1 := gB_cmp hz668302
          refine G_if_ne 108 dr_cX14_number_101 (by decide +kernel) (fun hc668303 => ?_) (fun hc668303 => ?_)
          · have r668304 : z668302.toInt ≠ 0 := gj_neq hc668303 (show Int32.toInt 0 = 0 by decide)
            have lhc668303 := gC_cmpN hz668302 hc668303
            refine G_bipush 6 dr_cX14_number_108 (by decide +kernel) ?_
            refine Gp_put 3 hmq668054 he668298 dr_cX14_number_110 (gk_X14 D I) (Nat.le_of_ble_eq_true rfl) wr_9_39 rfl rfl rfl (Nat.le_of_ble_eq_true rfl) (fun F668305 e668306 n668307 => ?_)
            have he668308 : F668305 q668055 = .inl (I .byte, 8192, .inl f668070) := (n668307 q668055 (rn_ao he668297 he668298)).trans he668297
            have he668309 : F668305 q668054 = .inr (19, [.ref q668055, .int p668057, .int g668281, .int 6, .int p668060, .int z668293, .int p668062, .ref qo668063, .int p668064, .int p668065, .int p668066, .ref qo668067, .ref qo668068, .int p668069]) := e668306
            have hfr668310 : rFr [q668054] P668052 F668053 F668305 := rFr_put' List.mem_cons_self hfr668299 n668307
            exact G_vretA dr_cX14_number_113 rfl (show 0 ≤ ((16 * (p668057.toInt - p668058.toInt)).toNat) by omega) (show 0 ≤ ((160 * (p668057.toInt - p668058.toInt)).toNat) by omega) ⟨F668305, g668281, 6, z668293, (0, fun _ => 0), rfl, rfl, hfr668310, he668309, he668308, (by omega), (by omega), bg668281, (gB_w (gBl (show Int32.toInt 6 = 6 by decide)) (by decide) (by decide)), (by have qa0 : Int32.toInt 6 = 6 := (by decide); omega), (by have qa0 : Int32.toInt 6 = 6 := (by decide); omega), (tP_no (by decide) (by decide)), (vP_no (by decide) (by decide)), (fun R c1 c2 c3 c4 => c1 gl668280 g668281 z668293 z668300 u668301 r668078 hx668291 hz668293 hz668300 hu668301 lhc668303)⟩
          · have r668311 : z668302.toInt = 0 := gj_eq hc668303 (show Int32.toInt 0 = 0 by decide)
            have bz668302' : gB z668302 0 0 := ⟨by omega, by omega⟩
            have lhc668303 := gC_cmpE hz668302 hc668303
            refine G_iconst 4 dr_cX14_number_104 (by decide +kernel) ?_
            refine G_goto 110 dr_cX14_number_105 (by decide +kernel) ?_
            refine Gp_put 3 hmq668054 he668298 dr_cX14_number_110 (gk_X14 D I) (Nat.le_of_ble_eq_true rfl) wr_9_39 rfl rfl rfl (Nat.le_of_ble_eq_true rfl) (fun F668312 e668313 n668314 => ?_)
            have he668315 : F668312 q668055 = .inl (I .byte, 8192, .inl f668070) := (n668314 q668055 (rn_ao he668297 he668298)).trans he668297
            have he668316 : F668312 q668054 = .inr (19, [.ref q668055, .int p668057, .int g668281, .int 4, .int p668060, .int z668293, .int p668062, .ref qo668063, .int p668064, .int p668065, .int p668066, .ref qo668067, .ref qo668068, .int p668069]) := e668313
            have hfr668317 : rFr [q668054] P668052 F668053 F668312 := rFr_put' List.mem_cons_self hfr668299 n668314
            exact G_vretA dr_cX14_number_113 rfl (show 0 ≤ ((16 * (p668057.toInt - p668058.toInt)).toNat) by omega) (show 0 ≤ ((160 * (p668057.toInt - p668058.toInt)).toNat) by omega) ⟨F668312, g668281, 4, z668293, (0, fun _ => 0), rfl, rfl, hfr668317, he668316, he668315, (by omega), (by omega), bg668281, (gB_w (gBl (show Int32.toInt 4 = 4 by decide)) (by decide) (by decide)), (by have qa0 : Int32.toInt 4 = 4 := (by decide); omega), (by have qa0 : Int32.toInt 4 = 4 := (by decide); omega), (tP_no (by decide) (by decide)), (vP_no (by decide) (by decide)), (fun R c1 c2 c3 c4 => c2 gl668280 g668281 z668293 z668300 u668301 r668078 hx668291 hz668293 hz668300 hu668301 lhc668303)⟩
        · have r668318 : g668281.toInt < p668057.toInt := gC_nle hc668289
          have bg668281' : gB g668281 0 8191 := ⟨by omega, by omega⟩
          have bp668057' : gB p668057 1 8192 := ⟨by omega, by omega⟩
          refine G_aload_n 1 dr_cX14_number_27 rfl ?_
          refine Gp_get 0 hmq668054 he668283 dr_cX14_number_28 (gk_X14 D I) (Nat.le_of_ble_eq_true rfl) wr_9_36 rfl ?_
          refine G_aload_n 1 dr_cX14_number_31 rfl ?_
          refine Gp_get 2 hmq668054 he668283 dr_cX14_number_32 (gk_X14 D I) (Nat.le_of_ble_eq_true rfl) wr_9_38 rfl ?_
          refine Gp_bald 1 hmq668055 he668284 dr_cX14_number_35 rfl (gB_in bg668281' (by decide) (by decide)) (G_nam fun z668319 hz668319 => ?_)
          have bz668319 : gB z668319 (-128) 127 := by rw [hz668319]; exact bf668070 _
          refine Gw_callS (As := [.int z668319]) (gV_ok D I) (cp_668112_Reader_isDigit l hl0 D I P668052 F668282 z668319 ) dr_cX14_number_36 ⟨wr_7_219, wr_1_32, wr_7_221, by decide, rfl, (Nat.le_of_ble_eq_true rfl), (Nat.le_of_ble_eq_true rfl)⟩ wr_7_220 (show 0 + 0 ≤ ((16 * (p668057.toInt - p668058.toInt)).toNat) by first | omega | decide) (show 0 + 0 ≤ ((160 * (p668057.toInt - p668058.toInt)).toNat) by first | omega | decide) (Nat.le_of_ble_eq_true rfl) (fun r668323 w668324 dc668320 ds668321 hp668322 => ?_) (fun _ _ _ _ _ z => z.elim)
          obtain ⟨o668325, rfl, rfl, hdc, hds, bo668325, x668326, ht668327⟩ := hp668322
          change G _ _ _ _ _ _ _ (.int o668325 :: _) _ _ _
          refine G_widen (cs' := 0) (sl' := 0) (by omega) (by omega) ?_
          refine G_if_eq 82 dr_cX14_number_39 (by decide +kernel) (fun hc668328 => ?_) (fun hc668328 => ?_)
          · have r668329 : o668325.toInt = 0 := gj_eq hc668328 (show Int32.toInt 0 = 0 by decide)
            have bo668325' : gB o668325 0 0 := ⟨by omega, by omega⟩
            have hx668330 : tl_RReader_number_16 p668057 f668070 (0 : Int64) p668058 82 gl668280 g668281 := kt16_668288 82 gl668280 g668281 (fun R c1 c2 c3 => c2 gl668280 g668281 z668319 o668325 bg668281 r668318 hz668319 bz668319 bo668325 ht668327 r668329)
            have x668331 : p668058.toInt < g668281.toInt := by first | omega | exact cDg_lt x668073 (by omega) (by assumption) (isP_0 (by assumption) (by omega)) (by omega)
            refine G_iload_n 2 dr_cX14_number_82 rfl ?_
            refine G_if_eq 89 dr_cX14_number_83 (by decide +kernel) (fun _ => ?_) (fun hc => absurd (show False by have := gj_neq hc (show Int32.toInt 0 = 0 by decide); omega) not_false)
            refine G_aload_n 1 dr_cX14_number_89 rfl ?_
            refine G_lload_n 0 dr_cX14_number_90 rfl ?_
            refine G_l2i dr_cX14_number_91 (G_nam fun z668332 hz668332 => ?_)
            have bz668332 : gB z668332 (-2147483648) 2147483647 := gB_any z668332
            refine Gp_put 5 hmq668054 he668283 dr_cX14_number_92 (gk_X14 D I) (Nat.le_of_ble_eq_true rfl) wr_9_41 rfl rfl rfl (Nat.le_of_ble_eq_true rfl) (fun F668333 e668334 n668335 => ?_)
            have he668336 : F668333 q668055 = .inl (I .byte, 8192, .inl f668070) := (n668335 q668055 (rn_ao he668284 he668283)).trans he668284
            have he668337 : F668333 q668054 = .inr (19, [.ref q668055, .int p668057, .int g668281, .int p668059, .int p668060, .int z668332, .int p668062, .ref qo668063, .int p668064, .int p668065, .int p668066, .ref qo668067, .ref qo668068, .int p668069]) := e668334
            have hfr668338 : rFr [q668054] P668052 F668053 F668333 := rFr_put' List.mem_cons_self hfr668285 n668335
            refine G_aload_n 1 dr_cX14_number_95 rfl ?_
            refine G_lload_n 0 dr_cX14_number_96 rfl ?_
            refine G_lload_n 0 dr_cX14_number_97 rfl ?_
            refine G_l2i dr_cX14_number_98 (G_nam fun z668339 hz668339 => ?_)
            have bz668339 : gB z668339 (-2147483648) 2147483647 := gB_any z668339
            refine G_i2l dr_cX14_number_99 (G_namL fun u668340 hu668340 => ?_)
            refine G_lcmp dr_cX14_number_100 (G_nam fun z668341 hz668341 => ?_)
            have bz668341 : gB z668341 (-1) 1 := gB_cmp hz668341
            refine G_if_ne 108 dr_cX14_number_101 (by decide +kernel) (fun hc668342 => ?_) (fun hc668342 => ?_)
            · have r668343 : z668341.toInt ≠ 0 := gj_neq hc668342 (show Int32.toInt 0 = 0 by decide)
              have lhc668342 := gC_cmpN hz668341 hc668342
              refine G_bipush 6 dr_cX14_number_108 (by decide +kernel) ?_
              refine Gp_put 3 hmq668054 he668337 dr_cX14_number_110 (gk_X14 D I) (Nat.le_of_ble_eq_true rfl) wr_9_39 rfl rfl rfl (Nat.le_of_ble_eq_true rfl) (fun F668344 e668345 n668346 => ?_)
              have he668347 : F668344 q668055 = .inl (I .byte, 8192, .inl f668070) := (n668346 q668055 (rn_ao he668336 he668337)).trans he668336
              have he668348 : F668344 q668054 = .inr (19, [.ref q668055, .int p668057, .int g668281, .int 6, .int p668060, .int z668332, .int p668062, .ref qo668063, .int p668064, .int p668065, .int p668066, .ref qo668067, .ref qo668068, .int p668069]) := e668345
              have hfr668349 : rFr [q668054] P668052 F668053 F668344 := rFr_put' List.mem_cons_self hfr668338 n668346
              exact G_vretA dr_cX14_number_113 rfl (show 0 ≤ ((16 * (p668057.toInt - p668058.toInt)).toNat) by omega) (show 0 ≤ ((160 * (p668057.toInt - p668058.toInt)).toNat) by omega) ⟨F668344, g668281, 6, z668332, (0, fun _ => 0), rfl, rfl, hfr668349, he668348, he668347, (by omega), (by omega), (gB_w bg668281' (by decide) (by decide)), (gB_w (gBl (show Int32.toInt 6 = 6 by decide)) (by decide) (by decide)), (by have qa0 : Int32.toInt 6 = 6 := (by decide); omega), (by have qa0 : Int32.toInt 6 = 6 := (by decide); omega), (tP_no (by decide) (by decide)), (vP_no (by decide) (by decide)), (fun R c1 c2 c3 c4 => c1 gl668280 g668281 z668332 z668339 u668340 r668078 hx668330 hz668332 hz668339 hu668340 lhc668342)⟩
            · have r668350 : z668341.toInt = 0 := gj_eq hc668342 (show Int32.toInt 0 = 0 by decide)
              have bz668341' : gB z668341 0 0 := ⟨by omega, by omega⟩
              have lhc668342 := gC_cmpE hz668341 hc668342
              refine G_iconst 4 dr_cX14_number_104 (by decide +kernel) ?_
              refine G_goto 110 dr_cX14_number_105 (by decide +kernel) ?_
              refine Gp_put 3 hmq668054 he668337 dr_cX14_number_110 (gk_X14 D I) (Nat.le_of_ble_eq_true rfl) wr_9_39 rfl rfl rfl (Nat.le_of_ble_eq_true rfl) (fun F668351 e668352 n668353 => ?_)
              have he668354 : F668351 q668055 = .inl (I .byte, 8192, .inl f668070) := (n668353 q668055 (rn_ao he668336 he668337)).trans he668336
              have he668355 : F668351 q668054 = .inr (19, [.ref q668055, .int p668057, .int g668281, .int 4, .int p668060, .int z668332, .int p668062, .ref qo668063, .int p668064, .int p668065, .int p668066, .ref qo668067, .ref qo668068, .int p668069]) := e668352
              have hfr668356 : rFr [q668054] P668052 F668053 F668351 := rFr_put' List.mem_cons_self hfr668338 n668353
              exact G_vretA dr_cX14_number_113 rfl (show 0 ≤ ((16 * (p668057.toInt - p668058.toInt)).toNat) by omega) (show 0 ≤ ((160 * (p668057.toInt - p668058.toInt)).toNat) by omega) ⟨F668351, g668281, 4, z668332, (0, fun _ => 0), rfl, rfl, hfr668356, he668355, he668354, (by omega), (by omega), (gB_w bg668281' (by decide) (by decide)), (gB_w (gBl (show Int32.toInt 4 = 4 by decide)) (by decide) (by decide)), (by have qa0 : Int32.toInt 4 = 4 := (by decide); omega), (by have qa0 : Int32.toInt 4 = 4 := (by decide); omega), (tP_no (by decide) (by decide)), (vP_no (by decide) (by decide)), (fun R c1 c2 c3 c4 => c2 gl668280 g668281 z668332 z668339 u668340 r668078 hx668330 hz668332 hz668339 hu668340 lhc668342)⟩
          · have r668357 : o668325.toInt ≠ 0 := gj_neq hc668328 (show Int32.toInt 0 = 0 by decide)
            have bo668325' : gB o668325 1 1 := ⟨by omega, by omega⟩
            have bi668358 : gB z668319 48 57 := isP_1 x668326 (by omega)
            refine G_lload_n 0 dr_cX14_number_42 rfl ?_
            refine G_ldc2 10 dr_cX14_number_43 wr_7_229 ?_
            refine G_lmul dr_cX14_number_46 (G_namL fun u668359 hu668359 => ?_)
            refine G_aload_n 1 dr_cX14_number_47 rfl ?_
            refine Gp_get 0 hmq668054 he668283 dr_cX14_number_48 (gk_X14 D I) (Nat.le_of_ble_eq_true rfl) wr_9_36 rfl ?_
            refine G_aload_n 1 dr_cX14_number_51 rfl ?_
            refine Gp_get 2 hmq668054 he668283 dr_cX14_number_52 (gk_X14 D I) (Nat.le_of_ble_eq_true rfl) wr_9_38 rfl ?_
            refine Gp_bald 1 hmq668055 he668284 dr_cX14_number_55 rfl (gB_in bg668281' (by decide) (by decide)) (G_eqi (y := z668319) hz668319.symm ?_)
            refine G_i2l dr_cX14_number_56 (G_namL fun u668360 hu668360 => ?_)
            refine G_ladd dr_cX14_number_57 (G_namL fun u668361 hu668361 => ?_)
            refine G_ldc2 48 dr_cX14_number_58 wr_7_230 ?_
            refine G_lsub dr_cX14_number_61 (G_namL fun u668362 hu668362 => ?_)
            refine G_ldc2 1099511627776 dr_cX14_number_62 wr_8_222 ?_
            refine Gw_callS (As := [.long u668362, .long 1099511627776]) (gV_ok D I) (cp_668166_Math_min l hl0 D I P668052 F668282 u668362 1099511627776 ) dr_cX14_number_65 ⟨wr_7_232, wr_1_6, wr_3_40, by decide, rfl, (Nat.le_of_ble_eq_true rfl), (Nat.le_of_ble_eq_true rfl)⟩ wr_3_39 (show 0 + 0 ≤ ((16 * (p668057.toInt - p668058.toInt)).toNat) by first | omega | decide) (show 0 + 0 ≤ ((160 * (p668057.toInt - p668058.toInt)).toNat) by first | omega | decide) (Nat.le_of_ble_eq_true rfl) (fun r668366 w668367 dc668363 ds668364 hp668365 => ?_) (fun _ _ _ _ _ z => z.elim)
            obtain ⟨ol668368, rfl, rfl, hdc, hds, x668369, ht668370⟩ := hp668365
            change G _ _ _ _ _ _ _ (.long ol668368 :: _) _ _ _
            refine G_widen (cs' := 0) (sl' := 0) (by omega) (by omega) ?_
            refine G_lstore_n (L' := [(2, .long ol668368), (0, .ref q668054), (1, .int p668056)]) dr_cX14_number_68 (Nat.le_of_ble_eq_true rfl) rfl ?_
            refine G_aload_n 1 dr_cX14_number_69 rfl ?_
            refine G_dup dr_cX14_number_70 rfl ?_
            refine Gp_get 2 hmq668054 he668283 dr_cX14_number_71 (gk_X14 D I) (Nat.le_of_ble_eq_true rfl) wr_9_38 rfl ?_
            refine G_iconst 1 dr_cX14_number_74 (by decide +kernel) ?_
            refine G_iadd dr_cX14_number_75 (G_nam fun z668371 hz668371 => ?_)
            have ez668371 : z668371.toInt = g668281.toInt + 1 := by rw [gI_add hz668371 bg668281' (gBl (show Int32.toInt 1 = 1 by decide)) (by decide) (by decide), show Int32.toInt 1 = 1 from by decide]
            have bz668371 : gB z668371 1 8192 := gB_add (gI_add hz668371 bg668281' (gBl (show Int32.toInt 1 = 1 by decide)) (by decide) (by decide)) bg668281' (gBl (show Int32.toInt 1 = 1 by decide)) (by decide) (by decide)
            refine Gp_put 2 hmq668054 he668283 dr_cX14_number_76 (gk_X14 D I) (Nat.le_of_ble_eq_true rfl) wr_9_38 rfl rfl rfl (Nat.le_of_ble_eq_true rfl) (fun F668372 e668373 n668374 => ?_)
            have he668375 : F668372 q668055 = .inl (I .byte, 8192, .inl f668070) := (n668374 q668055 (rn_ao he668284 he668283)).trans he668284
            have he668376 : F668372 q668054 = .inr (19, [.ref q668055, .int p668057, .int z668371, .int p668059, .int p668060, .int p668061, .int p668062, .ref qo668063, .int p668064, .int p668065, .int p668066, .ref qo668067, .ref qo668068, .int p668069]) := e668373
            have hfr668377 : rFr [q668054] P668052 F668053 F668372 := rFr_put' List.mem_cons_self hfr668285 n668374
            refine G_goto 16 dr_cX14_number_79 (by decide +kernel) ?_
            exact ih16_668288 F668372 ol668368 z668371 (gB_w bz668371 (by decide) (by decide)) hfr668377 he668376 he668375 (by omega) (by omega) (by omega) (fun k e1 e2 ht => kt16_668288 k e1 e2 (fun R c1 c2 c3 => c3 gl668280 g668281 z668319 o668325 u668359 u668360 u668361 u668362 ol668368 z668371 k e1 e2 bg668281 r668318 hz668319 bz668319 bo668325 ht668327 r668357 hu668359 hu668360 hu668361 hu668362 ht668370 ez668371 (ht R c1 c2 c3))) (by omega)
    exact hlp16_668288 (((8193 : Int) - p668058.toInt).toNat + 1) F668053 0 p668058 bp668058 (rFr_v (rFr_rf (W := []) (P := P668052) (F := F668053)) (fun b hn => nm_n)) heq668054 heq668055 (by omega) (by omega) (by omega) (fun k e1 e2 ht => ht) (Nat.lt_succ_self _)
  · have r668378 : p668056.toInt ≠ 0 := gj_neq hc668077 (show Int32.toInt 0 = 0 by decide)
    have bp668056' : gB p668056 1 1 := ⟨by omega, by omega⟩
    refine G_aload_n 0 dr_cX14_number_4 rfl ?_
    refine G_dup dr_cX14_number_5 rfl ?_
    refine Gp_get 2 hmq668054 heq668054 dr_cX14_number_6 (gk_X14 D I) (Nat.le_of_ble_eq_true rfl) wr_9_38 rfl ?_
    refine G_iconst 1 dr_cX14_number_9 (by decide +kernel) ?_
    refine G_iadd dr_cX14_number_10 (G_nam fun z668379 hz668379 => ?_)
    have ez668379 : z668379.toInt = p668058.toInt + 1 := by rw [gI_add hz668379 bp668058 (gBl (show Int32.toInt 1 = 1 by decide)) (by decide) (by decide), show Int32.toInt 1 = 1 from by decide]
    have bz668379 : gB z668379 1 8193 := gB_add (gI_add hz668379 bp668058 (gBl (show Int32.toInt 1 = 1 by decide)) (by decide) (by decide)) bp668058 (gBl (show Int32.toInt 1 = 1 by decide)) (by decide) (by decide)
    refine Gp_put 2 hmq668054 heq668054 dr_cX14_number_11 (gk_X14 D I) (Nat.le_of_ble_eq_true rfl) wr_9_38 rfl rfl rfl (Nat.le_of_ble_eq_true rfl) (fun F668380 e668381 n668382 => ?_)
    have he668383 : F668380 q668055 = .inl (I .byte, 8192, .inl f668070) := (n668382 q668055 (rn_ao heq668055 heq668054)).trans heq668055
    have he668384 : F668380 q668054 = .inr (19, [.ref q668055, .int p668057, .int z668379, .int p668059, .int p668060, .int p668061, .int p668062, .ref qo668063, .int p668064, .int p668065, .int p668066, .ref qo668067, .ref qo668068, .int p668069]) := e668381
    have hfr668385 : rFr [q668054] P668052 F668053 F668380 := rFr_put (rFr_rf (W := []) (P := P668052) (F := F668053)) n668382
    refine G_lconst 0 dr_cX14_number_14 rfl ?_
    refine G_lstore_n (L' := [(2, .long 0), (0, .ref q668054), (1, .int p668056)]) dr_cX14_number_15 (Nat.le_of_ble_eq_true rfl) rfl ?_
    have hlp16_668578 : ∀ (n16_668578 : Nat) (F668572 : Nat → va_E) (gl668570 : Int64) (g668571 : Int32), gB g668571 0 8192 → rFr [q668054] P668052 F668053 F668572 → F668572 q668054 = .inr (19, [.ref q668055, .int p668057, .int g668571, .int p668059, .int p668060, .int p668061, .int p668062, .ref qo668063, .int p668064, .int p668065, .int p668066, .ref qo668067, .ref qo668068, .int p668069]) → F668572 q668055 = .inl (I .byte, 8192, .inl f668070) → p668058.toInt ≤ g668571.toInt → g668571.toInt ≤ p668057.toInt → (p668056.toInt = 0 ∨ p668058.toInt < g668571.toInt) → (∀ (k : Nat) (e1 : Int64) (e2 : Int32), tl_RReader_number_16_2 p668057 f668070 gl668570 g668571 k e1 e2 → tl_RReader_number_16_2 p668057 f668070 (0 : Int64) z668379 k e1 e2) → ((8193 : Int) - g668571.toInt).toNat < n16_668578 → G (gV D I) l (gRm 1 23 ((16 * (p668057.toInt - p668058.toInt)).toNat) ((160 * (p668057.toInt - p668058.toInt)).toNat)) (gMA (gV D I) (pp_668076_Reader_number D I P668052 F668053 q668054 q668055 p668056 p668057 p668058 p668059 p668060 p668061 p668062 qo668063 p668064 p668065 p668066 qo668067 qo668068 p668069 f668070) gNA ((16 * (p668057.toInt - p668058.toInt)).toNat) ((160 * (p668057.toInt - p668058.toInt)).toNat)) ky_668076_Reader_number 16 [(2, .long gl668570), (0, .ref q668054), (1, .int p668056)] [] (va_pl P668052 F668572) 0 0 := by
      intro n16_668578
      induction n16_668578 with
      | zero => intro F668572 gl668570 g668571 bg668571 hfr668575 he668573 he668574 x668576 x668577 x668578 kt16_668578 hm16_668578; exact absurd hm16_668578 (Nat.not_lt_zero _)
      | succ n16_668578 ih16_668578 =>
        intro F668572 gl668570 g668571 bg668571 hfr668575 he668573 he668574 x668576 x668577 x668578 kt16_668578 hm16_668578
        refine G_aload_n 1 dr_cX14_number_16 rfl ?_
        refine Gp_get 2 hmq668054 he668573 dr_cX14_number_17 (gk_X14 D I) (Nat.le_of_ble_eq_true rfl) wr_9_38 rfl ?_
        refine G_aload_n 1 dr_cX14_number_20 rfl ?_
        refine Gp_get 1 hmq668054 he668573 dr_cX14_number_21 (gk_X14 D I) (Nat.le_of_ble_eq_true rfl) wr_9_37 rfl ?_
        refine G_icmp_ge 82 dr_cX14_number_24 (by decide +kernel) (fun hc668579 => ?_) (fun hc668579 => ?_)
        · have r668580 : p668057.toInt ≤ g668571.toInt := gC_le hc668579
          have hx668581 : tl_RReader_number_16_2 p668057 f668070 (0 : Int64) z668379 82 gl668570 g668571 := kt16_668578 82 gl668570 g668571 (fun R c1 c2 c3 => c1 gl668570 g668571 bg668571 r668580)
          have x668582 : p668058.toInt < g668571.toInt := by first | omega | exact cDg_lt x668073 (by omega) (by assumption) (isP_0 (by assumption) (by omega)) (by omega)
          refine G_iload_n 2 dr_cX14_number_82 rfl ?_
          refine G_if_eq 89 dr_cX14_number_83 (by decide +kernel) (fun hc => absurd (show False by have := gj_eq hc (show Int32.toInt 0 = 0 by decide); omega) not_false) (fun _ => ?_)
          refine G_lload_n 0 dr_cX14_number_86 rfl ?_
          refine G_lneg dr_cX14_number_87 (G_namL fun u668583 hu668583 => ?_)
          refine G_lstore_n (L' := [(2, .long u668583), (0, .ref q668054), (1, .int p668056)]) dr_cX14_number_88 (Nat.le_of_ble_eq_true rfl) rfl ?_
          refine G_aload_n 1 dr_cX14_number_89 rfl ?_
          refine G_lload_n 0 dr_cX14_number_90 rfl ?_
          refine G_l2i dr_cX14_number_91 (G_nam fun z668584 hz668584 => ?_)
          have bz668584 : gB z668584 (-2147483648) 2147483647 := gB_any z668584
          refine Gp_put 5 hmq668054 he668573 dr_cX14_number_92 (gk_X14 D I) (Nat.le_of_ble_eq_true rfl) wr_9_41 rfl rfl rfl (Nat.le_of_ble_eq_true rfl) (fun F668585 e668586 n668587 => ?_)
          have he668588 : F668585 q668055 = .inl (I .byte, 8192, .inl f668070) := (n668587 q668055 (rn_ao he668574 he668573)).trans he668574
          have he668589 : F668585 q668054 = .inr (19, [.ref q668055, .int p668057, .int g668571, .int p668059, .int p668060, .int z668584, .int p668062, .ref qo668063, .int p668064, .int p668065, .int p668066, .ref qo668067, .ref qo668068, .int p668069]) := e668586
          have hfr668590 : rFr [q668054] P668052 F668053 F668585 := rFr_put' List.mem_cons_self hfr668575 n668587
          refine G_aload_n 1 dr_cX14_number_95 rfl ?_
          refine G_lload_n 0 dr_cX14_number_96 rfl ?_
          refine G_lload_n 0 dr_cX14_number_97 rfl ?_
          refine G_l2i dr_cX14_number_98 (G_nam fun z668591 hz668591 => ?_)
          have bz668591 : gB z668591 (-2147483648) 2147483647 := gB_any z668591
          refine G_i2l dr_cX14_number_99 (G_namL fun u668592 hu668592 => ?_)
          refine G_lcmp dr_cX14_number_100 (G_nam fun z668593 hz668593 => ?_)
          have bz668593 : gB z668593 (-1) 1 := gB_cmp hz668593
          refine G_if_ne 108 dr_cX14_number_101 (by decide +kernel) (fun hc668594 => ?_) (fun hc668594 => ?_)
          · have r668595 : z668593.toInt ≠ 0 := gj_neq hc668594 (show Int32.toInt 0 = 0 by decide)
            have lhc668594 := gC_cmpN hz668593 hc668594
            refine G_bipush 6 dr_cX14_number_108 (by decide +kernel) ?_
            refine Gp_put 3 hmq668054 he668589 dr_cX14_number_110 (gk_X14 D I) (Nat.le_of_ble_eq_true rfl) wr_9_39 rfl rfl rfl (Nat.le_of_ble_eq_true rfl) (fun F668596 e668597 n668598 => ?_)
            have he668599 : F668596 q668055 = .inl (I .byte, 8192, .inl f668070) := (n668598 q668055 (rn_ao he668588 he668589)).trans he668588
            have he668600 : F668596 q668054 = .inr (19, [.ref q668055, .int p668057, .int g668571, .int 6, .int p668060, .int z668584, .int p668062, .ref qo668063, .int p668064, .int p668065, .int p668066, .ref qo668067, .ref qo668068, .int p668069]) := e668597
            have hfr668601 : rFr [q668054] P668052 F668053 F668596 := rFr_put' List.mem_cons_self hfr668590 n668598
            exact G_vretA dr_cX14_number_113 rfl (show 0 ≤ ((16 * (p668057.toInt - p668058.toInt)).toNat) by omega) (show 0 ≤ ((160 * (p668057.toInt - p668058.toInt)).toNat) by omega) ⟨F668596, g668571, 6, z668584, (0, fun _ => 0), rfl, rfl, hfr668601, he668600, he668599, (by omega), (by omega), bg668571, (gB_w (gBl (show Int32.toInt 6 = 6 by decide)) (by decide) (by decide)), (by have qa0 : Int32.toInt 6 = 6 := (by decide); omega), (by have qa0 : Int32.toInt 6 = 6 := (by decide); omega), (tP_no (by decide) (by decide)), (vP_no (by decide) (by decide)), (fun R c1 c2 c3 c4 => c3 z668379 gl668570 g668571 u668583 z668584 z668591 u668592 r668378 ez668379 hx668581 hu668583 hz668584 hz668591 hu668592 lhc668594)⟩
          · have r668602 : z668593.toInt = 0 := gj_eq hc668594 (show Int32.toInt 0 = 0 by decide)
            have bz668593' : gB z668593 0 0 := ⟨by omega, by omega⟩
            have lhc668594 := gC_cmpE hz668593 hc668594
            refine G_iconst 4 dr_cX14_number_104 (by decide +kernel) ?_
            refine G_goto 110 dr_cX14_number_105 (by decide +kernel) ?_
            refine Gp_put 3 hmq668054 he668589 dr_cX14_number_110 (gk_X14 D I) (Nat.le_of_ble_eq_true rfl) wr_9_39 rfl rfl rfl (Nat.le_of_ble_eq_true rfl) (fun F668603 e668604 n668605 => ?_)
            have he668606 : F668603 q668055 = .inl (I .byte, 8192, .inl f668070) := (n668605 q668055 (rn_ao he668588 he668589)).trans he668588
            have he668607 : F668603 q668054 = .inr (19, [.ref q668055, .int p668057, .int g668571, .int 4, .int p668060, .int z668584, .int p668062, .ref qo668063, .int p668064, .int p668065, .int p668066, .ref qo668067, .ref qo668068, .int p668069]) := e668604
            have hfr668608 : rFr [q668054] P668052 F668053 F668603 := rFr_put' List.mem_cons_self hfr668590 n668605
            exact G_vretA dr_cX14_number_113 rfl (show 0 ≤ ((16 * (p668057.toInt - p668058.toInt)).toNat) by omega) (show 0 ≤ ((160 * (p668057.toInt - p668058.toInt)).toNat) by omega) ⟨F668603, g668571, 4, z668584, (0, fun _ => 0), rfl, rfl, hfr668608, he668607, he668606, (by omega), (by omega), bg668571, (gB_w (gBl (show Int32.toInt 4 = 4 by decide)) (by decide) (by decide)), (by have qa0 : Int32.toInt 4 = 4 := (by decide); omega), (by have qa0 : Int32.toInt 4 = 4 := (by decide); omega), (tP_no (by decide) (by decide)), (vP_no (by decide) (by decide)), (fun R c1 c2 c3 c4 => c4 z668379 gl668570 g668571 u668583 z668584 z668591 u668592 r668378 ez668379 hx668581 hu668583 hz668584 hz668591 hu668592 lhc668594)⟩
        · have r668609 : g668571.toInt < p668057.toInt := gC_nle hc668579
          have bg668571' : gB g668571 0 8191 := ⟨by omega, by omega⟩
          have bp668057' : gB p668057 1 8192 := ⟨by omega, by omega⟩
          refine G_aload_n 1 dr_cX14_number_27 rfl ?_
          refine Gp_get 0 hmq668054 he668573 dr_cX14_number_28 (gk_X14 D I) (Nat.le_of_ble_eq_true rfl) wr_9_36 rfl ?_
          refine G_aload_n 1 dr_cX14_number_31 rfl ?_
          refine Gp_get 2 hmq668054 he668573 dr_cX14_number_32 (gk_X14 D I) (Nat.le_of_ble_eq_true rfl) wr_9_38 rfl ?_
          refine Gp_bald 1 hmq668055 he668574 dr_cX14_number_35 rfl (gB_in bg668571' (by decide) (by decide)) (G_nam fun z668610 hz668610 => ?_)
          have bz668610 : gB z668610 (-128) 127 := by rw [hz668610]; exact bf668070 _
          refine Gw_callS (As := [.int z668610]) (gV_ok D I) (cp_668112_Reader_isDigit l hl0 D I P668052 F668572 z668610 ) dr_cX14_number_36 ⟨wr_7_219, wr_1_32, wr_7_221, by decide, rfl, (Nat.le_of_ble_eq_true rfl), (Nat.le_of_ble_eq_true rfl)⟩ wr_7_220 (show 0 + 0 ≤ ((16 * (p668057.toInt - p668058.toInt)).toNat) by first | omega | decide) (show 0 + 0 ≤ ((160 * (p668057.toInt - p668058.toInt)).toNat) by first | omega | decide) (Nat.le_of_ble_eq_true rfl) (fun r668614 w668615 dc668611 ds668612 hp668613 => ?_) (fun _ _ _ _ _ z => z.elim)
          obtain ⟨o668616, rfl, rfl, hdc, hds, bo668616, x668617, ht668618⟩ := hp668613
          change G _ _ _ _ _ _ _ (.int o668616 :: _) _ _ _
          refine G_widen (cs' := 0) (sl' := 0) (by omega) (by omega) ?_
          refine G_if_eq 82 dr_cX14_number_39 (by decide +kernel) (fun hc668619 => ?_) (fun hc668619 => ?_)
          · have r668620 : o668616.toInt = 0 := gj_eq hc668619 (show Int32.toInt 0 = 0 by decide)
            have bo668616' : gB o668616 0 0 := ⟨by omega, by omega⟩
            have hx668621 : tl_RReader_number_16_2 p668057 f668070 (0 : Int64) z668379 82 gl668570 g668571 := kt16_668578 82 gl668570 g668571 (fun R c1 c2 c3 => c2 gl668570 g668571 z668610 o668616 bg668571 r668609 hz668610 bz668610 bo668616 ht668618 r668620)
            have x668622 : p668058.toInt < g668571.toInt := by first | omega | exact cDg_lt x668073 (by omega) (by assumption) (isP_0 (by assumption) (by omega)) (by omega)
            refine G_iload_n 2 dr_cX14_number_82 rfl ?_
            refine G_if_eq 89 dr_cX14_number_83 (by decide +kernel) (fun hc => absurd (show False by have := gj_eq hc (show Int32.toInt 0 = 0 by decide); omega) not_false) (fun _ => ?_)
            refine G_lload_n 0 dr_cX14_number_86 rfl ?_
            refine G_lneg dr_cX14_number_87 (G_namL fun u668623 hu668623 => ?_)
            refine G_lstore_n (L' := [(2, .long u668623), (0, .ref q668054), (1, .int p668056)]) dr_cX14_number_88 (Nat.le_of_ble_eq_true rfl) rfl ?_
            refine G_aload_n 1 dr_cX14_number_89 rfl ?_
            refine G_lload_n 0 dr_cX14_number_90 rfl ?_
            refine G_l2i dr_cX14_number_91 (G_nam fun z668624 hz668624 => ?_)
            have bz668624 : gB z668624 (-2147483648) 2147483647 := gB_any z668624
            refine Gp_put 5 hmq668054 he668573 dr_cX14_number_92 (gk_X14 D I) (Nat.le_of_ble_eq_true rfl) wr_9_41 rfl rfl rfl (Nat.le_of_ble_eq_true rfl) (fun F668625 e668626 n668627 => ?_)
            have he668628 : F668625 q668055 = .inl (I .byte, 8192, .inl f668070) := (n668627 q668055 (rn_ao he668574 he668573)).trans he668574
            have he668629 : F668625 q668054 = .inr (19, [.ref q668055, .int p668057, .int g668571, .int p668059, .int p668060, .int z668624, .int p668062, .ref qo668063, .int p668064, .int p668065, .int p668066, .ref qo668067, .ref qo668068, .int p668069]) := e668626
            have hfr668630 : rFr [q668054] P668052 F668053 F668625 := rFr_put' List.mem_cons_self hfr668575 n668627
            refine G_aload_n 1 dr_cX14_number_95 rfl ?_
            refine G_lload_n 0 dr_cX14_number_96 rfl ?_
            refine G_lload_n 0 dr_cX14_number_97 rfl ?_
            refine G_l2i dr_cX14_number_98 (G_nam fun z668631 hz668631 => ?_)
            have bz668631 : gB z668631 (-2147483648) 2147483647 := gB_any z668631
            refine G_i2l dr_cX14_number_99 (G_namL fun u668632 hu668632 => ?_)
            refine G_lcmp dr_cX14_number_100 (G_nam fun z668633 hz668633 => ?_)
            have bz668633 : gB z668633 (-1) 1 := gB_cmp hz668633
            refine G_if_ne 108 dr_cX14_number_101 (by decide +kernel) (fun hc668634 => ?_) (fun hc668634 => ?_)
            · have r668635 : z668633.toInt ≠ 0 := gj_neq hc668634 (show Int32.toInt 0 = 0 by decide)
              have lhc668634 := gC_cmpN hz668633 hc668634
              refine G_bipush 6 dr_cX14_number_108 (by decide +kernel) ?_
              refine Gp_put 3 hmq668054 he668629 dr_cX14_number_110 (gk_X14 D I) (Nat.le_of_ble_eq_true rfl) wr_9_39 rfl rfl rfl (Nat.le_of_ble_eq_true rfl) (fun F668636 e668637 n668638 => ?_)
              have he668639 : F668636 q668055 = .inl (I .byte, 8192, .inl f668070) := (n668638 q668055 (rn_ao he668628 he668629)).trans he668628
              have he668640 : F668636 q668054 = .inr (19, [.ref q668055, .int p668057, .int g668571, .int 6, .int p668060, .int z668624, .int p668062, .ref qo668063, .int p668064, .int p668065, .int p668066, .ref qo668067, .ref qo668068, .int p668069]) := e668637
              have hfr668641 : rFr [q668054] P668052 F668053 F668636 := rFr_put' List.mem_cons_self hfr668630 n668638
              exact G_vretA dr_cX14_number_113 rfl (show 0 ≤ ((16 * (p668057.toInt - p668058.toInt)).toNat) by omega) (show 0 ≤ ((160 * (p668057.toInt - p668058.toInt)).toNat) by omega) ⟨F668636, g668571, 6, z668624, (0, fun _ => 0), rfl, rfl, hfr668641, he668640, he668639, (by omega), (by omega), (gB_w bg668571' (by decide) (by decide)), (gB_w (gBl (show Int32.toInt 6 = 6 by decide)) (by decide) (by decide)), (by have qa0 : Int32.toInt 6 = 6 := (by decide); omega), (by have qa0 : Int32.toInt 6 = 6 := (by decide); omega), (tP_no (by decide) (by decide)), (vP_no (by decide) (by decide)), (fun R c1 c2 c3 c4 => c3 z668379 gl668570 g668571 u668623 z668624 z668631 u668632 r668378 ez668379 hx668621 hu668623 hz668624 hz668631 hu668632 lhc668634)⟩
            · have r668642 : z668633.toInt = 0 := gj_eq hc668634 (show Int32.toInt 0 = 0 by decide)
              have bz668633' : gB z668633 0 0 := ⟨by omega, by omega⟩
              have lhc668634 := gC_cmpE hz668633 hc668634
              refine G_iconst 4 dr_cX14_number_104 (by decide +kernel) ?_
              refine G_goto 110 dr_cX14_number_105 (by decide +kernel) ?_
              refine Gp_put 3 hmq668054 he668629 dr_cX14_number_110 (gk_X14 D I) (Nat.le_of_ble_eq_true rfl) wr_9_39 rfl rfl rfl (Nat.le_of_ble_eq_true rfl) (fun F668643 e668644 n668645 => ?_)
              have he668646 : F668643 q668055 = .inl (I .byte, 8192, .inl f668070) := (n668645 q668055 (rn_ao he668628 he668629)).trans he668628
              have he668647 : F668643 q668054 = .inr (19, [.ref q668055, .int p668057, .int g668571, .int 4, .int p668060, .int z668624, .int p668062, .ref qo668063, .int p668064, .int p668065, .int p668066, .ref qo668067, .ref qo668068, .int p668069]) := e668644
              have hfr668648 : rFr [q668054] P668052 F668053 F668643 := rFr_put' List.mem_cons_self hfr668630 n668645
              exact G_vretA dr_cX14_number_113 rfl (show 0 ≤ ((16 * (p668057.toInt - p668058.toInt)).toNat) by omega) (show 0 ≤ ((160 * (p668057.toInt - p668058.toInt)).toNat) by omega) ⟨F668643, g668571, 4, z668624, (0, fun _ => 0), rfl, rfl, hfr668648, he668647, he668646, (by omega), (by omega), (gB_w bg668571' (by decide) (by decide)), (gB_w (gBl (show Int32.toInt 4 = 4 by decide)) (by decide) (by decide)), (by have qa0 : Int32.toInt 4 = 4 := (by decide); omega), (by have qa0 : Int32.toInt 4 = 4 := (by decide); omega), (tP_no (by decide) (by decide)), (vP_no (by decide) (by decide)), (fun R c1 c2 c3 c4 => c4 z668379 gl668570 g668571 u668623 z668624 z668631 u668632 r668378 ez668379 hx668621 hu668623 hz668624 hz668631 hu668632 lhc668634)⟩
          · have r668649 : o668616.toInt ≠ 0 := gj_neq hc668619 (show Int32.toInt 0 = 0 by decide)
            have bo668616' : gB o668616 1 1 := ⟨by omega, by omega⟩
            have bi668650 : gB z668610 48 57 := isP_1 x668617 (by omega)
            refine G_lload_n 0 dr_cX14_number_42 rfl ?_
            refine G_ldc2 10 dr_cX14_number_43 wr_7_229 ?_
            refine G_lmul dr_cX14_number_46 (G_namL fun u668651 hu668651 => ?_)
            refine G_aload_n 1 dr_cX14_number_47 rfl ?_
            refine Gp_get 0 hmq668054 he668573 dr_cX14_number_48 (gk_X14 D I) (Nat.le_of_ble_eq_true rfl) wr_9_36 rfl ?_
            refine G_aload_n 1 dr_cX14_number_51 rfl ?_
            refine Gp_get 2 hmq668054 he668573 dr_cX14_number_52 (gk_X14 D I) (Nat.le_of_ble_eq_true rfl) wr_9_38 rfl ?_
            refine Gp_bald 1 hmq668055 he668574 dr_cX14_number_55 rfl (gB_in bg668571' (by decide) (by decide)) (G_eqi (y := z668610) hz668610.symm ?_)
            refine G_i2l dr_cX14_number_56 (G_namL fun u668652 hu668652 => ?_)
            refine G_ladd dr_cX14_number_57 (G_namL fun u668653 hu668653 => ?_)
            refine G_ldc2 48 dr_cX14_number_58 wr_7_230 ?_
            refine G_lsub dr_cX14_number_61 (G_namL fun u668654 hu668654 => ?_)
            refine G_ldc2 1099511627776 dr_cX14_number_62 wr_8_222 ?_
            refine Gw_callS (As := [.long u668654, .long 1099511627776]) (gV_ok D I) (cp_668166_Math_min l hl0 D I P668052 F668572 u668654 1099511627776 ) dr_cX14_number_65 ⟨wr_7_232, wr_1_6, wr_3_40, by decide, rfl, (Nat.le_of_ble_eq_true rfl), (Nat.le_of_ble_eq_true rfl)⟩ wr_3_39 (show 0 + 0 ≤ ((16 * (p668057.toInt - p668058.toInt)).toNat) by first | omega | decide) (show 0 + 0 ≤ ((160 * (p668057.toInt - p668058.toInt)).toNat) by first | omega | decide) (Nat.le_of_ble_eq_true rfl) (fun r668658 w668659 dc668655 ds668656 hp668657 => ?_) (fun _ _ _ _ _ z => z.elim)
            obtain ⟨ol668660, rfl, rfl, hdc, hds, x668661, ht668662⟩ := hp668657
            change G _ _ _ _ _ _ _ (.long ol668660 :: _) _ _ _
            refine G_widen (cs' := 0) (sl' := 0) (by omega) (by omega) ?_
            refine G_lstore_n (L' := [(2, .long ol668660), (0, .ref q668054), (1, .int p668056)]) dr_cX14_number_68 (Nat.le_of_ble_eq_true rfl) rfl ?_
            refine G_aload_n 1 dr_cX14_number_69 rfl ?_
            refine G_dup dr_cX14_number_70 rfl ?_
            refine Gp_get 2 hmq668054 he668573 dr_cX14_number_71 (gk_X14 D I) (Nat.le_of_ble_eq_true rfl) wr_9_38 rfl ?_
            refine G_iconst 1 dr_cX14_number_74 (by decide +kernel) ?_
            refine G_iadd dr_cX14_number_75 (G_nam fun z668663 hz668663 => ?_)
            have ez668663 : z668663.toInt = g668571.toInt + 1 := by rw [gI_add hz668663 bg668571' (gBl (show Int32.toInt 1 = 1 by decide)) (by decide) (by decide), show Int32.toInt 1 = 1 from by decide]
            have bz668663 : gB z668663 1 8192 := gB_add (gI_add hz668663 bg668571' (gBl (show Int32.toInt 1 = 1 by decide)) (by decide) (by decide)) bg668571' (gBl (show Int32.toInt 1 = 1 by decide)) (by decide) (by decide)
            refine Gp_put 2 hmq668054 he668573 dr_cX14_number_76 (gk_X14 D I) (Nat.le_of_ble_eq_true rfl) wr_9_38 rfl rfl rfl (Nat.le_of_ble_eq_true rfl) (fun F668664 e668665 n668666 => ?_)
            have he668667 : F668664 q668055 = .inl (I .byte, 8192, .inl f668070) := (n668666 q668055 (rn_ao he668574 he668573)).trans he668574
            have he668668 : F668664 q668054 = .inr (19, [.ref q668055, .int p668057, .int z668663, .int p668059, .int p668060, .int p668061, .int p668062, .ref qo668063, .int p668064, .int p668065, .int p668066, .ref qo668067, .ref qo668068, .int p668069]) := e668665
            have hfr668669 : rFr [q668054] P668052 F668053 F668664 := rFr_put' List.mem_cons_self hfr668575 n668666
            refine G_goto 16 dr_cX14_number_79 (by decide +kernel) ?_
            exact ih16_668578 F668664 ol668660 z668663 (gB_w bz668663 (by decide) (by decide)) hfr668669 he668668 he668667 (by omega) (by omega) (by omega) (fun k e1 e2 ht => kt16_668578 k e1 e2 (fun R c1 c2 c3 => c3 gl668570 g668571 z668610 o668616 u668651 u668652 u668653 u668654 ol668660 z668663 k e1 e2 bg668571 r668609 hz668610 bz668610 bo668616 ht668618 r668649 hu668651 hu668652 hu668653 hu668654 ht668662 ez668663 (ht R c1 c2 c3))) (by omega)
    exact hlp16_668578 (((8193 : Int) - z668379.toInt).toNat + 1) F668380 0 z668379 ⟨by omega, by omega⟩ hfr668385 he668384 he668383 (by omega) (by omega) (by omega) (fun k e1 e2 ht => ht) (Nat.lt_succ_self _)
/- tr_RReader_symbol: a.0...at, a.0...kind -/
def tr_RReader_symbol (a1 : Int32) (a0_n : Int32) (a0_at : Int32) (a0_t_v : Nat → Int32) (o1 : Int32) (o2 : Int32) (o3 : gTx) : Prop := ∀ R : (Int32) → (Int32) → (gTx) → Prop,
  (∀ (x1 : Int32) (x2 : Int32), (((∃ (y1 : Int32), y1.toInt = a0_at.toInt + 1 ∧ a0_n.toInt ≤ y1.toInt) ∨ (∃ (y1 : Int32) (y2 : Int32), y1.toInt = a0_at.toInt + 1 ∧ y1.toInt < a0_n.toInt ∧ y2 = a0_t_v y1.toNatClampNeg ∧ gB y2 (-128) 127 ∧ y2.toInt ≤ 32) ∨ (∃ (y1 : Int32) (y2 : Int32), y1.toInt = a0_at.toInt + 1 ∧ y1.toInt < a0_n.toInt ∧ y2 = a0_t_v y1.toNatClampNeg ∧ gB y2 (-128) 127 ∧ 32 < y2.toInt ∧ a1.toInt ≤ 32))) → gB x1 0 65535 → tr_RString_length2 sb_32 x1 → a1.toInt ≤ 32 → x2.toInt = a0_at.toInt + 1 → R x2 (6 : Int32) (0, fun _ => 0)) →
  (∀ (x1 : Int32) (x2 : Int32) (x3 : Int32) (x4 : Int32) (x5 : Nat → Int32) (x6 : Int32) (x7 : Int32) (x8 : Nat → Int32) (x9 : Nat) (x10 : Nat → Int32) (x11 : Int32), (((∃ (y1 : Int32), y1.toInt = a0_at.toInt + 1 ∧ a0_n.toInt ≤ y1.toInt) ∨ (∃ (y1 : Int32) (y2 : Int32), y1.toInt = a0_at.toInt + 1 ∧ y1.toInt < a0_n.toInt ∧ y2 = a0_t_v y1.toNatClampNeg ∧ gB y2 (-128) 127 ∧ y2.toInt ≤ 32) ∨ (∃ (y1 : Int32) (y2 : Int32), y1.toInt = a0_at.toInt + 1 ∧ y1.toInt < a0_n.toInt ∧ y2 = a0_t_v y1.toNatClampNeg ∧ gB y2 (-128) 127 ∧ 32 < y2.toInt ∧ a1.toInt ≤ 32))) → gB x1 0 65535 → tr_RString_length2 sb_32 x1 → 32 < a1.toInt → x2 = (a1.toUInt32 % 65536).toInt32 → gB x3 (-1) 65534 → tr_RString_indexOf2 sb_37 x2 x3 → x3.toInt < 0 → gB x4 0 16777216 → (tr_RStringBuilder_append4 sb_32 (0 : Int32) (fun _ => 0) 16 x4 x5) → x6 = (a1.toUInt32 % 65536).toInt32 → gB x7 1 16777216 → tr_RStringBuilder_append x6 x4 x5 16 x7 x8 → tr_RStringBuilder_toString x7 x8 16 x9 x10 → x11.toInt = a0_at.toInt + 1 → R x11 (6 : Int32) (0, fun _ => 0)) →
  (∀ (x1 : Int32) (x2 : Int32) (x3 : Int32) (x4 : Int32) (x5 : Nat → Int32) (x6 : Int32) (x7 : Int32) (x8 : Nat → Int32) (x9 : Nat) (x10 : Nat → Int32) (x11 : Int32), (((∃ (y1 : Int32), y1.toInt = a0_at.toInt + 1 ∧ a0_n.toInt ≤ y1.toInt) ∨ (∃ (y1 : Int32) (y2 : Int32), y1.toInt = a0_at.toInt + 1 ∧ y1.toInt < a0_n.toInt ∧ y2 = a0_t_v y1.toNatClampNeg ∧ gB y2 (-128) 127 ∧ y2.toInt ≤ 32) ∨ (∃ (y1 : Int32) (y2 : Int32), y1.toInt = a0_at.toInt + 1 ∧ y1.toInt < a0_n.toInt ∧ y2 = a0_t_v y1.toNatClampNeg ∧ gB y2 (-128) 127 ∧ 32 < y2.toInt ∧ a1.toInt ≤ 32))) → gB x1 0 65535 → tr_RString_length2 sb_32 x1 → 32 < a1.toInt → x2 = (a1.toUInt32 % 65536).toInt32 → gB x3 (-1) 65534 → tr_RString_indexOf2 sb_37 x2 x3 → 0 ≤ x3.toInt → gB x4 0 16777216 → (tr_RStringBuilder_append4 sb_32 (0 : Int32) (fun _ => 0) 16 x4 x5) → x6 = (a1.toUInt32 % 65536).toInt32 → gB x7 1 16777216 → tr_RStringBuilder_append x6 x4 x5 16 x7 x8 → tr_RStringBuilder_toString x7 x8 16 x9 x10 → x11.toInt = a0_at.toInt + 1 → R x11 (5 : Int32) (x9, x10)) →
  (∀ (x1 : Int32) (x2 : Int32) (x3 : Int32) (x4 : Nat → Int32) (x5 : Int32) (x6 : Int32) (x7 : Nat → Int32) (x8 : Int32) (x9 : Int32) (x10 : Nat → Int32) (x11 : Nat) (x12 : Nat → Int32) (x13 : Int32) (x14 : Int32) (x15 : Nat → Int32) (x16 : Int32) (x17 : Nat → Int32) (x18 : Int32) (x19 : Nat → Int32) (x20 : Nat) (x21 : Nat → Int32) (x22 : Int32) (x23 : Int32) (x24 : Int32) (x25 : Int32) (x26 : Nat → Int32) (x27 : Int32) (x28 : Int32) (x29 : Nat → Int32) (x30 : Nat) (x31 : Nat → Int32), x1.toInt = a0_at.toInt + 1 → x1.toInt < a0_n.toInt → x2 = a0_t_v x1.toNatClampNeg → gB x2 (-128) 127 → 32 < x2.toInt → 32 < a1.toInt → gB x3 0 16777216 → (tr_RStringBuilder_append4 sb_32 (0 : Int32) (fun _ => 0) 16 x3 x4) → x5 = (a1.toUInt32 % 65536).toInt32 → gB x6 1 16777216 → tr_RStringBuilder_append x5 x3 x4 16 x6 x7 → x8 = (x2.toUInt32 % 65536).toInt32 → gB x9 1 16777216 → tr_RStringBuilder_append x8 x6 x7 16 x9 x10 → tr_RStringBuilder_toString x9 x10 16 x11 x12 → gB x13 0 16777216 → tr_RString_length x11 x13 → gB x14 0 16777216 → (tr_RStringBuilder_append4 sb_35 (0 : Int32) (fun _ => 0) 16 x14 x15) → gB x16 0 16777216 → tr_RStringBuilder_append3 x14 x15 16 x12 x11 x16 x17 → gB x18 0 16777216 → tr_RStringBuilder_append4 sb_35 x16 x17 16 x18 x19 → tr_RStringBuilder_toString x18 x19 16 x20 x21 → gB x22 (-2147483646) 16777215 → tr_RString_indexOf sb_36 x21 x20 x22 → x22.toInt < 0 → x23 = (a1.toUInt32 % 65536).toInt32 → gB x24 (-1) 65534 → tr_RString_indexOf2 sb_37 x23 x24 → x24.toInt < 0 → gB x25 0 16777216 → (tr_RStringBuilder_append4 sb_32 (0 : Int32) (fun _ => 0) 16 x25 x26) → x27 = (a1.toUInt32 % 65536).toInt32 → gB x28 1 16777216 → tr_RStringBuilder_append x27 x25 x26 16 x28 x29 → tr_RStringBuilder_toString x28 x29 16 x30 x31 → R x1 (6 : Int32) (0, fun _ => 0)) →
  (∀ (x1 : Int32) (x2 : Int32) (x3 : Int32) (x4 : Nat → Int32) (x5 : Int32) (x6 : Int32) (x7 : Nat → Int32) (x8 : Int32) (x9 : Int32) (x10 : Nat → Int32) (x11 : Nat) (x12 : Nat → Int32) (x13 : Int32) (x14 : Int32) (x15 : Nat → Int32) (x16 : Int32) (x17 : Nat → Int32) (x18 : Int32) (x19 : Nat → Int32) (x20 : Nat) (x21 : Nat → Int32) (x22 : Int32) (x23 : Int32) (x24 : Int32) (x25 : Int32) (x26 : Nat → Int32) (x27 : Int32) (x28 : Int32) (x29 : Nat → Int32) (x30 : Nat) (x31 : Nat → Int32), x1.toInt = a0_at.toInt + 1 → x1.toInt < a0_n.toInt → x2 = a0_t_v x1.toNatClampNeg → gB x2 (-128) 127 → 32 < x2.toInt → 32 < a1.toInt → gB x3 0 16777216 → (tr_RStringBuilder_append4 sb_32 (0 : Int32) (fun _ => 0) 16 x3 x4) → x5 = (a1.toUInt32 % 65536).toInt32 → gB x6 1 16777216 → tr_RStringBuilder_append x5 x3 x4 16 x6 x7 → x8 = (x2.toUInt32 % 65536).toInt32 → gB x9 1 16777216 → tr_RStringBuilder_append x8 x6 x7 16 x9 x10 → tr_RStringBuilder_toString x9 x10 16 x11 x12 → gB x13 0 16777216 → tr_RString_length x11 x13 → gB x14 0 16777216 → (tr_RStringBuilder_append4 sb_35 (0 : Int32) (fun _ => 0) 16 x14 x15) → gB x16 0 16777216 → tr_RStringBuilder_append3 x14 x15 16 x12 x11 x16 x17 → gB x18 0 16777216 → tr_RStringBuilder_append4 sb_35 x16 x17 16 x18 x19 → tr_RStringBuilder_toString x18 x19 16 x20 x21 → gB x22 (-2147483646) 16777215 → tr_RString_indexOf sb_36 x21 x20 x22 → x22.toInt < 0 → x23 = (a1.toUInt32 % 65536).toInt32 → gB x24 (-1) 65534 → tr_RString_indexOf2 sb_37 x23 x24 → 0 ≤ x24.toInt → gB x25 0 16777216 → (tr_RStringBuilder_append4 sb_32 (0 : Int32) (fun _ => 0) 16 x25 x26) → x27 = (a1.toUInt32 % 65536).toInt32 → gB x28 1 16777216 → tr_RStringBuilder_append x27 x25 x26 16 x28 x29 → tr_RStringBuilder_toString x28 x29 16 x30 x31 → R x1 (5 : Int32) (x30, x31)) →
  (∀ (x1 : Int32) (x2 : Int32) (x3 : Int32) (x4 : Nat → Int32) (x5 : Int32) (x6 : Int32) (x7 : Nat → Int32) (x8 : Int32) (x9 : Int32) (x10 : Nat → Int32) (x11 : Nat) (x12 : Nat → Int32) (x13 : Int32) (x14 : Int32) (x15 : Nat → Int32) (x16 : Int32) (x17 : Nat → Int32) (x18 : Int32) (x19 : Nat → Int32) (x20 : Nat) (x21 : Nat → Int32) (x22 : Int32) (x23 : Int32), x1.toInt = a0_at.toInt + 1 → x1.toInt < a0_n.toInt → x2 = a0_t_v x1.toNatClampNeg → gB x2 (-128) 127 → 32 < x2.toInt → 32 < a1.toInt → gB x3 0 16777216 → (tr_RStringBuilder_append4 sb_32 (0 : Int32) (fun _ => 0) 16 x3 x4) → x5 = (a1.toUInt32 % 65536).toInt32 → gB x6 1 16777216 → tr_RStringBuilder_append x5 x3 x4 16 x6 x7 → x8 = (x2.toUInt32 % 65536).toInt32 → gB x9 1 16777216 → tr_RStringBuilder_append x8 x6 x7 16 x9 x10 → tr_RStringBuilder_toString x9 x10 16 x11 x12 → gB x13 0 16777216 → tr_RString_length x11 x13 → gB x14 0 16777216 → (tr_RStringBuilder_append4 sb_35 (0 : Int32) (fun _ => 0) 16 x14 x15) → gB x16 0 16777216 → tr_RStringBuilder_append3 x14 x15 16 x12 x11 x16 x17 → gB x18 0 16777216 → tr_RStringBuilder_append4 sb_35 x16 x17 16 x18 x19 → tr_RStringBuilder_toString x18 x19 16 x20 x21 → gB x22 (-2147483646) 16777215 → tr_RString_indexOf sb_36 x21 x20 x22 → 0 ≤ x22.toInt → x23.toInt = a0_at.toInt + 2 → R x23 (5 : Int32) (x11, x12)) →
  R o1 o2 o3
abbrev ky_668699_Reader_symbol : gKey := (cX14_symbol, 4, "SpillForgeModel$Reader", none, [], "symbol", fun _ _ => True)
def pp_668699_Reader_symbol (D : va_G) (I : FieldType → ClassId) (P668676 : List Nat) (F668677 : Nat → va_E) (q668678 : Nat) (q668679 : Nat) (p668680 : Int32) (p668681 : Int32) (p668682 : Int32) (p668683 : Int32) (p668684 : Int32) (p668685 : Int32) (p668686 : Int32) (qo668687 : Nat) (p668688 : Int32) (p668689 : Int32) (p668690 : Int32) (qo668691 : Nat) (qo668692 : Nat) (p668693 : Int32) (f668694 : Nat → Int32) : Option Value → va_W → Nat → Nat → Prop := fun r w dc ds => ∃ (P669692 : List Nat) (F669693 : Nat → va_E) (o669689 : Int32) (o669690 : Int32) (q669691 : Nat) (xt669694 : gTx), r = none ∧ w = va_pl P669692 F669693 ∧ rSub P668676 P669692 ∧ rFr [q668678] P668676 F668677 F669693 ∧ F669693 q668678 = .inr (19, [.ref q668679, .int p668681, .int o669689, .int o669690, .int p668684, .int p668685, .int p668686, .ref q669691, .int p668688, .int p668689, .int p668690, .ref qo668691, .ref qo668692, .int p668693]) ∧ F669693 q668679 = .inl (I .byte, 8192, .inl f668694) ∧ dc ≤ (16 * (o669689.toInt - p668682.toInt)).toNat ∧ ds ≤ (160 * (o669689.toInt - p668682.toInt)).toNat ∧ gB o669689 1 8192 ∧ gB o669690 5 6 ∧ p668682.toInt < o669689.toInt ∧ o669689.toInt ≤ p668681.toInt ∧ tP I P669692 F669693 o669690 q669691 qo668692 qo668691 xt669694 ∧ vP o669690 p668685 ∧ tr_RReader_symbol p668680 p668681 p668682 f668694 o669689 o669690 xt669694
set_option maxRecDepth 100000 in
set_option maxHeartbeats 4000000 in
theorem cp_668699_Reader_symbol (l : Launch) (hl0 : l.stackTraces = false) (D : va_G) (I : FieldType → ClassId) (P668676 : List Nat) (F668677 : Nat → va_E) (q668678 : Nat) (q668679 : Nat) (p668680 : Int32) (p668681 : Int32) (p668682 : Int32) (p668683 : Int32) (p668684 : Int32) (p668685 : Int32) (p668686 : Int32) (qo668687 : Nat) (p668688 : Int32) (p668689 : Int32) (p668690 : Int32) (qo668691 : Nat) (qo668692 : Nat) (p668693 : Int32) (f668694 : Nat → Int32) (hmq668678 : q668678 ∈ P668676) (hmq668679 : q668679 ∈ P668676) (heq668678 : F668677 q668678 = .inr (19, [.ref q668679, .int p668681, .int p668682, .int p668683, .int p668684, .int p668685, .int p668686, .ref qo668687, .int p668688, .int p668689, .int p668690, .ref qo668691, .ref qo668692, .int p668693])) (heq668679 : F668677 q668679 = .inl (I .byte, 8192, .inl f668694)) (bp668680 : gB p668680 (-128) 127) (bp668681 : gB p668681 0 8192) (bp668682 : gB p668682 0 8192) (bp668683 : gB p668683 0 6) (bp668684 : gB p668684 0 8192) (bp668686 : gB p668686 0 6) (bp668688 : gB p668688 (-1) 8192) (bp668689 : gB p668689 0 4) (bp668690 : gB p668690 0 1000000) (bp668693 : gB p668693 0 1000000) (bf668694 : gF f668694 (-128) 127) (x668695 : p668682.toInt ≤ p668681.toInt) (x668696 : p668682.toInt < p668681.toInt) (x668697 : qo668692 ∈ P668676) (x668698 : qo668691 ∈ P668676) : CtA (gV D I) l yX14_symbol cX14_symbol 4 none 6 132 ((16 * (p668681.toInt - p668682.toInt)).toNat) ((160 * (p668681.toInt - p668682.toInt)).toNat) [.ref q668678, .int p668680] (va_pl P668676 F668677) (pp_668699_Reader_symbol D I P668676 F668677 q668678 q668679 p668680 p668681 p668682 p668683 p668684 p668685 p668686 qo668687 p668688 p668689 p668690 qo668691 qo668692 p668693 f668694) gNA := by
  refine CtA_of hl0 (by decide) (Nat.le_of_ble_eq_true rfl) ?_
  have bp668685 := gB_any p668685
  have hMC : 16 ≤ ((16 * (p668681.toInt - p668682.toInt)).toNat) := by omega
  have hMS : 160 ≤ ((160 * (p668681.toInt - p668682.toInt)).toNat) := by omega
  have jn668700 : ((∃ (y1 : Int32), y1.toInt = p668682.toInt + 1 ∧ p668681.toInt ≤ y1.toInt) ∨ (∃ (y1 : Int32) (y2 : Int32), y1.toInt = p668682.toInt + 1 ∧ y1.toInt < p668681.toInt ∧ y2 = f668694 y1.toNatClampNeg ∧ gB y2 (-128) 127 ∧ y2.toInt ≤ 32) ∨ (∃ (y1 : Int32) (y2 : Int32), y1.toInt = p668682.toInt + 1 ∧ y1.toInt < p668681.toInt ∧ y2 = f668694 y1.toNatClampNeg ∧ gB y2 (-128) 127 ∧ 32 < y2.toInt ∧ p668680.toInt ≤ 32)) → G (gV D I) l (gRm 6 132 ((16 * (p668681.toInt - p668682.toInt)).toNat) ((160 * (p668681.toInt - p668682.toInt)).toNat)) (gMA (gV D I) (pp_668699_Reader_symbol D I P668676 F668677 q668678 q668679 p668680 p668681 p668682 p668683 p668684 p668685 p668686 qo668687 p668688 p668689 p668690 qo668691 qo668692 p668693 f668694) gNA ((16 * (p668681.toInt - p668682.toInt)).toNat) ((160 * (p668681.toInt - p668682.toInt)).toNat)) ky_668699_Reader_symbol 73 [(0, .ref q668678), (1, .int p668680)] [] (va_pl P668676 F668677) 0 0 := by
    intro hJ668701
    refine G_ldcK (a := D.2 1000 32) dr_cX14_symbol_73 (fun _ _ _ h => gx_vk 32 rfl rfl h) ?_
    have hl32_668701 : (sb_32.length : Int) = 0 := rfl
    refine G_astore_n (L' := [(2, .ref (D.2 1000 32)), (0, .ref q668678), (1, .int p668680)]) dr_cX14_symbol_75 (Nat.le_of_ble_eq_true rfl) rfl ?_
    refine G_aload_n 0 dr_cX14_symbol_76 rfl ?_
    refine Gw_callVk (As := []) (gV_ok D I) (cp_659274_String_length l hl0 D I P668676 F668677 (D.2 1000 32) (D.2 1001 32) sb_32 (gx_sc 32 rfl rfl) (by omega) (by decide +kernel)) dr_cX14_symbol_77 ⟨wr_8_227, wr_1_21, wr_3_60, by decide, rfl, (Nat.le_of_ble_eq_true rfl), (Nat.le_of_ble_eq_true rfl)⟩ wr_3_58 wr_3_59 (fun _ _ _ h => ((gx_sc 32 rfl rfl) _ _ _ h).1) (Nat.le_trans (show 0 + 0 ≤ 16 by decide) hMC) (Nat.le_trans (show 0 + 0 ≤ 160 by decide) hMS) (Nat.le_of_ble_eq_true rfl) (fun r668706 w668707 dc668703 ds668704 hp668705 => ?_) (fun _ _ _ _ _ z => z.elim)
    obtain ⟨o668708, rfl, rfl, hdc, hds, bo668708, x668709, ht668710⟩ := hp668705
    have bo668708' : gB o668708 0 0 := ⟨by omega, by omega⟩
    change G _ _ _ _ _ _ _ (.int o668708 :: _) _ _ _
    refine G_widen (cs' := 0) (sl' := 0) (Nat.add_le_add_left hdc 0) (Nat.add_le_add_left hds 0) ?_
    refine G_iconst 2 dr_cX14_symbol_80 (by decide +kernel) ?_
    refine G_icmp_ne 120 dr_cX14_symbol_81 (by decide +kernel) (fun _ => ?_) (fun hc => absurd (show False by have := gj_eq hc (show Int32.toInt 2 = 2 by decide); omega) not_false)
    refine G_iconst 0 dr_cX14_symbol_120 (by decide +kernel) ?_
    refine G_istore_n (L' := [(3, .int 0), (2, .ref (D.2 1000 32)), (0, .ref q668678), (1, .int p668680)]) dr_cX14_symbol_121 (Nat.le_of_ble_eq_true rfl) rfl ?_
    clear bo668708'; try clear r668706; try clear w668707; try clear dc668703; try clear ds668704; try clear hp668705; try clear x668709
    refine G_aload_n 2 dr_cX14_symbol_122 rfl ?_
    refine G_iload_n 0 dr_cX14_symbol_123 rfl ?_
    refine G_if_ne 143 dr_cX14_symbol_124 (by decide +kernel) (fun hc => absurd hc (by decide)) (fun _ => ?_)
    refine G_iload_n 3 dr_cX14_symbol_127 rfl ?_
    refine G_bipush 32 dr_cX14_symbol_128 (by decide +kernel) ?_
    refine G_icmp_le 147 dr_cX14_symbol_130 (by decide +kernel) (fun hc668711 => ?_) (fun hc668711 => ?_)
    · have r668712 : p668680.toInt ≤ 32 := gj_le hc668711 (show Int32.toInt 32 = 32 by decide)
      have bp668680' : gB p668680 (-128) 32 := ⟨by omega, by omega⟩
      refine G_bipush 6 dr_cX14_symbol_147 (by decide +kernel) ?_
      refine Gp_put 3 hmq668678 heq668678 dr_cX14_symbol_149 (gk_X14 D I) (Nat.le_of_ble_eq_true rfl) wr_9_39 rfl rfl rfl (Nat.le_of_ble_eq_true rfl) (fun F668713 e668714 n668715 => ?_)
      have he668716 : F668713 q668679 = .inl (I .byte, 8192, .inl f668694) := (n668715 q668679 (rn_ao heq668679 heq668678)).trans heq668679
      have he668717 : F668713 q668678 = .inr (19, [.ref q668679, .int p668681, .int p668682, .int 6, .int p668684, .int p668685, .int p668686, .ref qo668687, .int p668688, .int p668689, .int p668690, .ref qo668691, .ref qo668692, .int p668693]) := e668714
      have hfr668718 : rFr [q668678] P668676 F668677 F668713 := rFr_put (rFr_rf (W := []) (P := P668676) (F := F668677)) n668715
      refine G_aload_n 2 dr_cX14_symbol_152 rfl ?_
      refine G_iload_n 0 dr_cX14_symbol_153 rfl ?_
      refine G_if_eq 161 dr_cX14_symbol_154 (by decide +kernel) (fun _ => ?_) (fun hc => absurd hc (by decide))
      refine G_iload_n 3 dr_cX14_symbol_161 rfl ?_
      refine G_bipush 32 dr_cX14_symbol_162 (by decide +kernel) ?_
      refine G_icmp_le 190 dr_cX14_symbol_164 (by decide +kernel) (fun _ => ?_) (fun hc => absurd (show False by have := gj_nle hc (show Int32.toInt 32 = 32 by decide); omega) not_false)
      refine G_ldcK (a := D.2 1000 32) dr_cX14_symbol_190 (fun _ _ _ h => gx_vk 32 rfl rfl h) ?_
      have hl32_668718 : (sb_32.length : Int) = 0 := rfl
      refine Gp_put 7 hmq668678 he668717 dr_cX14_symbol_192 (gk_X14 D I) (Nat.le_of_ble_eq_true rfl) wr_9_43 rfl rfl rfl (Nat.le_of_ble_eq_true rfl) (fun F668720 e668721 n668722 => ?_)
      have he668723 : F668720 q668679 = .inl (I .byte, 8192, .inl f668694) := (n668722 q668679 (rn_ao he668716 he668717)).trans he668716
      have he668724 : F668720 q668678 = .inr (19, [.ref q668679, .int p668681, .int p668682, .int 6, .int p668684, .int p668685, .int p668686, .ref (D.2 1000 32), .int p668688, .int p668689, .int p668690, .ref qo668691, .ref qo668692, .int p668693]) := e668721
      have hfr668725 : rFr [q668678] P668676 F668677 F668720 := rFr_put' List.mem_cons_self hfr668718 n668722
      clear he668716 he668717 hfr668718
      refine G_aload_n 2 dr_cX14_symbol_195 rfl ?_
      refine G_dup dr_cX14_symbol_196 rfl ?_
      refine Gp_get 2 hmq668678 he668724 dr_cX14_symbol_197 (gk_X14 D I) (Nat.le_of_ble_eq_true rfl) wr_9_38 rfl ?_
      refine G_iload_n 0 dr_cX14_symbol_200 rfl ?_
      refine G_if_eq 208 dr_cX14_symbol_201 (by decide +kernel) (fun _ => ?_) (fun hc => absurd hc (by decide))
      refine G_iconst 1 dr_cX14_symbol_208 (by decide +kernel) ?_
      refine G_iadd dr_cX14_symbol_209 (G_nam fun z668726 hz668726 => ?_)
      have ez668726 : z668726.toInt = p668682.toInt + 1 := by rw [gI_add hz668726 bp668682 (gBl (show Int32.toInt 1 = 1 by decide)) (by decide) (by decide), show Int32.toInt 1 = 1 from by decide]
      have bz668726 : gB z668726 1 8193 := gB_add (gI_add hz668726 bp668682 (gBl (show Int32.toInt 1 = 1 by decide)) (by decide) (by decide)) bp668682 (gBl (show Int32.toInt 1 = 1 by decide)) (by decide) (by decide)
      refine Gp_put 2 hmq668678 he668724 dr_cX14_symbol_210 (gk_X14 D I) (Nat.le_of_ble_eq_true rfl) wr_9_38 rfl rfl rfl (Nat.le_of_ble_eq_true rfl) (fun F668727 e668728 n668729 => ?_)
      have he668730 : F668727 q668679 = .inl (I .byte, 8192, .inl f668694) := (n668729 q668679 (rn_ao he668723 he668724)).trans he668723
      have he668731 : F668727 q668678 = .inr (19, [.ref q668679, .int p668681, .int z668726, .int 6, .int p668684, .int p668685, .int p668686, .ref (D.2 1000 32), .int p668688, .int p668689, .int p668690, .ref qo668691, .ref qo668692, .int p668693]) := e668728
      have hfr668732 : rFr [q668678] P668676 F668677 F668727 := rFr_put' List.mem_cons_self hfr668725 n668729
      exact G_vretA dr_cX14_symbol_213 rfl (show 0 ≤ ((16 * (p668681.toInt - p668682.toInt)).toNat) by omega) (show 0 ≤ ((160 * (p668681.toInt - p668682.toInt)).toNat) by omega) ⟨P668676, F668727, z668726, 6, (D.2 1000 32), (0, fun _ => 0), rfl, rfl, (rSub_rf (P := P668676)), hfr668732, he668731, he668730, (by omega), (by omega), ⟨by omega, by omega⟩, (gB_w (gBl (show Int32.toInt 6 = 6 by decide)) (by decide) (by decide)), (by have qa0 : Int32.toInt 0 = 0 := (by decide); have qa1 : Int32.toInt 6 = 6 := (by decide); omega), (by have qa0 : Int32.toInt 0 = 0 := (by decide); have qa1 : Int32.toInt 6 = 6 := (by decide); omega), (tP_no (by decide) (by decide)), (vP_no (by decide) (by decide)), (fun R c1 c2 c3 c4 c5 c6 => c1 o668708 z668726 hJ668701 bo668708 ht668710 r668712 ez668726)⟩
    · have r668733 : 32 < p668680.toInt := gj_nle hc668711 (show Int32.toInt 32 = 32 by decide)
      have bp668680' : gB p668680 33 127 := ⟨by omega, by omega⟩
      refine G_ldcK (a := D.2 1000 37) dr_cX14_symbol_133 (fun _ _ _ h => gx_vk 37 rfl rfl h) ?_
      have hl37_668733 : (sb_37.length : Int) = 14 := rfl
      refine G_iload_n 3 dr_cX14_symbol_135 rfl ?_
      refine G_i2c dr_cX14_symbol_136 (G_nam fun z668735 hz668735 => ?_)
      have ez668735 : z668735.toInt = p668680.toInt := gI_i2c hz668735 (by omega) (by omega)
      have bz668735 : gB z668735 33 127 := ⟨by omega, by omega⟩
      refine Gw_callVk (As := [.int z668735]) (gV_ok D I) (cp_667261_String_indexOf l hl0 D I P668676 F668677 (D.2 1000 37) (D.2 1001 37) sb_37 z668735 (gx_sc 37 rfl rfl) (by omega) (by decide +kernel) (gB_w bz668735 (by decide) (by decide))) dr_cX14_symbol_137 ⟨wr_8_230, wr_1_21, wr_8_233, by decide, rfl, (Nat.le_of_ble_eq_true rfl), (Nat.le_of_ble_eq_true rfl)⟩ wr_8_231 wr_8_232 (fun _ _ _ h => ((gx_sc 37 rfl rfl) _ _ _ h).1) (Nat.le_trans (show 0 + 0 ≤ 16 by decide) hMC) (Nat.le_trans (show 0 + 0 ≤ 160 by decide) hMS) (Nat.le_of_ble_eq_true rfl) (fun r668739 w668740 dc668736 ds668737 hp668738 => ?_) (fun _ _ _ _ _ z => z.elim)
      obtain ⟨o668741, rfl, rfl, hdc, hds, bo668741, ht668742⟩ := hp668738
      change G _ _ _ _ _ _ _ (.int o668741 :: _) _ _ _
      refine G_widen (cs' := 0) (sl' := 0) (Nat.add_le_add_left hdc 0) (Nat.add_le_add_left hds 0) ?_
      refine G_if_lt 147 dr_cX14_symbol_140 (by decide +kernel) (fun hc668743 => ?_) (fun hc668743 => ?_)
      · have r668744 : o668741.toInt < 0 := gj_lt hc668743 (show Int32.toInt 0 = 0 by decide)
        have bo668741' : gB o668741 (-1) (-1) := ⟨by omega, by omega⟩
        refine G_bipush 6 dr_cX14_symbol_147 (by decide +kernel) ?_
        refine Gp_put 3 hmq668678 heq668678 dr_cX14_symbol_149 (gk_X14 D I) (Nat.le_of_ble_eq_true rfl) wr_9_39 rfl rfl rfl (Nat.le_of_ble_eq_true rfl) (fun F668745 e668746 n668747 => ?_)
        have he668748 : F668745 q668679 = .inl (I .byte, 8192, .inl f668694) := (n668747 q668679 (rn_ao heq668679 heq668678)).trans heq668679
        have he668749 : F668745 q668678 = .inr (19, [.ref q668679, .int p668681, .int p668682, .int 6, .int p668684, .int p668685, .int p668686, .ref qo668687, .int p668688, .int p668689, .int p668690, .ref qo668691, .ref qo668692, .int p668693]) := e668746
        have hfr668750 : rFr [q668678] P668676 F668677 F668745 := rFr_put (rFr_rf (W := []) (P := P668676) (F := F668677)) n668747
        clear ez668735 bz668735 bo668741'; try clear r668739; try clear w668740; try clear dc668736; try clear ds668737; try clear hp668738
        refine G_aload_n 2 dr_cX14_symbol_152 rfl ?_
        refine G_iload_n 0 dr_cX14_symbol_153 rfl ?_
        refine G_if_eq 161 dr_cX14_symbol_154 (by decide +kernel) (fun _ => ?_) (fun hc => absurd hc (by decide))
        refine G_iload_n 3 dr_cX14_symbol_161 rfl ?_
        refine G_bipush 32 dr_cX14_symbol_162 (by decide +kernel) ?_
        refine G_icmp_le 190 dr_cX14_symbol_164 (by decide +kernel) (fun hc => absurd (show False by have := gj_le hc (show Int32.toInt 32 = 32 by decide); omega) not_false) (fun _ => ?_)
        refine G_new [.null, .int 0, .int 0, .int 0] dr_cX14_symbol_167 (gk_J4 D I) wr_7_235 wr_7_44 wr_1_20 (gfs_J4) (Nat.le_trans (show 0 + 1 ≤ 16 by decide) hMC) (Nat.le_trans (show 0 + 4 ≤ 160 by decide) hMS) (fun q668751 => Gp_in (fun P668752 F668753 hq668754 hP668755 e668756 n668757 => ?_))
        refine G_widen (cs' := 1) (sl' := 4) (by omega) (by omega) ?_
        have he668758 : F668753 q668678 = .inr (19, [.ref q668679, .int p668681, .int p668682, .int 6, .int p668684, .int p668685, .int p668686, .ref qo668687, .int p668688, .int p668689, .int p668690, .ref qo668691, .ref qo668692, .int p668693]) := (n668757 q668678 (fun h => hq668754 (h ▸ hmq668678))).trans he668749
        have he668759 : F668753 q668679 = .inl (I .byte, 8192, .inl f668694) := (n668757 q668679 (fun h => hq668754 (h ▸ hmq668679))).trans he668748
        have he668760 : F668753 q668751 = .inr (1, [.null, .int 0, .int 0, .int 0]) := e668756
        have hm668761 : q668678 ∈ P668752 := (hP668755 q668678).mpr (Or.inl hmq668678)
        have hm668762 : q668679 ∈ P668752 := (hP668755 q668679).mpr (Or.inl hmq668679)
        have hm668763 : q668751 ∈ P668752 := (hP668755 q668751).mpr (Or.inr rfl)
        have hq668764 : q668751 ∉ P668676 := fun z => hq668754 ((rSub_rf (P := P668676)) q668751 z)
        have hfr668765 : rFr [q668678] P668676 F668677 F668753 := rFr_new (rSub_rf (P := P668676)) hq668754 hfr668750 n668757
        have hsb668766 : rSub P668676 P668752 := rSub_new (rSub_rf (P := P668676)) hP668755
        refine G_dup dr_cX14_symbol_170 rfl ?_
        refine Gw_callI (As := []) (gV_ok D I) (cp_658952_StringBuilder_init l hl0 D I P668752 F668753 q668751 0 0 hm668763 he668760 (gB_w (gBl (show Int32.toInt 0 = 0 by decide)) (by decide) (by decide)) (gB_w (gBl (show Int32.toInt 0 = 0 by decide)) (by decide) (by decide))) dr_cX14_symbol_171 ⟨wr_7_236, wr_1_20, wr_7_47, by decide, rfl, (Nat.le_of_ble_eq_true rfl), (Nat.le_of_ble_eq_true rfl)⟩ wr_7_46 rfl (Nat.le_trans (show 1 + 1 ≤ 16 by decide) hMC) (Nat.le_trans (show 4 + 16 ≤ 160 by decide) hMS) (Nat.le_of_ble_eq_true rfl) (fun r668770 w668771 dc668767 ds668768 hp668769 => ?_)
        obtain ⟨P668773, F668774, q668772, rfl, rfl, hsb668775, hfr668776, he668777, he668778, hm668779, hq668780, hdc, hds⟩ := hp668769
        have hm668781 : q668678 ∈ P668773 := hsb668775 q668678 hm668761
        have hm668782 : q668679 ∈ P668773 := hsb668775 q668679 hm668762
        have hm668783 : q668751 ∈ P668773 := hsb668775 q668751 hm668763
        have hq668784 : q668772 ∉ P668676 := fun z => hq668780 (hsb668766 q668772 z)
        have hsb668785 : rSub P668676 P668773 := rSub_tr hsb668766 hsb668775
        have he668786 : F668774 q668678 = .inr (19, [.ref q668679, .int p668681, .int p668682, .int 6, .int p668684, .int p668685, .int p668686, .ref qo668687, .int p668688, .int p668689, .int p668690, .ref qo668691, .ref qo668692, .int p668693]) := (hfr668776 q668678 hm668761 (nm_c (fun h => hq668764 (h ▸ hmq668678)) nm_n)).trans he668758
        have he668787 : F668774 q668679 = .inl (I .byte, 8192, .inl f668694) := (hfr668776 q668679 hm668762 (nm_c (fun h => hq668764 (h ▸ hmq668679)) nm_n)).trans he668759
        have hfr668788 : rFr [q668678] P668676 F668677 F668774 := rFr_call hsb668766 hfr668765 hfr668776 (fun b hb hn => ⟨(nm_c (fun e => hn (e ▸ List.mem_cons_self)) nm_n), (nm_c (fun e => hq668764 (e ▸ hb)) nm_n)⟩)
        change G _ _ _ _ _ _ _ _ _ _ _
        refine G_widen (cs' := 2) (sl' := 20) (Nat.add_le_add_left hdc 1) (Nat.add_le_add_left hds 4) ?_
        refine G_ldcK (a := D.2 1000 32) dr_cX14_symbol_174 (fun _ _ _ h => gx_vk 32 rfl rfl h) ?_
        have hl32_668788 : (sb_32.length : Int) = 0 := rfl
        refine Gw_callV (As := [.ref (D.2 1000 32)]) (gV_ok D I) (cp_659254_StringBuilder_append l hl0 D I P668773 F668774 q668751 q668772 (D.2 1000 32) (D.2 1001 32) sb_32 0 0 (fun _ => 0) 16 hm668783 hm668779 he668777 he668778 (gx_sc 32 rfl rfl) (by omega) (by decide +kernel) (gB_w (gBl (show Int32.toInt 0 = 0 by decide)) (by decide) (by decide)) (gB_w (gBl (show Int32.toInt 0 = 0 by decide)) (by decide) (by decide)) (gF_w gF_0 (by decide) (by decide)) (by have qa0 : Int32.toInt 0 = 0 := (by decide); have qa1 : Int32.toInt 6 = 6 := (by decide); omega) (by have qa0 : Int32.toInt 0 = 0 := (by decide); have qa1 : Int32.toInt 6 = 6 := (by decide); omega)) dr_cX14_symbol_176 ⟨wr_8_195, wr_1_20, wr_8_143, by decide, rfl, (Nat.le_of_ble_eq_true rfl), (Nat.le_of_ble_eq_true rfl)⟩ wr_8_141 wr_8_142 hm668783 he668777 rfl (Nat.le_trans (show 2 + 0 ≤ 16 by decide) hMC) (Nat.le_trans (show 20 + 0 ≤ 160 by decide) hMS) (Nat.le_of_ble_eq_true rfl) (fun r668793 w668794 dc668790 ds668791 hp668792 => ?_) (fun _ _ _ _ _ z => z.elim)
        obtain ⟨F668801, o668795, f668796, rfl, rfl, hfr668803, he668804, he668805, hdc, hds, bo668795, bf668796, x668797, x668798, x668799, ht668800⟩ := hp668792
        have he668806 : F668801 q668678 = .inr (19, [.ref q668679, .int p668681, .int p668682, .int 6, .int p668684, .int p668685, .int p668686, .ref qo668687, .int p668688, .int p668689, .int p668690, .ref qo668691, .ref qo668692, .int p668693]) := (hfr668803 q668678 hm668781 (nm_c (fun h => hq668764 (h ▸ hmq668678)) (nm_c (fun h => hq668784 (h ▸ hmq668678)) nm_n))).trans he668786
        have he668807 : F668801 q668679 = .inl (I .byte, 8192, .inl f668694) := (hfr668803 q668679 hm668782 (nm_c (fun h => hq668764 (h ▸ hmq668679)) (nm_c (fun h => hq668784 (h ▸ hmq668679)) nm_n))).trans he668787
        have hfr668808 : rFr [q668678] P668676 F668677 F668801 := rFr_call hsb668785 hfr668788 hfr668803 (fun b hb hn => ⟨(nm_c (fun e => hn (e ▸ List.mem_cons_self)) nm_n), (nm_c (fun e => hq668764 (e ▸ hb)) (nm_c (fun e => hq668784 (e ▸ hb)) nm_n))⟩)
        rw [show Int32.toInt 0 = 0 from by decide] at x668797
        have bo668795' : gB o668795 0 0 := ⟨by omega, by omega⟩
        rw [show Int32.toInt 0 = 0 from by decide] at x668798
        rw [show Int32.toInt 0 = 0 from by decide] at x668799
        change G _ _ _ _ _ _ _ (.ref q668751 :: _) _ _ _
        refine G_widen (cs' := 2) (sl' := 20) (Nat.add_le_add_left hdc 2) (Nat.add_le_add_left hds 20) ?_
        refine G_iload_n 3 dr_cX14_symbol_179 rfl ?_
        refine G_i2c dr_cX14_symbol_180 (G_nam fun z668809 hz668809 => ?_)
        have ez668809 : z668809.toInt = p668680.toInt := gI_i2c hz668809 (by omega) (by omega)
        have bz668809 : gB z668809 33 127 := ⟨by omega, by omega⟩
        refine Gw_callV (As := [.int z668809]) (gV_ok D I) (cp_658513_StringBuilder_append l hl0 D I P668773 F668801 q668751 q668772 z668809 0 o668795 f668796 16 hm668783 hm668779 he668804 he668805 (gB_w bz668809 (by decide) (by decide)) (gB_w (gBl (show Int32.toInt 0 = 0 by decide)) (by decide) (by decide)) (gB_w bo668795' (by decide) (by decide)) bf668796 (by have qa0 : Int32.toInt 0 = 0 := (by decide); have qa1 : Int32.toInt 6 = 6 := (by decide); omega) (by have qa0 : Int32.toInt 0 = 0 := (by decide); have qa1 : Int32.toInt 6 = 6 := (by decide); omega)) dr_cX14_symbol_181 ⟨wr_7_237, wr_1_20, wr_8_0, by decide, rfl, (Nat.le_of_ble_eq_true rfl), (Nat.le_of_ble_eq_true rfl)⟩ wr_7_238 wr_7_239 hm668783 he668804 rfl (Nat.le_trans (show 2 + 0 ≤ 16 by decide) hMC) (Nat.le_trans (show 20 + 0 ≤ 160 by decide) hMS) (Nat.le_of_ble_eq_true rfl) (fun r668813 w668814 dc668810 ds668811 hp668812 => ?_) (fun _ _ _ _ _ z => z.elim)
        obtain ⟨F668819, o668815, f668816, rfl, rfl, hfr668821, he668822, he668823, hdc, hds, bo668815, bf668816, x668817, ht668818⟩ := hp668812
        have he668824 : F668819 q668678 = .inr (19, [.ref q668679, .int p668681, .int p668682, .int 6, .int p668684, .int p668685, .int p668686, .ref qo668687, .int p668688, .int p668689, .int p668690, .ref qo668691, .ref qo668692, .int p668693]) := (hfr668821 q668678 hm668781 (nm_c (fun h => hq668784 (h ▸ hmq668678)) (nm_c (fun h => hq668764 (h ▸ hmq668678)) nm_n))).trans he668806
        have he668825 : F668819 q668679 = .inl (I .byte, 8192, .inl f668694) := (hfr668821 q668679 hm668782 (nm_c (fun h => hq668784 (h ▸ hmq668679)) (nm_c (fun h => hq668764 (h ▸ hmq668679)) nm_n))).trans he668807
        have hfr668826 : rFr [q668678] P668676 F668677 F668819 := rFr_call hsb668785 hfr668808 hfr668821 (fun b hb hn => ⟨(nm_c (fun e => hn (e ▸ List.mem_cons_self)) nm_n), (nm_c (fun e => hq668784 (e ▸ hb)) (nm_c (fun e => hq668764 (e ▸ hb)) nm_n))⟩)
        have bo668815' : gB o668815 1 1 := ⟨by omega, by omega⟩
        change G _ _ _ _ _ _ _ (.ref q668751 :: _) _ _ _
        refine G_widen (cs' := 2) (sl' := 20) (Nat.add_le_add_left hdc 2) (Nat.add_le_add_left hds 20) ?_
        refine Gw_callV (As := []) (gV_ok D I) (cp_659727_StringBuilder_toString l hl0 D I P668773 F668819 q668751 q668772 0 o668815 f668816 16 hm668783 hm668779 he668822 he668823 (gB_w (gBl (show Int32.toInt 0 = 0 by decide)) (by decide) (by decide)) (gB_w bo668815' (by decide) (by decide)) bf668816 (by have qa0 : Int32.toInt 0 = 0 := (by decide); have qa1 : Int32.toInt 6 = 6 := (by decide); omega) (by have qa0 : Int32.toInt 0 = 0 := (by decide); have qa1 : Int32.toInt 6 = 6 := (by decide); omega)) dr_cX14_symbol_184 ⟨wr_8_66, wr_1_20, wr_8_69, by decide, rfl, (Nat.le_of_ble_eq_true rfl), (Nat.le_of_ble_eq_true rfl)⟩ wr_8_67 wr_8_68 hm668783 he668822 rfl (Nat.le_trans (show 2 + 2 ≤ 16 by decide) hMC) (show 20 + (o668815.toInt.toNat + 4) ≤ ((160 * (p668681.toInt - p668682.toInt)).toNat) by first | omega | decide) (Nat.le_of_ble_eq_true rfl) (fun r668830 w668831 dc668827 ds668828 hp668829 => ?_) (fun _ _ _ _ _ z => z.elim)
        obtain ⟨P668839, F668840, q668832, q668833, n668834, f668835, rfl, rfl, hsb668841, hfr668842, he668843, he668844, he668845, he668846, hm668847, hq668848, hm668849, hq668850, hdc, hds, bf668835, x668836, x668837, ht668838⟩ := hp668829
        have hm668851 : q668678 ∈ P668839 := hsb668841 q668678 hm668781
        have hm668852 : q668679 ∈ P668839 := hsb668841 q668679 hm668782
        have hm668853 : q668751 ∈ P668839 := hsb668841 q668751 hm668783
        have hm668854 : q668772 ∈ P668839 := hsb668841 q668772 hm668779
        have hq668855 : q668832 ∉ P668676 := fun z => hq668848 (hsb668785 q668832 z)
        have hq668856 : q668833 ∉ P668676 := fun z => hq668850 (hsb668785 q668833 z)
        have hsb668857 : rSub P668676 P668839 := rSub_tr hsb668785 hsb668841
        have he668858 : F668840 q668678 = .inr (19, [.ref q668679, .int p668681, .int p668682, .int 6, .int p668684, .int p668685, .int p668686, .ref qo668687, .int p668688, .int p668689, .int p668690, .ref qo668691, .ref qo668692, .int p668693]) := (hfr668842 q668678 hm668781 nm_n).trans he668824
        have he668859 : F668840 q668679 = .inl (I .byte, 8192, .inl f668694) := (hfr668842 q668679 hm668782 nm_n).trans he668825
        have hfr668860 : rFr [q668678] P668676 F668677 F668840 := rFr_call hsb668785 hfr668826 hfr668842 (fun b hb hn => ⟨(nm_c (fun e => hn (e ▸ List.mem_cons_self)) nm_n), nm_n⟩)
        have hne668861 : q668772 ≠ q668833 := fun h => hq668850 (h ▸ hm668779)
        change G _ _ _ _ _ _ _ (.ref q668832 :: _) _ _ _
        refine G_widen (cs' := 4) (sl' := 20 + (o668815.toInt.toNat + 4)) (Nat.add_le_add_left hdc 2) (by omega) ?_
        refine G_goto 192 dr_cX14_symbol_187 (by decide +kernel) ?_
        refine Gp_put 7 hm668851 he668858 dr_cX14_symbol_192 (gk_X14 D I) (Nat.le_of_ble_eq_true rfl) wr_9_43 rfl rfl rfl (Nat.le_of_ble_eq_true rfl) (fun F668862 e668863 n668864 => ?_)
        have he668865 : F668862 q668679 = .inl (I .byte, 8192, .inl f668694) := (n668864 q668679 (rn_ao he668859 he668858)).trans he668859
        have he668866 : F668862 q668832 = .inr (0, [.ref q668833, .int 0, .int 0, .int 0]) := (n668864 q668832 (fun h => hq668855 (h ▸ hmq668678))).trans he668843
        have he668867 : F668862 q668751 = .inr (1, [.ref q668772, .int 0, .int 0, .int o668815]) := (n668864 q668751 (fun h => hq668764 (h ▸ hmq668678))).trans he668844
        have he668868 : F668862 q668772 = .inl (I .byte, 16, .inl f668816) := (n668864 q668772 (fun h => hq668784 (h ▸ hmq668678))).trans he668845
        have he668869 : F668862 q668833 = .inl (I .byte, n668834, .inl f668835) := (n668864 q668833 (fun h => hq668856 (h ▸ hmq668678))).trans he668846
        have he668870 : F668862 q668678 = .inr (19, [.ref q668679, .int p668681, .int p668682, .int 6, .int p668684, .int p668685, .int p668686, .ref q668832, .int p668688, .int p668689, .int p668690, .ref qo668691, .ref qo668692, .int p668693]) := e668863
        have hfr668871 : rFr [q668678] P668676 F668677 F668862 := rFr_put' List.mem_cons_self hfr668860 n668864
        clear he668748 he668749 hfr668750 he668758 he668759 he668760 hm668761 hm668762 hm668763 hq668764 hfr668765 hsb668766 hsb668775 hfr668776 he668777 he668778 hm668779 hq668780 hm668781 hm668782 hm668783 hq668784 hsb668785 he668786 he668787 hfr668788 hfr668803 he668804 he668805 bf668796 he668806 he668807 hfr668808 ez668809 bz668809 hfr668821 he668822 he668823 bf668816 he668824 he668825 hfr668826 hsb668841 hfr668842 he668843 he668844 he668845 he668846 hq668848 hq668850 hm668853 hm668854 he668858 he668859 hfr668860 hne668861 he668867 he668868; try clear r668770; try clear w668771; try clear dc668767; try clear ds668768; try clear hp668769; try clear r668793; try clear w668794; try clear dc668790; try clear ds668791; try clear hp668792; try clear x668798; try clear x668799; try clear r668813; try clear w668814; try clear dc668810; try clear ds668811; try clear hp668812; try clear r668830; try clear w668831; try clear dc668827; try clear ds668828; try clear hp668829; try clear x668837
        refine G_aload_n 2 dr_cX14_symbol_195 rfl ?_
        refine G_dup dr_cX14_symbol_196 rfl ?_
        refine Gp_get 2 hm668851 he668870 dr_cX14_symbol_197 (gk_X14 D I) (Nat.le_of_ble_eq_true rfl) wr_9_38 rfl ?_
        refine G_iload_n 0 dr_cX14_symbol_200 rfl ?_
        refine G_if_eq 208 dr_cX14_symbol_201 (by decide +kernel) (fun _ => ?_) (fun hc => absurd hc (by decide))
        refine G_iconst 1 dr_cX14_symbol_208 (by decide +kernel) ?_
        refine G_iadd dr_cX14_symbol_209 (G_nam fun z668872 hz668872 => ?_)
        have ez668872 : z668872.toInt = p668682.toInt + 1 := by rw [gI_add hz668872 bp668682 (gBl (show Int32.toInt 1 = 1 by decide)) (by decide) (by decide), show Int32.toInt 1 = 1 from by decide]
        have bz668872 : gB z668872 1 8193 := gB_add (gI_add hz668872 bp668682 (gBl (show Int32.toInt 1 = 1 by decide)) (by decide) (by decide)) bp668682 (gBl (show Int32.toInt 1 = 1 by decide)) (by decide) (by decide)
        refine Gp_put 2 hm668851 he668870 dr_cX14_symbol_210 (gk_X14 D I) (Nat.le_of_ble_eq_true rfl) wr_9_38 rfl rfl rfl (Nat.le_of_ble_eq_true rfl) (fun F668873 e668874 n668875 => ?_)
        have he668876 : F668873 q668679 = .inl (I .byte, 8192, .inl f668694) := (n668875 q668679 (rn_ao he668865 he668870)).trans he668865
        have he668877 : F668873 q668832 = .inr (0, [.ref q668833, .int 0, .int 0, .int 0]) := (n668875 q668832 (fun h => hq668855 (h ▸ hmq668678))).trans he668866
        have he668878 : F668873 q668833 = .inl (I .byte, n668834, .inl f668835) := (n668875 q668833 (fun h => hq668856 (h ▸ hmq668678))).trans he668869
        have he668879 : F668873 q668678 = .inr (19, [.ref q668679, .int p668681, .int z668872, .int 6, .int p668684, .int p668685, .int p668686, .ref q668832, .int p668688, .int p668689, .int p668690, .ref qo668691, .ref qo668692, .int p668693]) := e668874
        have hfr668880 : rFr [q668678] P668676 F668677 F668873 := rFr_put' List.mem_cons_self hfr668871 n668875
        exact G_vretA dr_cX14_symbol_213 rfl (show 4 ≤ ((16 * (p668681.toInt - p668682.toInt)).toNat) by omega) (show 20 + (o668815.toInt.toNat + 4) ≤ ((160 * (p668681.toInt - p668682.toInt)).toNat) by omega) ⟨P668839, F668873, z668872, 6, q668832, (0, fun _ => 0), rfl, rfl, hsb668857, hfr668880, he668879, he668876, (by omega), (by omega), ⟨by omega, by omega⟩, (gB_w (gBl (show Int32.toInt 6 = 6 by decide)) (by decide) (by decide)), (by have qa0 : Int32.toInt 0 = 0 := (by decide); have qa1 : Int32.toInt 6 = 6 := (by decide); omega), (by have qa0 : Int32.toInt 0 = 0 := (by decide); have qa1 : Int32.toInt 6 = 6 := (by decide); omega), (tP_no (by decide) (by decide)), (vP_no (by decide) (by decide)), (fun R c1 c2 c3 c4 c5 c6 => c2 o668708 z668735 o668741 o668795 f668796 z668809 o668815 f668816 n668834 f668835 z668872 hJ668701 bo668708 ht668710 r668733 hz668735 bo668741 ht668742 r668744 bo668795 ht668800 hz668809 bo668815 ht668818 ht668838 ez668872)⟩
      · have r668881 : 0 ≤ o668741.toInt := gj_nlt hc668743 (show Int32.toInt 0 = 0 by decide)
        have bo668741' : gB o668741 0 65534 := ⟨by omega, by omega⟩
        refine G_iconst 5 dr_cX14_symbol_143 (by decide +kernel) ?_
        refine G_goto 149 dr_cX14_symbol_144 (by decide +kernel) ?_
        refine Gp_put 3 hmq668678 heq668678 dr_cX14_symbol_149 (gk_X14 D I) (Nat.le_of_ble_eq_true rfl) wr_9_39 rfl rfl rfl (Nat.le_of_ble_eq_true rfl) (fun F668882 e668883 n668884 => ?_)
        have he668885 : F668882 q668679 = .inl (I .byte, 8192, .inl f668694) := (n668884 q668679 (rn_ao heq668679 heq668678)).trans heq668679
        have he668886 : F668882 q668678 = .inr (19, [.ref q668679, .int p668681, .int p668682, .int 5, .int p668684, .int p668685, .int p668686, .ref qo668687, .int p668688, .int p668689, .int p668690, .ref qo668691, .ref qo668692, .int p668693]) := e668883
        have hfr668887 : rFr [q668678] P668676 F668677 F668882 := rFr_put (rFr_rf (W := []) (P := P668676) (F := F668677)) n668884
        clear ez668735 bz668735 bo668741'; try clear r668739; try clear w668740; try clear dc668736; try clear ds668737; try clear hp668738
        refine G_aload_n 2 dr_cX14_symbol_152 rfl ?_
        refine G_iload_n 0 dr_cX14_symbol_153 rfl ?_
        refine G_if_eq 161 dr_cX14_symbol_154 (by decide +kernel) (fun _ => ?_) (fun hc => absurd hc (by decide))
        refine G_iload_n 3 dr_cX14_symbol_161 rfl ?_
        refine G_bipush 32 dr_cX14_symbol_162 (by decide +kernel) ?_
        refine G_icmp_le 190 dr_cX14_symbol_164 (by decide +kernel) (fun hc => absurd (show False by have := gj_le hc (show Int32.toInt 32 = 32 by decide); omega) not_false) (fun _ => ?_)
        refine G_new [.null, .int 0, .int 0, .int 0] dr_cX14_symbol_167 (gk_J4 D I) wr_7_235 wr_7_44 wr_1_20 (gfs_J4) (Nat.le_trans (show 0 + 1 ≤ 16 by decide) hMC) (Nat.le_trans (show 0 + 4 ≤ 160 by decide) hMS) (fun q668888 => Gp_in (fun P668889 F668890 hq668891 hP668892 e668893 n668894 => ?_))
        refine G_widen (cs' := 1) (sl' := 4) (by omega) (by omega) ?_
        have he668895 : F668890 q668678 = .inr (19, [.ref q668679, .int p668681, .int p668682, .int 5, .int p668684, .int p668685, .int p668686, .ref qo668687, .int p668688, .int p668689, .int p668690, .ref qo668691, .ref qo668692, .int p668693]) := (n668894 q668678 (fun h => hq668891 (h ▸ hmq668678))).trans he668886
        have he668896 : F668890 q668679 = .inl (I .byte, 8192, .inl f668694) := (n668894 q668679 (fun h => hq668891 (h ▸ hmq668679))).trans he668885
        have he668897 : F668890 q668888 = .inr (1, [.null, .int 0, .int 0, .int 0]) := e668893
        have hm668898 : q668678 ∈ P668889 := (hP668892 q668678).mpr (Or.inl hmq668678)
        have hm668899 : q668679 ∈ P668889 := (hP668892 q668679).mpr (Or.inl hmq668679)
        have hm668900 : q668888 ∈ P668889 := (hP668892 q668888).mpr (Or.inr rfl)
        have hq668901 : q668888 ∉ P668676 := fun z => hq668891 ((rSub_rf (P := P668676)) q668888 z)
        have hfr668902 : rFr [q668678] P668676 F668677 F668890 := rFr_new (rSub_rf (P := P668676)) hq668891 hfr668887 n668894
        have hsb668903 : rSub P668676 P668889 := rSub_new (rSub_rf (P := P668676)) hP668892
        refine G_dup dr_cX14_symbol_170 rfl ?_
        refine Gw_callI (As := []) (gV_ok D I) (cp_658952_StringBuilder_init l hl0 D I P668889 F668890 q668888 0 0 hm668900 he668897 (gB_w (gBl (show Int32.toInt 0 = 0 by decide)) (by decide) (by decide)) (gB_w (gBl (show Int32.toInt 0 = 0 by decide)) (by decide) (by decide))) dr_cX14_symbol_171 ⟨wr_7_236, wr_1_20, wr_7_47, by decide, rfl, (Nat.le_of_ble_eq_true rfl), (Nat.le_of_ble_eq_true rfl)⟩ wr_7_46 rfl (Nat.le_trans (show 1 + 1 ≤ 16 by decide) hMC) (Nat.le_trans (show 4 + 16 ≤ 160 by decide) hMS) (Nat.le_of_ble_eq_true rfl) (fun r668907 w668908 dc668904 ds668905 hp668906 => ?_)
        obtain ⟨P668910, F668911, q668909, rfl, rfl, hsb668912, hfr668913, he668914, he668915, hm668916, hq668917, hdc, hds⟩ := hp668906
        have hm668918 : q668678 ∈ P668910 := hsb668912 q668678 hm668898
        have hm668919 : q668679 ∈ P668910 := hsb668912 q668679 hm668899
        have hm668920 : q668888 ∈ P668910 := hsb668912 q668888 hm668900
        have hq668921 : q668909 ∉ P668676 := fun z => hq668917 (hsb668903 q668909 z)
        have hsb668922 : rSub P668676 P668910 := rSub_tr hsb668903 hsb668912
        have he668923 : F668911 q668678 = .inr (19, [.ref q668679, .int p668681, .int p668682, .int 5, .int p668684, .int p668685, .int p668686, .ref qo668687, .int p668688, .int p668689, .int p668690, .ref qo668691, .ref qo668692, .int p668693]) := (hfr668913 q668678 hm668898 (nm_c (fun h => hq668901 (h ▸ hmq668678)) nm_n)).trans he668895
        have he668924 : F668911 q668679 = .inl (I .byte, 8192, .inl f668694) := (hfr668913 q668679 hm668899 (nm_c (fun h => hq668901 (h ▸ hmq668679)) nm_n)).trans he668896
        have hfr668925 : rFr [q668678] P668676 F668677 F668911 := rFr_call hsb668903 hfr668902 hfr668913 (fun b hb hn => ⟨(nm_c (fun e => hn (e ▸ List.mem_cons_self)) nm_n), (nm_c (fun e => hq668901 (e ▸ hb)) nm_n)⟩)
        change G _ _ _ _ _ _ _ _ _ _ _
        refine G_widen (cs' := 2) (sl' := 20) (Nat.add_le_add_left hdc 1) (Nat.add_le_add_left hds 4) ?_
        refine G_ldcK (a := D.2 1000 32) dr_cX14_symbol_174 (fun _ _ _ h => gx_vk 32 rfl rfl h) ?_
        have hl32_668925 : (sb_32.length : Int) = 0 := rfl
        refine Gw_callV (As := [.ref (D.2 1000 32)]) (gV_ok D I) (cp_659254_StringBuilder_append l hl0 D I P668910 F668911 q668888 q668909 (D.2 1000 32) (D.2 1001 32) sb_32 0 0 (fun _ => 0) 16 hm668920 hm668916 he668914 he668915 (gx_sc 32 rfl rfl) (by omega) (by decide +kernel) (gB_w (gBl (show Int32.toInt 0 = 0 by decide)) (by decide) (by decide)) (gB_w (gBl (show Int32.toInt 0 = 0 by decide)) (by decide) (by decide)) (gF_w gF_0 (by decide) (by decide)) (by have qa0 : Int32.toInt 0 = 0 := (by decide); have qa1 : Int32.toInt 5 = 5 := (by decide); omega) (by have qa0 : Int32.toInt 0 = 0 := (by decide); have qa1 : Int32.toInt 5 = 5 := (by decide); omega)) dr_cX14_symbol_176 ⟨wr_8_195, wr_1_20, wr_8_143, by decide, rfl, (Nat.le_of_ble_eq_true rfl), (Nat.le_of_ble_eq_true rfl)⟩ wr_8_141 wr_8_142 hm668920 he668914 rfl (Nat.le_trans (show 2 + 0 ≤ 16 by decide) hMC) (Nat.le_trans (show 20 + 0 ≤ 160 by decide) hMS) (Nat.le_of_ble_eq_true rfl) (fun r668930 w668931 dc668927 ds668928 hp668929 => ?_) (fun _ _ _ _ _ z => z.elim)
        obtain ⟨F668938, o668932, f668933, rfl, rfl, hfr668940, he668941, he668942, hdc, hds, bo668932, bf668933, x668934, x668935, x668936, ht668937⟩ := hp668929
        have he668943 : F668938 q668678 = .inr (19, [.ref q668679, .int p668681, .int p668682, .int 5, .int p668684, .int p668685, .int p668686, .ref qo668687, .int p668688, .int p668689, .int p668690, .ref qo668691, .ref qo668692, .int p668693]) := (hfr668940 q668678 hm668918 (nm_c (fun h => hq668901 (h ▸ hmq668678)) (nm_c (fun h => hq668921 (h ▸ hmq668678)) nm_n))).trans he668923
        have he668944 : F668938 q668679 = .inl (I .byte, 8192, .inl f668694) := (hfr668940 q668679 hm668919 (nm_c (fun h => hq668901 (h ▸ hmq668679)) (nm_c (fun h => hq668921 (h ▸ hmq668679)) nm_n))).trans he668924
        have hfr668945 : rFr [q668678] P668676 F668677 F668938 := rFr_call hsb668922 hfr668925 hfr668940 (fun b hb hn => ⟨(nm_c (fun e => hn (e ▸ List.mem_cons_self)) nm_n), (nm_c (fun e => hq668901 (e ▸ hb)) (nm_c (fun e => hq668921 (e ▸ hb)) nm_n))⟩)
        rw [show Int32.toInt 0 = 0 from by decide] at x668934
        have bo668932' : gB o668932 0 0 := ⟨by omega, by omega⟩
        rw [show Int32.toInt 0 = 0 from by decide] at x668935
        rw [show Int32.toInt 0 = 0 from by decide] at x668936
        change G _ _ _ _ _ _ _ (.ref q668888 :: _) _ _ _
        refine G_widen (cs' := 2) (sl' := 20) (Nat.add_le_add_left hdc 2) (Nat.add_le_add_left hds 20) ?_
        refine G_iload_n 3 dr_cX14_symbol_179 rfl ?_
        refine G_i2c dr_cX14_symbol_180 (G_nam fun z668946 hz668946 => ?_)
        have ez668946 : z668946.toInt = p668680.toInt := gI_i2c hz668946 (by omega) (by omega)
        have bz668946 : gB z668946 33 127 := ⟨by omega, by omega⟩
        refine Gw_callV (As := [.int z668946]) (gV_ok D I) (cp_658513_StringBuilder_append l hl0 D I P668910 F668938 q668888 q668909 z668946 0 o668932 f668933 16 hm668920 hm668916 he668941 he668942 (gB_w bz668946 (by decide) (by decide)) (gB_w (gBl (show Int32.toInt 0 = 0 by decide)) (by decide) (by decide)) (gB_w bo668932' (by decide) (by decide)) bf668933 (by have qa0 : Int32.toInt 0 = 0 := (by decide); have qa1 : Int32.toInt 5 = 5 := (by decide); omega) (by have qa0 : Int32.toInt 0 = 0 := (by decide); have qa1 : Int32.toInt 5 = 5 := (by decide); omega)) dr_cX14_symbol_181 ⟨wr_7_237, wr_1_20, wr_8_0, by decide, rfl, (Nat.le_of_ble_eq_true rfl), (Nat.le_of_ble_eq_true rfl)⟩ wr_7_238 wr_7_239 hm668920 he668941 rfl (Nat.le_trans (show 2 + 0 ≤ 16 by decide) hMC) (Nat.le_trans (show 20 + 0 ≤ 160 by decide) hMS) (Nat.le_of_ble_eq_true rfl) (fun r668950 w668951 dc668947 ds668948 hp668949 => ?_) (fun _ _ _ _ _ z => z.elim)
        obtain ⟨F668956, o668952, f668953, rfl, rfl, hfr668958, he668959, he668960, hdc, hds, bo668952, bf668953, x668954, ht668955⟩ := hp668949
        have he668961 : F668956 q668678 = .inr (19, [.ref q668679, .int p668681, .int p668682, .int 5, .int p668684, .int p668685, .int p668686, .ref qo668687, .int p668688, .int p668689, .int p668690, .ref qo668691, .ref qo668692, .int p668693]) := (hfr668958 q668678 hm668918 (nm_c (fun h => hq668921 (h ▸ hmq668678)) (nm_c (fun h => hq668901 (h ▸ hmq668678)) nm_n))).trans he668943
        have he668962 : F668956 q668679 = .inl (I .byte, 8192, .inl f668694) := (hfr668958 q668679 hm668919 (nm_c (fun h => hq668921 (h ▸ hmq668679)) (nm_c (fun h => hq668901 (h ▸ hmq668679)) nm_n))).trans he668944
        have hfr668963 : rFr [q668678] P668676 F668677 F668956 := rFr_call hsb668922 hfr668945 hfr668958 (fun b hb hn => ⟨(nm_c (fun e => hn (e ▸ List.mem_cons_self)) nm_n), (nm_c (fun e => hq668921 (e ▸ hb)) (nm_c (fun e => hq668901 (e ▸ hb)) nm_n))⟩)
        have bo668952' : gB o668952 1 1 := ⟨by omega, by omega⟩
        change G _ _ _ _ _ _ _ (.ref q668888 :: _) _ _ _
        refine G_widen (cs' := 2) (sl' := 20) (Nat.add_le_add_left hdc 2) (Nat.add_le_add_left hds 20) ?_
        refine Gw_callV (As := []) (gV_ok D I) (cp_659727_StringBuilder_toString l hl0 D I P668910 F668956 q668888 q668909 0 o668952 f668953 16 hm668920 hm668916 he668959 he668960 (gB_w (gBl (show Int32.toInt 0 = 0 by decide)) (by decide) (by decide)) (gB_w bo668952' (by decide) (by decide)) bf668953 (by have qa0 : Int32.toInt 0 = 0 := (by decide); have qa1 : Int32.toInt 5 = 5 := (by decide); omega) (by have qa0 : Int32.toInt 0 = 0 := (by decide); have qa1 : Int32.toInt 5 = 5 := (by decide); omega)) dr_cX14_symbol_184 ⟨wr_8_66, wr_1_20, wr_8_69, by decide, rfl, (Nat.le_of_ble_eq_true rfl), (Nat.le_of_ble_eq_true rfl)⟩ wr_8_67 wr_8_68 hm668920 he668959 rfl (Nat.le_trans (show 2 + 2 ≤ 16 by decide) hMC) (show 20 + (o668952.toInt.toNat + 4) ≤ ((160 * (p668681.toInt - p668682.toInt)).toNat) by first | omega | decide) (Nat.le_of_ble_eq_true rfl) (fun r668967 w668968 dc668964 ds668965 hp668966 => ?_) (fun _ _ _ _ _ z => z.elim)
        obtain ⟨P668976, F668977, q668969, q668970, n668971, f668972, rfl, rfl, hsb668978, hfr668979, he668980, he668981, he668982, he668983, hm668984, hq668985, hm668986, hq668987, hdc, hds, bf668972, x668973, x668974, ht668975⟩ := hp668966
        have hm668988 : q668678 ∈ P668976 := hsb668978 q668678 hm668918
        have hm668989 : q668679 ∈ P668976 := hsb668978 q668679 hm668919
        have hm668990 : q668888 ∈ P668976 := hsb668978 q668888 hm668920
        have hm668991 : q668909 ∈ P668976 := hsb668978 q668909 hm668916
        have hq668992 : q668969 ∉ P668676 := fun z => hq668985 (hsb668922 q668969 z)
        have hq668993 : q668970 ∉ P668676 := fun z => hq668987 (hsb668922 q668970 z)
        have hsb668994 : rSub P668676 P668976 := rSub_tr hsb668922 hsb668978
        have he668995 : F668977 q668678 = .inr (19, [.ref q668679, .int p668681, .int p668682, .int 5, .int p668684, .int p668685, .int p668686, .ref qo668687, .int p668688, .int p668689, .int p668690, .ref qo668691, .ref qo668692, .int p668693]) := (hfr668979 q668678 hm668918 nm_n).trans he668961
        have he668996 : F668977 q668679 = .inl (I .byte, 8192, .inl f668694) := (hfr668979 q668679 hm668919 nm_n).trans he668962
        have hfr668997 : rFr [q668678] P668676 F668677 F668977 := rFr_call hsb668922 hfr668963 hfr668979 (fun b hb hn => ⟨(nm_c (fun e => hn (e ▸ List.mem_cons_self)) nm_n), nm_n⟩)
        have hne668998 : q668909 ≠ q668970 := fun h => hq668987 (h ▸ hm668916)
        change G _ _ _ _ _ _ _ (.ref q668969 :: _) _ _ _
        refine G_widen (cs' := 4) (sl' := 20 + (o668952.toInt.toNat + 4)) (Nat.add_le_add_left hdc 2) (by omega) ?_
        refine G_goto 192 dr_cX14_symbol_187 (by decide +kernel) ?_
        refine Gp_put 7 hm668988 he668995 dr_cX14_symbol_192 (gk_X14 D I) (Nat.le_of_ble_eq_true rfl) wr_9_43 rfl rfl rfl (Nat.le_of_ble_eq_true rfl) (fun F668999 e669000 n669001 => ?_)
        have he669002 : F668999 q668679 = .inl (I .byte, 8192, .inl f668694) := (n669001 q668679 (rn_ao he668996 he668995)).trans he668996
        have he669003 : F668999 q668969 = .inr (0, [.ref q668970, .int 0, .int 0, .int 0]) := (n669001 q668969 (fun h => hq668992 (h ▸ hmq668678))).trans he668980
        have he669004 : F668999 q668888 = .inr (1, [.ref q668909, .int 0, .int 0, .int o668952]) := (n669001 q668888 (fun h => hq668901 (h ▸ hmq668678))).trans he668981
        have he669005 : F668999 q668909 = .inl (I .byte, 16, .inl f668953) := (n669001 q668909 (fun h => hq668921 (h ▸ hmq668678))).trans he668982
        have he669006 : F668999 q668970 = .inl (I .byte, n668971, .inl f668972) := (n669001 q668970 (fun h => hq668993 (h ▸ hmq668678))).trans he668983
        have he669007 : F668999 q668678 = .inr (19, [.ref q668679, .int p668681, .int p668682, .int 5, .int p668684, .int p668685, .int p668686, .ref q668969, .int p668688, .int p668689, .int p668690, .ref qo668691, .ref qo668692, .int p668693]) := e669000
        have hfr669008 : rFr [q668678] P668676 F668677 F668999 := rFr_put' List.mem_cons_self hfr668997 n669001
        clear he668885 he668886 hfr668887 he668895 he668896 he668897 hm668898 hm668899 hm668900 hq668901 hfr668902 hsb668903 hsb668912 hfr668913 he668914 he668915 hm668916 hq668917 hm668918 hm668919 hm668920 hq668921 hsb668922 he668923 he668924 hfr668925 hfr668940 he668941 he668942 bf668933 he668943 he668944 hfr668945 ez668946 bz668946 hfr668958 he668959 he668960 bf668953 he668961 he668962 hfr668963 hsb668978 hfr668979 he668980 he668981 he668982 he668983 hq668985 hq668987 hm668990 hm668991 he668995 he668996 hfr668997 hne668998 he669004 he669005; try clear r668907; try clear w668908; try clear dc668904; try clear ds668905; try clear hp668906; try clear r668930; try clear w668931; try clear dc668927; try clear ds668928; try clear hp668929; try clear x668935; try clear x668936; try clear r668950; try clear w668951; try clear dc668947; try clear ds668948; try clear hp668949; try clear r668967; try clear w668968; try clear dc668964; try clear ds668965; try clear hp668966; try clear x668974
        refine G_aload_n 2 dr_cX14_symbol_195 rfl ?_
        refine G_dup dr_cX14_symbol_196 rfl ?_
        refine Gp_get 2 hm668988 he669007 dr_cX14_symbol_197 (gk_X14 D I) (Nat.le_of_ble_eq_true rfl) wr_9_38 rfl ?_
        refine G_iload_n 0 dr_cX14_symbol_200 rfl ?_
        refine G_if_eq 208 dr_cX14_symbol_201 (by decide +kernel) (fun _ => ?_) (fun hc => absurd hc (by decide))
        refine G_iconst 1 dr_cX14_symbol_208 (by decide +kernel) ?_
        refine G_iadd dr_cX14_symbol_209 (G_nam fun z669009 hz669009 => ?_)
        have ez669009 : z669009.toInt = p668682.toInt + 1 := by rw [gI_add hz669009 bp668682 (gBl (show Int32.toInt 1 = 1 by decide)) (by decide) (by decide), show Int32.toInt 1 = 1 from by decide]
        have bz669009 : gB z669009 1 8193 := gB_add (gI_add hz669009 bp668682 (gBl (show Int32.toInt 1 = 1 by decide)) (by decide) (by decide)) bp668682 (gBl (show Int32.toInt 1 = 1 by decide)) (by decide) (by decide)
        refine Gp_put 2 hm668988 he669007 dr_cX14_symbol_210 (gk_X14 D I) (Nat.le_of_ble_eq_true rfl) wr_9_38 rfl rfl rfl (Nat.le_of_ble_eq_true rfl) (fun F669010 e669011 n669012 => ?_)
        have he669013 : F669010 q668679 = .inl (I .byte, 8192, .inl f668694) := (n669012 q668679 (rn_ao he669002 he669007)).trans he669002
        have he669014 : F669010 q668969 = .inr (0, [.ref q668970, .int 0, .int 0, .int 0]) := (n669012 q668969 (fun h => hq668992 (h ▸ hmq668678))).trans he669003
        have he669015 : F669010 q668970 = .inl (I .byte, n668971, .inl f668972) := (n669012 q668970 (fun h => hq668993 (h ▸ hmq668678))).trans he669006
        have he669016 : F669010 q668678 = .inr (19, [.ref q668679, .int p668681, .int z669009, .int 5, .int p668684, .int p668685, .int p668686, .ref q668969, .int p668688, .int p668689, .int p668690, .ref qo668691, .ref qo668692, .int p668693]) := e669011
        have hfr669017 : rFr [q668678] P668676 F668677 F669010 := rFr_put' List.mem_cons_self hfr669008 n669012
        exact G_vretA dr_cX14_symbol_213 rfl (show 4 ≤ ((16 * (p668681.toInt - p668682.toInt)).toNat) by omega) (show 20 + (o668952.toInt.toNat + 4) ≤ ((160 * (p668681.toInt - p668682.toInt)).toNat) by omega) ⟨P668976, F669010, z669009, 5, q668969, (n668971, f668972), rfl, rfl, hsb668994, hfr669017, he669016, he669013, (by omega), (by omega), ⟨by omega, by omega⟩, (gB_w (gBl (show Int32.toInt 5 = 5 by decide)) (by decide) (by decide)), (by have qa0 : Int32.toInt 0 = 0 := (by decide); have qa1 : Int32.toInt 5 = 5 := (by decide); omega), (by have qa0 : Int32.toInt 0 = 0 := (by decide); have qa1 : Int32.toInt 5 = 5 := (by decide); omega), (tP_5 hm668984 he669014 hm668986 he669015 bf668972 (by omega) (gB_w (gBl (show Int32.toInt 0 = 0 by decide)) (by decide) (by decide)) (fun e => hq668993 (e ▸ x668697)) (fun e => hq668993 (e ▸ x668698))), (vP_no (by decide) (by decide)), (fun R c1 c2 c3 c4 c5 c6 => c3 o668708 z668735 o668741 o668932 f668933 z668946 o668952 f668953 n668971 f668972 z669009 hJ668701 bo668708 ht668710 r668733 hz668735 bo668741 ht668742 r668881 bo668932 ht668937 hz668946 bo668952 ht668955 ht668975 ez669009)⟩
  refine G_aload_n 0 dr_cX14_symbol_0 rfl ?_
  refine Gp_get 2 hmq668678 heq668678 dr_cX14_symbol_1 (gk_X14 D I) (Nat.le_of_ble_eq_true rfl) wr_9_38 rfl ?_
  refine G_iconst 1 dr_cX14_symbol_4 (by decide +kernel) ?_
  refine G_iadd dr_cX14_symbol_5 (G_nam fun z669018 hz669018 => ?_)
  have ez669018 : z669018.toInt = p668682.toInt + 1 := by rw [gI_add hz669018 bp668682 (gBl (show Int32.toInt 1 = 1 by decide)) (by decide) (by decide), show Int32.toInt 1 = 1 from by decide]
  have bz669018 : gB z669018 1 8193 := gB_add (gI_add hz669018 bp668682 (gBl (show Int32.toInt 1 = 1 by decide)) (by decide) (by decide)) bp668682 (gBl (show Int32.toInt 1 = 1 by decide)) (by decide) (by decide)
  refine G_aload_n 0 dr_cX14_symbol_6 rfl ?_
  refine Gp_get 1 hmq668678 heq668678 dr_cX14_symbol_7 (gk_X14 D I) (Nat.le_of_ble_eq_true rfl) wr_9_37 rfl ?_
  refine G_icmp_ge 73 dr_cX14_symbol_10 (by decide +kernel) (fun hc669019 => ?_) (fun hc669019 => ?_)
  · have r669020 : p668681.toInt ≤ z669018.toInt := gC_le hc669019
    refine G_lv (L' := [(0, .ref q668678), (1, .int p668680)]) [0, 1] rfl ?_
    exact jn668700 (Or.inl ⟨z669018, ez669018, r669020⟩)
  · have r669021 : z669018.toInt < p668681.toInt := gC_nle hc669019
    have bz669018' : gB z669018 1 8191 := ⟨by omega, by omega⟩
    have bp668681' : gB p668681 2 8192 := ⟨by omega, by omega⟩
    refine G_aload_n 0 dr_cX14_symbol_13 rfl ?_
    refine Gp_get 0 hmq668678 heq668678 dr_cX14_symbol_14 (gk_X14 D I) (Nat.le_of_ble_eq_true rfl) wr_9_36 rfl ?_
    refine G_aload_n 0 dr_cX14_symbol_17 rfl ?_
    refine Gp_get 2 hmq668678 heq668678 dr_cX14_symbol_18 (gk_X14 D I) (Nat.le_of_ble_eq_true rfl) wr_9_38 rfl ?_
    refine G_iconst 1 dr_cX14_symbol_21 (by decide +kernel) ?_
    refine G_iadd dr_cX14_symbol_22 (G_eqi (y := z669018) hz669018.symm ?_)
    refine Gp_bald 1 hmq668679 heq668679 dr_cX14_symbol_23 rfl (gB_in bz669018' (by decide) (by decide)) (G_nam fun z669022 hz669022 => ?_)
    have bz669022 : gB z669022 (-128) 127 := by rw [hz669022]; exact bf668694 _
    refine G_bipush 32 dr_cX14_symbol_24 (by decide +kernel) ?_
    refine G_icmp_le 73 dr_cX14_symbol_26 (by decide +kernel) (fun hc669023 => ?_) (fun hc669023 => ?_)
    · have r669024 : z669022.toInt ≤ 32 := gj_le hc669023 (show Int32.toInt 32 = 32 by decide)
      have bz669022' : gB z669022 (-128) 32 := ⟨by omega, by omega⟩
      refine G_lv (L' := [(0, .ref q668678), (1, .int p668680)]) [0, 1] rfl ?_
      exact jn668700 (Or.inr (Or.inl ⟨z669018, z669022, ez669018, r669021, hz669022, bz669022, r669024⟩))
    · have r669025 : 32 < z669022.toInt := gj_nle hc669023 (show Int32.toInt 32 = 32 by decide)
      have bz669022' : gB z669022 33 127 := ⟨by omega, by omega⟩
      refine G_iload_n 1 dr_cX14_symbol_29 rfl ?_
      refine G_bipush 32 dr_cX14_symbol_30 (by decide +kernel) ?_
      refine G_icmp_le 73 dr_cX14_symbol_32 (by decide +kernel) (fun hc669026 => ?_) (fun hc669026 => ?_)
      · have r669027 : p668680.toInt ≤ 32 := gj_le hc669026 (show Int32.toInt 32 = 32 by decide)
        have bp668680' : gB p668680 (-128) 32 := ⟨by omega, by omega⟩
        refine G_lv (L' := [(0, .ref q668678), (1, .int p668680)]) [0, 1] rfl ?_
        exact jn668700 (Or.inr (Or.inr (⟨z669018, z669022, ez669018, r669021, hz669022, bz669022, r669025, r669027⟩)))
      · have r669028 : 32 < p668680.toInt := gj_nle hc669026 (show Int32.toInt 32 = 32 by decide)
        have bp668680' : gB p668680 33 127 := ⟨by omega, by omega⟩
        refine G_new [.null, .int 0, .int 0, .int 0] dr_cX14_symbol_35 (gk_J4 D I) wr_7_235 wr_7_44 wr_1_20 (gfs_J4) (Nat.le_trans (show 0 + 1 ≤ 16 by decide) hMC) (Nat.le_trans (show 0 + 4 ≤ 160 by decide) hMS) (fun q669029 => Gp_in (fun P669030 F669031 hq669032 hP669033 e669034 n669035 => ?_))
        refine G_widen (cs' := 1) (sl' := 4) (by omega) (by omega) ?_
        have he669036 : F669031 q668678 = .inr (19, [.ref q668679, .int p668681, .int p668682, .int p668683, .int p668684, .int p668685, .int p668686, .ref qo668687, .int p668688, .int p668689, .int p668690, .ref qo668691, .ref qo668692, .int p668693]) := (n669035 q668678 (fun h => hq669032 (h ▸ hmq668678))).trans heq668678
        have he669037 : F669031 q668679 = .inl (I .byte, 8192, .inl f668694) := (n669035 q668679 (fun h => hq669032 (h ▸ hmq668679))).trans heq668679
        have he669038 : F669031 q669029 = .inr (1, [.null, .int 0, .int 0, .int 0]) := e669034
        have hm669039 : q668678 ∈ P669030 := (hP669033 q668678).mpr (Or.inl hmq668678)
        have hm669040 : q668679 ∈ P669030 := (hP669033 q668679).mpr (Or.inl hmq668679)
        have hm669041 : q669029 ∈ P669030 := (hP669033 q669029).mpr (Or.inr rfl)
        have hq669042 : q669029 ∉ P668676 := fun z => hq669032 ((rSub_rf (P := P668676)) q669029 z)
        have hfr669043 : rFr [] P668676 F668677 F669031 := rFr_new (rSub_rf (P := P668676)) hq669032 (rFr_rf (W := []) (P := P668676) (F := F668677)) n669035
        have hsb669044 : rSub P668676 P669030 := rSub_new (rSub_rf (P := P668676)) hP669033
        refine G_dup dr_cX14_symbol_38 rfl ?_
        refine Gw_callI (As := []) (gV_ok D I) (cp_658952_StringBuilder_init l hl0 D I P669030 F669031 q669029 0 0 hm669041 he669038 (gB_w (gBl (show Int32.toInt 0 = 0 by decide)) (by decide) (by decide)) (gB_w (gBl (show Int32.toInt 0 = 0 by decide)) (by decide) (by decide))) dr_cX14_symbol_39 ⟨wr_7_236, wr_1_20, wr_7_47, by decide, rfl, (Nat.le_of_ble_eq_true rfl), (Nat.le_of_ble_eq_true rfl)⟩ wr_7_46 rfl (Nat.le_trans (show 1 + 1 ≤ 16 by decide) hMC) (Nat.le_trans (show 4 + 16 ≤ 160 by decide) hMS) (Nat.le_of_ble_eq_true rfl) (fun r669048 w669049 dc669045 ds669046 hp669047 => ?_)
        obtain ⟨P669051, F669052, q669050, rfl, rfl, hsb669053, hfr669054, he669055, he669056, hm669057, hq669058, hdc, hds⟩ := hp669047
        have hm669059 : q668678 ∈ P669051 := hsb669053 q668678 hm669039
        have hm669060 : q668679 ∈ P669051 := hsb669053 q668679 hm669040
        have hm669061 : q669029 ∈ P669051 := hsb669053 q669029 hm669041
        have hq669062 : q669050 ∉ P668676 := fun z => hq669058 (hsb669044 q669050 z)
        have hsb669063 : rSub P668676 P669051 := rSub_tr hsb669044 hsb669053
        have he669064 : F669052 q668678 = .inr (19, [.ref q668679, .int p668681, .int p668682, .int p668683, .int p668684, .int p668685, .int p668686, .ref qo668687, .int p668688, .int p668689, .int p668690, .ref qo668691, .ref qo668692, .int p668693]) := (hfr669054 q668678 hm669039 (nm_c (fun h => hq669042 (h ▸ hmq668678)) nm_n)).trans he669036
        have he669065 : F669052 q668679 = .inl (I .byte, 8192, .inl f668694) := (hfr669054 q668679 hm669040 (nm_c (fun h => hq669042 (h ▸ hmq668679)) nm_n)).trans he669037
        have hfr669066 : rFr [] P668676 F668677 F669052 := rFr_call hsb669044 hfr669043 hfr669054 (fun b hb hn => ⟨nm_n, (nm_c (fun e => hq669042 (e ▸ hb)) nm_n)⟩)
        change G _ _ _ _ _ _ _ _ _ _ _
        refine G_widen (cs' := 2) (sl' := 20) (Nat.add_le_add_left hdc 1) (Nat.add_le_add_left hds 4) ?_
        refine G_ldcK (a := D.2 1000 32) dr_cX14_symbol_42 (fun _ _ _ h => gx_vk 32 rfl rfl h) ?_
        have hl32_669066 : (sb_32.length : Int) = 0 := rfl
        refine Gw_callV (As := [.ref (D.2 1000 32)]) (gV_ok D I) (cp_659254_StringBuilder_append l hl0 D I P669051 F669052 q669029 q669050 (D.2 1000 32) (D.2 1001 32) sb_32 0 0 (fun _ => 0) 16 hm669061 hm669057 he669055 he669056 (gx_sc 32 rfl rfl) (by omega) (by decide +kernel) (gB_w (gBl (show Int32.toInt 0 = 0 by decide)) (by decide) (by decide)) (gB_w (gBl (show Int32.toInt 0 = 0 by decide)) (by decide) (by decide)) (gF_w gF_0 (by decide) (by decide)) (by have qa0 : Int32.toInt 0 = 0 := (by decide); omega) (by have qa0 : Int32.toInt 0 = 0 := (by decide); omega)) dr_cX14_symbol_44 ⟨wr_8_195, wr_1_20, wr_8_143, by decide, rfl, (Nat.le_of_ble_eq_true rfl), (Nat.le_of_ble_eq_true rfl)⟩ wr_8_141 wr_8_142 hm669061 he669055 rfl (Nat.le_trans (show 2 + 0 ≤ 16 by decide) hMC) (Nat.le_trans (show 20 + 0 ≤ 160 by decide) hMS) (Nat.le_of_ble_eq_true rfl) (fun r669071 w669072 dc669068 ds669069 hp669070 => ?_) (fun _ _ _ _ _ z => z.elim)
        obtain ⟨F669079, o669073, f669074, rfl, rfl, hfr669081, he669082, he669083, hdc, hds, bo669073, bf669074, x669075, x669076, x669077, ht669078⟩ := hp669070
        have he669084 : F669079 q668678 = .inr (19, [.ref q668679, .int p668681, .int p668682, .int p668683, .int p668684, .int p668685, .int p668686, .ref qo668687, .int p668688, .int p668689, .int p668690, .ref qo668691, .ref qo668692, .int p668693]) := (hfr669081 q668678 hm669059 (nm_c (fun h => hq669042 (h ▸ hmq668678)) (nm_c (fun h => hq669062 (h ▸ hmq668678)) nm_n))).trans he669064
        have he669085 : F669079 q668679 = .inl (I .byte, 8192, .inl f668694) := (hfr669081 q668679 hm669060 (nm_c (fun h => hq669042 (h ▸ hmq668679)) (nm_c (fun h => hq669062 (h ▸ hmq668679)) nm_n))).trans he669065
        have hfr669086 : rFr [] P668676 F668677 F669079 := rFr_call hsb669063 hfr669066 hfr669081 (fun b hb hn => ⟨nm_n, (nm_c (fun e => hq669042 (e ▸ hb)) (nm_c (fun e => hq669062 (e ▸ hb)) nm_n))⟩)
        rw [show Int32.toInt 0 = 0 from by decide] at x669075
        have bo669073' : gB o669073 0 0 := ⟨by omega, by omega⟩
        rw [show Int32.toInt 0 = 0 from by decide] at x669076
        rw [show Int32.toInt 0 = 0 from by decide] at x669077
        change G _ _ _ _ _ _ _ (.ref q669029 :: _) _ _ _
        refine G_widen (cs' := 2) (sl' := 20) (Nat.add_le_add_left hdc 2) (Nat.add_le_add_left hds 20) ?_
        refine G_iload_n 1 dr_cX14_symbol_47 rfl ?_
        refine G_i2c dr_cX14_symbol_48 (G_nam fun z669087 hz669087 => ?_)
        have ez669087 : z669087.toInt = p668680.toInt := gI_i2c hz669087 (by omega) (by omega)
        have bz669087 : gB z669087 33 127 := ⟨by omega, by omega⟩
        refine Gw_callV (As := [.int z669087]) (gV_ok D I) (cp_658513_StringBuilder_append l hl0 D I P669051 F669079 q669029 q669050 z669087 0 o669073 f669074 16 hm669061 hm669057 he669082 he669083 (gB_w bz669087 (by decide) (by decide)) (gB_w (gBl (show Int32.toInt 0 = 0 by decide)) (by decide) (by decide)) (gB_w bo669073' (by decide) (by decide)) bf669074 (by have qa0 : Int32.toInt 0 = 0 := (by decide); omega) (by have qa0 : Int32.toInt 0 = 0 := (by decide); omega)) dr_cX14_symbol_49 ⟨wr_7_237, wr_1_20, wr_8_0, by decide, rfl, (Nat.le_of_ble_eq_true rfl), (Nat.le_of_ble_eq_true rfl)⟩ wr_7_238 wr_7_239 hm669061 he669082 rfl (Nat.le_trans (show 2 + 0 ≤ 16 by decide) hMC) (Nat.le_trans (show 20 + 0 ≤ 160 by decide) hMS) (Nat.le_of_ble_eq_true rfl) (fun r669091 w669092 dc669088 ds669089 hp669090 => ?_) (fun _ _ _ _ _ z => z.elim)
        obtain ⟨F669097, o669093, f669094, rfl, rfl, hfr669099, he669100, he669101, hdc, hds, bo669093, bf669094, x669095, ht669096⟩ := hp669090
        have he669102 : F669097 q668678 = .inr (19, [.ref q668679, .int p668681, .int p668682, .int p668683, .int p668684, .int p668685, .int p668686, .ref qo668687, .int p668688, .int p668689, .int p668690, .ref qo668691, .ref qo668692, .int p668693]) := (hfr669099 q668678 hm669059 (nm_c (fun h => hq669062 (h ▸ hmq668678)) (nm_c (fun h => hq669042 (h ▸ hmq668678)) nm_n))).trans he669084
        have he669103 : F669097 q668679 = .inl (I .byte, 8192, .inl f668694) := (hfr669099 q668679 hm669060 (nm_c (fun h => hq669062 (h ▸ hmq668679)) (nm_c (fun h => hq669042 (h ▸ hmq668679)) nm_n))).trans he669085
        have hfr669104 : rFr [] P668676 F668677 F669097 := rFr_call hsb669063 hfr669086 hfr669099 (fun b hb hn => ⟨nm_n, (nm_c (fun e => hq669062 (e ▸ hb)) (nm_c (fun e => hq669042 (e ▸ hb)) nm_n))⟩)
        have bo669093' : gB o669093 1 1 := ⟨by omega, by omega⟩
        change G _ _ _ _ _ _ _ (.ref q669029 :: _) _ _ _
        refine G_widen (cs' := 2) (sl' := 20) (Nat.add_le_add_left hdc 2) (Nat.add_le_add_left hds 20) ?_
        refine G_aload_n 0 dr_cX14_symbol_52 rfl ?_
        refine Gp_get 0 hm669059 he669102 dr_cX14_symbol_53 (gk_X14 D I) (Nat.le_of_ble_eq_true rfl) wr_9_36 rfl ?_
        refine G_aload_n 0 dr_cX14_symbol_56 rfl ?_
        refine Gp_get 2 hm669059 he669102 dr_cX14_symbol_57 (gk_X14 D I) (Nat.le_of_ble_eq_true rfl) wr_9_38 rfl ?_
        refine G_iconst 1 dr_cX14_symbol_60 (by decide +kernel) ?_
        refine G_iadd dr_cX14_symbol_61 (G_eqi (y := z669018) hz669018.symm ?_)
        refine Gp_bald 1 hm669060 he669103 dr_cX14_symbol_62 rfl (gB_in bz669018' (by decide) (by decide)) (G_eqi (y := z669022) hz669022.symm ?_)
        refine G_i2c dr_cX14_symbol_63 (G_nam fun z669105 hz669105 => ?_)
        have ez669105 : z669105.toInt = z669022.toInt := gI_i2c hz669105 (by omega) (by omega)
        have bz669105 : gB z669105 33 127 := ⟨by omega, by omega⟩
        refine Gw_callV (As := [.int z669105]) (gV_ok D I) (cp_658513_StringBuilder_append l hl0 D I P669051 F669097 q669029 q669050 z669105 0 o669093 f669094 16 hm669061 hm669057 he669100 he669101 (gB_w bz669105 (by decide) (by decide)) (gB_w (gBl (show Int32.toInt 0 = 0 by decide)) (by decide) (by decide)) (gB_w bo669093' (by decide) (by decide)) bf669094 (by have qa0 : Int32.toInt 0 = 0 := (by decide); omega) (by have qa0 : Int32.toInt 0 = 0 := (by decide); omega)) dr_cX14_symbol_64 ⟨wr_7_237, wr_1_20, wr_8_0, by decide, rfl, (Nat.le_of_ble_eq_true rfl), (Nat.le_of_ble_eq_true rfl)⟩ wr_7_238 wr_7_239 hm669061 he669100 rfl (Nat.le_trans (show 2 + 0 ≤ 16 by decide) hMC) (Nat.le_trans (show 20 + 0 ≤ 160 by decide) hMS) (Nat.le_of_ble_eq_true rfl) (fun r669109 w669110 dc669106 ds669107 hp669108 => ?_) (fun _ _ _ _ _ z => z.elim)
        obtain ⟨F669115, o669111, f669112, rfl, rfl, hfr669117, he669118, he669119, hdc, hds, bo669111, bf669112, x669113, ht669114⟩ := hp669108
        have he669120 : F669115 q668678 = .inr (19, [.ref q668679, .int p668681, .int p668682, .int p668683, .int p668684, .int p668685, .int p668686, .ref qo668687, .int p668688, .int p668689, .int p668690, .ref qo668691, .ref qo668692, .int p668693]) := (hfr669117 q668678 hm669059 (nm_c (fun h => hq669062 (h ▸ hmq668678)) (nm_c (fun h => hq669042 (h ▸ hmq668678)) nm_n))).trans he669102
        have he669121 : F669115 q668679 = .inl (I .byte, 8192, .inl f668694) := (hfr669117 q668679 hm669060 (nm_c (fun h => hq669062 (h ▸ hmq668679)) (nm_c (fun h => hq669042 (h ▸ hmq668679)) nm_n))).trans he669103
        have hfr669122 : rFr [] P668676 F668677 F669115 := rFr_call hsb669063 hfr669104 hfr669117 (fun b hb hn => ⟨nm_n, (nm_c (fun e => hq669062 (e ▸ hb)) (nm_c (fun e => hq669042 (e ▸ hb)) nm_n))⟩)
        have bo669111' : gB o669111 2 2 := ⟨by omega, by omega⟩
        change G _ _ _ _ _ _ _ (.ref q669029 :: _) _ _ _
        refine G_widen (cs' := 2) (sl' := 20) (Nat.add_le_add_left hdc 2) (Nat.add_le_add_left hds 20) ?_
        refine Gw_callV (As := []) (gV_ok D I) (cp_659727_StringBuilder_toString l hl0 D I P669051 F669115 q669029 q669050 0 o669111 f669112 16 hm669061 hm669057 he669118 he669119 (gB_w (gBl (show Int32.toInt 0 = 0 by decide)) (by decide) (by decide)) (gB_w bo669111' (by decide) (by decide)) bf669112 (by have qa0 : Int32.toInt 0 = 0 := (by decide); omega) (by have qa0 : Int32.toInt 0 = 0 := (by decide); omega)) dr_cX14_symbol_67 ⟨wr_8_66, wr_1_20, wr_8_69, by decide, rfl, (Nat.le_of_ble_eq_true rfl), (Nat.le_of_ble_eq_true rfl)⟩ wr_8_67 wr_8_68 hm669061 he669118 rfl (Nat.le_trans (show 2 + 2 ≤ 16 by decide) hMC) (show 20 + (o669111.toInt.toNat + 4) ≤ ((160 * (p668681.toInt - p668682.toInt)).toNat) by first | omega | decide) (Nat.le_of_ble_eq_true rfl) (fun r669126 w669127 dc669123 ds669124 hp669125 => ?_) (fun _ _ _ _ _ z => z.elim)
        obtain ⟨P669135, F669136, q669128, q669129, n669130, f669131, rfl, rfl, hsb669137, hfr669138, he669139, he669140, he669141, he669142, hm669143, hq669144, hm669145, hq669146, hdc, hds, bf669131, x669132, x669133, ht669134⟩ := hp669125
        have hm669147 : q668678 ∈ P669135 := hsb669137 q668678 hm669059
        have hm669148 : q668679 ∈ P669135 := hsb669137 q668679 hm669060
        have hm669149 : q669029 ∈ P669135 := hsb669137 q669029 hm669061
        have hm669150 : q669050 ∈ P669135 := hsb669137 q669050 hm669057
        have hq669151 : q669128 ∉ P668676 := fun z => hq669144 (hsb669063 q669128 z)
        have hq669152 : q669129 ∉ P668676 := fun z => hq669146 (hsb669063 q669129 z)
        have hsb669153 : rSub P668676 P669135 := rSub_tr hsb669063 hsb669137
        have he669154 : F669136 q668678 = .inr (19, [.ref q668679, .int p668681, .int p668682, .int p668683, .int p668684, .int p668685, .int p668686, .ref qo668687, .int p668688, .int p668689, .int p668690, .ref qo668691, .ref qo668692, .int p668693]) := (hfr669138 q668678 hm669059 nm_n).trans he669120
        have he669155 : F669136 q668679 = .inl (I .byte, 8192, .inl f668694) := (hfr669138 q668679 hm669060 nm_n).trans he669121
        have hfr669156 : rFr [] P668676 F668677 F669136 := rFr_call hsb669063 hfr669122 hfr669138 (fun b hb hn => ⟨nm_n, nm_n⟩)
        have hne669157 : q669050 ≠ q669129 := fun h => hq669146 (h ▸ hm669057)
        change G _ _ _ _ _ _ _ (.ref q669128 :: _) _ _ _
        refine G_widen (cs' := 4) (sl' := 20 + (o669111.toInt.toNat + 4)) (Nat.add_le_add_left hdc 2) (by omega) ?_
        refine G_goto 75 dr_cX14_symbol_70 (by decide +kernel) ?_
        refine G_astore_n (L' := [(2, .ref q669128), (0, .ref q668678), (1, .int p668680)]) dr_cX14_symbol_75 (Nat.le_of_ble_eq_true rfl) rfl ?_
        clear jn668700 bz669018 he669036 he669037 he669038 hm669039 hm669040 hm669041 hq669042 hfr669043 hsb669044 hsb669053 hfr669054 he669055 he669056 hm669057 hq669058 hm669059 hm669060 hm669061 hq669062 hsb669063 he669064 he669065 hfr669066 hfr669081 he669082 he669083 bf669074 he669084 he669085 hfr669086 ez669087 bz669087 hfr669099 he669100 he669101 bf669094 he669102 he669103 hfr669104 ez669105 bz669105 hfr669117 he669118 he669119 bf669112 he669120 he669121 hfr669122 hsb669137 hfr669138 he669140 he669141 hq669144 hq669146 hm669149 hm669150 hne669157; try clear r669048; try clear w669049; try clear dc669045; try clear ds669046; try clear hp669047; try clear r669071; try clear w669072; try clear dc669068; try clear ds669069; try clear hp669070; try clear x669076; try clear x669077; try clear r669091; try clear w669092; try clear dc669088; try clear ds669089; try clear hp669090; try clear r669109; try clear w669110; try clear dc669106; try clear ds669107; try clear hp669108; try clear r669126; try clear w669127; try clear dc669123; try clear ds669124; try clear hp669125; try clear x669133
        refine G_aload_n 0 dr_cX14_symbol_76 rfl ?_
        refine Gw_callV (As := []) (gV_ok D I) (cp_659054_String_length l hl0 D I P669135 F669136 q669128 q669129 0 0 f669131 n669130 hm669143 hm669145 he669139 he669142 (gB_w (gBl (show Int32.toInt 0 = 0 by decide)) (by decide) (by decide)) bf669131 (by have qa0 : Int32.toInt 0 = 0 := (by decide); omega)) dr_cX14_symbol_77 ⟨wr_8_227, wr_1_21, wr_3_60, by decide, rfl, (Nat.le_of_ble_eq_true rfl), (Nat.le_of_ble_eq_true rfl)⟩ wr_3_58 wr_3_59 hm669143 he669139 rfl (Nat.le_trans (show 4 + 0 ≤ 16 by decide) hMC) (show 20 + (o669111.toInt.toNat + 4) + 0 ≤ ((160 * (p668681.toInt - p668682.toInt)).toNat) by first | omega | decide) (Nat.le_of_ble_eq_true rfl) (fun r669161 w669162 dc669158 ds669159 hp669160 => ?_) (fun _ _ _ _ _ z => z.elim)
        obtain ⟨o669163, rfl, rfl, hdc, hds, bo669163, x669164, ht669165⟩ := hp669160
        have bo669163' : gB o669163 2 2 := ⟨by omega, by omega⟩
        change G _ _ _ _ _ _ _ (.int o669163 :: _) _ _ _
        refine G_widen (cs' := 4) (sl' := 20 + (o669111.toInt.toNat + 4) + 0) (Nat.add_le_add_left hdc 4) (by omega) ?_
        refine G_iconst 2 dr_cX14_symbol_80 (by decide +kernel) ?_
        refine G_icmp_ne 120 dr_cX14_symbol_81 (by decide +kernel) (fun hc => absurd (show False by have := gj_neq hc (show Int32.toInt 2 = 2 by decide); omega) not_false) (fun _ => ?_)
        try clear r669161; try clear w669162; try clear dc669158; try clear ds669159; try clear hp669160
        refine G_ldcK (a := D.2 1000 36) dr_cX14_symbol_84 (fun _ _ _ h => gx_vk 36 rfl rfl h) ?_
        have hl36_669165 : (sb_36.length : Int) = 16 := rfl
        refine G_new [.null, .int 0, .int 0, .int 0] dr_cX14_symbol_86 (gk_J4 D I) wr_7_235 wr_7_44 wr_1_20 (gfs_J4) (Nat.le_trans (show 4 + 1 ≤ 16 by decide) hMC) (show 20 + (o669111.toInt.toNat + 4) + 0 + 4 ≤ ((160 * (p668681.toInt - p668682.toInt)).toNat) by first | omega | decide) (fun q669167 => Gp_in (fun P669168 F669169 hq669170 hP669171 e669172 n669173 => ?_))
        refine G_widen (cs' := 5) (sl' := 20 + (o669111.toInt.toNat + 4) + 0 + 4) (by omega) (by omega) ?_
        have he669174 : F669169 q668678 = .inr (19, [.ref q668679, .int p668681, .int p668682, .int p668683, .int p668684, .int p668685, .int p668686, .ref qo668687, .int p668688, .int p668689, .int p668690, .ref qo668691, .ref qo668692, .int p668693]) := (n669173 q668678 (fun h => hq669170 (h ▸ hm669147))).trans he669154
        have he669175 : F669169 q668679 = .inl (I .byte, 8192, .inl f668694) := (n669173 q668679 (fun h => hq669170 (h ▸ hm669148))).trans he669155
        have he669176 : F669169 q669128 = .inr (0, [.ref q669129, .int 0, .int 0, .int 0]) := (n669173 q669128 (fun h => hq669170 (h ▸ hm669143))).trans he669139
        have he669177 : F669169 q669129 = .inl (I .byte, n669130, .inl f669131) := (n669173 q669129 (fun h => hq669170 (h ▸ hm669145))).trans he669142
        have he669178 : F669169 q669167 = .inr (1, [.null, .int 0, .int 0, .int 0]) := e669172
        have hm669179 : q668678 ∈ P669168 := (hP669171 q668678).mpr (Or.inl hm669147)
        have hm669180 : q668679 ∈ P669168 := (hP669171 q668679).mpr (Or.inl hm669148)
        have hm669181 : q669128 ∈ P669168 := (hP669171 q669128).mpr (Or.inl hm669143)
        have hm669182 : q669129 ∈ P669168 := (hP669171 q669129).mpr (Or.inl hm669145)
        have hm669183 : q669167 ∈ P669168 := (hP669171 q669167).mpr (Or.inr rfl)
        have hq669184 : q669167 ∉ P668676 := fun z => hq669170 (hsb669153 q669167 z)
        have hfr669185 : rFr [] P668676 F668677 F669169 := rFr_new hsb669153 hq669170 hfr669156 n669173
        have hsb669186 : rSub P668676 P669168 := rSub_new hsb669153 hP669171
        refine G_dup dr_cX14_symbol_89 rfl ?_
        refine Gw_callI (As := []) (gV_ok D I) (cp_658952_StringBuilder_init l hl0 D I P669168 F669169 q669167 0 0 hm669183 he669178 (gB_w (gBl (show Int32.toInt 0 = 0 by decide)) (by decide) (by decide)) (gB_w (gBl (show Int32.toInt 0 = 0 by decide)) (by decide) (by decide))) dr_cX14_symbol_90 ⟨wr_7_236, wr_1_20, wr_7_47, by decide, rfl, (Nat.le_of_ble_eq_true rfl), (Nat.le_of_ble_eq_true rfl)⟩ wr_7_46 rfl (Nat.le_trans (show 5 + 1 ≤ 16 by decide) hMC) (show 20 + (o669111.toInt.toNat + 4) + 0 + 4 + 16 ≤ ((160 * (p668681.toInt - p668682.toInt)).toNat) by first | omega | decide) (Nat.le_of_ble_eq_true rfl) (fun r669190 w669191 dc669187 ds669188 hp669189 => ?_)
        obtain ⟨P669193, F669194, q669192, rfl, rfl, hsb669195, hfr669196, he669197, he669198, hm669199, hq669200, hdc, hds⟩ := hp669189
        have hm669201 : q668678 ∈ P669193 := hsb669195 q668678 hm669179
        have hm669202 : q668679 ∈ P669193 := hsb669195 q668679 hm669180
        have hm669203 : q669128 ∈ P669193 := hsb669195 q669128 hm669181
        have hm669204 : q669129 ∈ P669193 := hsb669195 q669129 hm669182
        have hm669205 : q669167 ∈ P669193 := hsb669195 q669167 hm669183
        have hq669206 : q669192 ∉ P668676 := fun z => hq669200 (hsb669186 q669192 z)
        have hsb669207 : rSub P668676 P669193 := rSub_tr hsb669186 hsb669195
        have he669208 : F669194 q668678 = .inr (19, [.ref q668679, .int p668681, .int p668682, .int p668683, .int p668684, .int p668685, .int p668686, .ref qo668687, .int p668688, .int p668689, .int p668690, .ref qo668691, .ref qo668692, .int p668693]) := (hfr669196 q668678 hm669179 (nm_c (fun h => hq669184 (h ▸ hmq668678)) nm_n)).trans he669174
        have he669209 : F669194 q668679 = .inl (I .byte, 8192, .inl f668694) := (hfr669196 q668679 hm669180 (nm_c (fun h => hq669184 (h ▸ hmq668679)) nm_n)).trans he669175
        have he669210 : F669194 q669128 = .inr (0, [.ref q669129, .int 0, .int 0, .int 0]) := (hfr669196 q669128 hm669181 (nm_c (rn_oo he669176 he669178 (by decide)) nm_n)).trans he669176
        have he669211 : F669194 q669129 = .inl (I .byte, n669130, .inl f669131) := (hfr669196 q669129 hm669182 (nm_c (rn_ao he669177 he669178) nm_n)).trans he669177
        have hfr669212 : rFr [] P668676 F668677 F669194 := rFr_call hsb669186 hfr669185 hfr669196 (fun b hb hn => ⟨nm_n, (nm_c (fun e => hq669184 (e ▸ hb)) nm_n)⟩)
        have hne669213 : q669129 ≠ q669192 := fun h => hq669200 (h ▸ hm669182)
        change G _ _ _ _ _ _ _ _ _ _ _
        refine G_widen (cs' := 6) (sl' := 20 + (o669111.toInt.toNat + 4) + 0 + 4 + 16) (Nat.add_le_add_left hdc 5) (by omega) ?_
        refine G_ldcK (a := D.2 1000 35) dr_cX14_symbol_93 (fun _ _ _ h => gx_vk 35 rfl rfl h) ?_
        have hl35_669213 : (sb_35.length : Int) = 1 := rfl
        refine Gw_callV (As := [.ref (D.2 1000 35)]) (gV_ok D I) (cp_659254_StringBuilder_append l hl0 D I P669193 F669194 q669167 q669192 (D.2 1000 35) (D.2 1001 35) sb_35 0 0 (fun _ => 0) 16 hm669205 hm669199 he669197 he669198 (gx_sc 35 rfl rfl) (by omega) (by decide +kernel) (gB_w (gBl (show Int32.toInt 0 = 0 by decide)) (by decide) (by decide)) (gB_w (gBl (show Int32.toInt 0 = 0 by decide)) (by decide) (by decide)) (gF_w gF_0 (by decide) (by decide)) (by have qa0 : Int32.toInt 0 = 0 := (by decide); omega) (by have qa0 : Int32.toInt 0 = 0 := (by decide); omega)) dr_cX14_symbol_95 ⟨wr_8_195, wr_1_20, wr_8_143, by decide, rfl, (Nat.le_of_ble_eq_true rfl), (Nat.le_of_ble_eq_true rfl)⟩ wr_8_141 wr_8_142 hm669205 he669197 rfl (Nat.le_trans (show 6 + 0 ≤ 16 by decide) hMC) (show 20 + (o669111.toInt.toNat + 4) + 0 + 4 + 16 + 0 ≤ ((160 * (p668681.toInt - p668682.toInt)).toNat) by first | omega | decide) (Nat.le_of_ble_eq_true rfl) (fun r669218 w669219 dc669215 ds669216 hp669217 => ?_) (fun _ _ _ _ _ z => z.elim)
        obtain ⟨F669226, o669220, f669221, rfl, rfl, hfr669228, he669229, he669230, hdc, hds, bo669220, bf669221, x669222, x669223, x669224, ht669225⟩ := hp669217
        have he669231 : F669226 q668678 = .inr (19, [.ref q668679, .int p668681, .int p668682, .int p668683, .int p668684, .int p668685, .int p668686, .ref qo668687, .int p668688, .int p668689, .int p668690, .ref qo668691, .ref qo668692, .int p668693]) := (hfr669228 q668678 hm669201 (nm_c (fun h => hq669184 (h ▸ hmq668678)) (nm_c (fun h => hq669206 (h ▸ hmq668678)) nm_n))).trans he669208
        have he669232 : F669226 q668679 = .inl (I .byte, 8192, .inl f668694) := (hfr669228 q668679 hm669202 (nm_c (fun h => hq669184 (h ▸ hmq668679)) (nm_c (fun h => hq669206 (h ▸ hmq668679)) nm_n))).trans he669209
        have he669233 : F669226 q669128 = .inr (0, [.ref q669129, .int 0, .int 0, .int 0]) := (hfr669228 q669128 hm669203 (nm_c (rn_oo he669210 he669197 (by decide)) (nm_c (rn_oa he669210 he669198) nm_n))).trans he669210
        have he669234 : F669226 q669129 = .inl (I .byte, n669130, .inl f669131) := (hfr669228 q669129 hm669204 (nm_c (rn_ao he669211 he669197) (nm_c hne669213 nm_n))).trans he669211
        have hfr669235 : rFr [] P668676 F668677 F669226 := rFr_call hsb669207 hfr669212 hfr669228 (fun b hb hn => ⟨nm_n, (nm_c (fun e => hq669184 (e ▸ hb)) (nm_c (fun e => hq669206 (e ▸ hb)) nm_n))⟩)
        rw [show Int32.toInt 0 = 0 from by decide] at x669222
        have bo669220' : gB o669220 1 1 := ⟨by omega, by omega⟩
        rw [show Int32.toInt 0 = 0 from by decide] at x669223
        rw [show Int32.toInt 0 = 0 from by decide] at x669224
        change G _ _ _ _ _ _ _ (.ref q669167 :: _) _ _ _
        refine G_widen (cs' := 6) (sl' := 20 + (o669111.toInt.toNat + 4) + 0 + 4 + 16 + 0) (Nat.add_le_add_left hdc 6) (by omega) ?_
        refine G_aload_n 0 dr_cX14_symbol_98 rfl ?_
        refine Gw_callV (As := [.ref q669128]) (gV_ok D I) (cp_659026_StringBuilder_append l hl0 D I P669193 F669226 q669167 q669128 q669192 q669129 0 o669220 0 0 f669221 16 f669131 n669130 hm669205 hm669203 hm669199 hm669204 he669229 he669233 he669230 he669234 (Ne.symm hne669213) (gB_w (gBl (show Int32.toInt 0 = 0 by decide)) (by decide) (by decide)) (gB_w bo669220' (by decide) (by decide)) (gB_w (gBl (show Int32.toInt 0 = 0 by decide)) (by decide) (by decide)) bf669221 bf669131 (by have qa0 : Int32.toInt 0 = 0 := (by decide); omega) (by have qa0 : Int32.toInt 0 = 0 := (by decide); omega) (by have qa0 : Int32.toInt 0 = 0 := (by decide); omega)) dr_cX14_symbol_99 ⟨wr_8_195, wr_1_20, wr_8_143, by decide, rfl, (Nat.le_of_ble_eq_true rfl), (Nat.le_of_ble_eq_true rfl)⟩ wr_8_141 wr_8_142 hm669205 he669229 rfl (Nat.le_trans (show 6 + 0 ≤ 16 by decide) hMC) (show 20 + (o669111.toInt.toNat + 4) + 0 + 4 + 16 + 0 + 0 ≤ ((160 * (p668681.toInt - p668682.toInt)).toNat) by first | omega | decide) (Nat.le_of_ble_eq_true rfl) (fun r669239 w669240 dc669236 ds669237 hp669238 => ?_) (fun _ _ _ _ _ z => z.elim)
        obtain ⟨F669247, o669241, f669242, rfl, rfl, hfr669249, he669250, he669251, he669252, he669253, hdc, hds, bo669241, bf669242, x669243, x669244, x669245, ht669246⟩ := hp669238
        have he669254 : F669247 q668678 = .inr (19, [.ref q668679, .int p668681, .int p668682, .int p668683, .int p668684, .int p668685, .int p668686, .ref qo668687, .int p668688, .int p668689, .int p668690, .ref qo668691, .ref qo668692, .int p668693]) := (hfr669249 q668678 hm669201 (nm_c (fun h => hq669184 (h ▸ hmq668678)) (nm_c (fun h => hq669206 (h ▸ hmq668678)) nm_n))).trans he669231
        have he669255 : F669247 q668679 = .inl (I .byte, 8192, .inl f668694) := (hfr669249 q668679 hm669202 (nm_c (fun h => hq669184 (h ▸ hmq668679)) (nm_c (fun h => hq669206 (h ▸ hmq668679)) nm_n))).trans he669232
        have hfr669256 : rFr [] P668676 F668677 F669247 := rFr_call hsb669207 hfr669235 hfr669249 (fun b hb hn => ⟨nm_n, (nm_c (fun e => hq669184 (e ▸ hb)) (nm_c (fun e => hq669206 (e ▸ hb)) nm_n))⟩)
        have bo669241' : gB o669241 3 3 := ⟨by omega, by omega⟩
        change G _ _ _ _ _ _ _ (.ref q669167 :: _) _ _ _
        refine G_widen (cs' := 6) (sl' := 20 + (o669111.toInt.toNat + 4) + 0 + 4 + 16 + 0 + 0) (Nat.add_le_add_left hdc 6) (by omega) ?_
        refine G_ldcK (a := D.2 1000 35) dr_cX14_symbol_102 (fun _ _ _ h => gx_vk 35 rfl rfl h) ?_
        have hl35_669256 : (sb_35.length : Int) = 1 := rfl
        refine Gw_callV (As := [.ref (D.2 1000 35)]) (gV_ok D I) (cp_659254_StringBuilder_append l hl0 D I P669193 F669247 q669167 q669192 (D.2 1000 35) (D.2 1001 35) sb_35 0 o669241 f669242 16 hm669205 hm669199 he669250 he669252 (gx_sc 35 rfl rfl) (by omega) (by decide +kernel) (gB_w (gBl (show Int32.toInt 0 = 0 by decide)) (by decide) (by decide)) (gB_w bo669241' (by decide) (by decide)) bf669242 (by have qa0 : Int32.toInt 0 = 0 := (by decide); omega) (by have qa0 : Int32.toInt 0 = 0 := (by decide); omega)) dr_cX14_symbol_104 ⟨wr_8_195, wr_1_20, wr_8_143, by decide, rfl, (Nat.le_of_ble_eq_true rfl), (Nat.le_of_ble_eq_true rfl)⟩ wr_8_141 wr_8_142 hm669205 he669250 rfl (Nat.le_trans (show 6 + 0 ≤ 16 by decide) hMC) (show 20 + (o669111.toInt.toNat + 4) + 0 + 4 + 16 + 0 + 0 + 0 ≤ ((160 * (p668681.toInt - p668682.toInt)).toNat) by first | omega | decide) (Nat.le_of_ble_eq_true rfl) (fun r669261 w669262 dc669258 ds669259 hp669260 => ?_) (fun _ _ _ _ _ z => z.elim)
        obtain ⟨F669269, o669263, f669264, rfl, rfl, hfr669271, he669272, he669273, hdc, hds, bo669263, bf669264, x669265, x669266, x669267, ht669268⟩ := hp669260
        have he669274 : F669269 q668678 = .inr (19, [.ref q668679, .int p668681, .int p668682, .int p668683, .int p668684, .int p668685, .int p668686, .ref qo668687, .int p668688, .int p668689, .int p668690, .ref qo668691, .ref qo668692, .int p668693]) := (hfr669271 q668678 hm669201 (nm_c (fun h => hq669184 (h ▸ hmq668678)) (nm_c (fun h => hq669206 (h ▸ hmq668678)) nm_n))).trans he669254
        have he669275 : F669269 q668679 = .inl (I .byte, 8192, .inl f668694) := (hfr669271 q668679 hm669202 (nm_c (fun h => hq669184 (h ▸ hmq668679)) (nm_c (fun h => hq669206 (h ▸ hmq668679)) nm_n))).trans he669255
        have he669276 : F669269 q669128 = .inr (0, [.ref q669129, .int 0, .int 0, .int 0]) := (hfr669271 q669128 hm669203 (nm_c (rn_oo he669251 he669250 (by decide)) (nm_c (rn_oa he669251 he669252) nm_n))).trans he669251
        have he669277 : F669269 q669129 = .inl (I .byte, n669130, .inl f669131) := (hfr669271 q669129 hm669204 (nm_c (rn_ao he669253 he669250) (nm_c hne669213 nm_n))).trans he669253
        have hfr669278 : rFr [] P668676 F668677 F669269 := rFr_call hsb669207 hfr669256 hfr669271 (fun b hb hn => ⟨nm_n, (nm_c (fun e => hq669184 (e ▸ hb)) (nm_c (fun e => hq669206 (e ▸ hb)) nm_n))⟩)
        have bo669263' : gB o669263 4 4 := ⟨by omega, by omega⟩
        change G _ _ _ _ _ _ _ (.ref q669167 :: _) _ _ _
        refine G_widen (cs' := 6) (sl' := 20 + (o669111.toInt.toNat + 4) + 0 + 4 + 16 + 0 + 0 + 0) (Nat.add_le_add_left hdc 6) (by omega) ?_
        refine Gw_callV (As := []) (gV_ok D I) (cp_659727_StringBuilder_toString l hl0 D I P669193 F669269 q669167 q669192 0 o669263 f669264 16 hm669205 hm669199 he669272 he669273 (gB_w (gBl (show Int32.toInt 0 = 0 by decide)) (by decide) (by decide)) (gB_w bo669263' (by decide) (by decide)) bf669264 (by have qa0 : Int32.toInt 0 = 0 := (by decide); omega) (by have qa0 : Int32.toInt 0 = 0 := (by decide); omega)) dr_cX14_symbol_107 ⟨wr_8_66, wr_1_20, wr_8_69, by decide, rfl, (Nat.le_of_ble_eq_true rfl), (Nat.le_of_ble_eq_true rfl)⟩ wr_8_67 wr_8_68 hm669205 he669272 rfl (Nat.le_trans (show 6 + 2 ≤ 16 by decide) hMC) (show 20 + (o669111.toInt.toNat + 4) + 0 + 4 + 16 + 0 + 0 + 0 + (o669263.toInt.toNat + 4) ≤ ((160 * (p668681.toInt - p668682.toInt)).toNat) by first | omega | decide) (Nat.le_of_ble_eq_true rfl) (fun r669282 w669283 dc669279 ds669280 hp669281 => ?_) (fun _ _ _ _ _ z => z.elim)
        obtain ⟨P669291, F669292, q669284, q669285, n669286, f669287, rfl, rfl, hsb669293, hfr669294, he669295, he669296, he669297, he669298, hm669299, hq669300, hm669301, hq669302, hdc, hds, bf669287, x669288, x669289, ht669290⟩ := hp669281
        have hm669303 : q668678 ∈ P669291 := hsb669293 q668678 hm669201
        have hm669304 : q668679 ∈ P669291 := hsb669293 q668679 hm669202
        have hm669305 : q669128 ∈ P669291 := hsb669293 q669128 hm669203
        have hm669306 : q669129 ∈ P669291 := hsb669293 q669129 hm669204
        have hm669307 : q669167 ∈ P669291 := hsb669293 q669167 hm669205
        have hm669308 : q669192 ∈ P669291 := hsb669293 q669192 hm669199
        have hq669309 : q669284 ∉ P668676 := fun z => hq669300 (hsb669207 q669284 z)
        have hq669310 : q669285 ∉ P668676 := fun z => hq669302 (hsb669207 q669285 z)
        have hsb669311 : rSub P668676 P669291 := rSub_tr hsb669207 hsb669293
        have he669312 : F669292 q668678 = .inr (19, [.ref q668679, .int p668681, .int p668682, .int p668683, .int p668684, .int p668685, .int p668686, .ref qo668687, .int p668688, .int p668689, .int p668690, .ref qo668691, .ref qo668692, .int p668693]) := (hfr669294 q668678 hm669201 nm_n).trans he669274
        have he669313 : F669292 q668679 = .inl (I .byte, 8192, .inl f668694) := (hfr669294 q668679 hm669202 nm_n).trans he669275
        have he669314 : F669292 q669128 = .inr (0, [.ref q669129, .int 0, .int 0, .int 0]) := (hfr669294 q669128 hm669203 nm_n).trans he669276
        have he669315 : F669292 q669129 = .inl (I .byte, n669130, .inl f669131) := (hfr669294 q669129 hm669204 nm_n).trans he669277
        have hfr669316 : rFr [] P668676 F668677 F669292 := rFr_call hsb669207 hfr669278 hfr669294 (fun b hb hn => ⟨nm_n, nm_n⟩)
        have hne669317 : q669128 ≠ q669284 := fun h => hq669300 (h ▸ hm669203)
        have hne669318 : q669129 ≠ q669285 := fun h => hq669302 (h ▸ hm669204)
        have hne669319 : q669192 ≠ q669285 := fun h => hq669302 (h ▸ hm669199)
        change G _ _ _ _ _ _ _ (.ref q669284 :: _) _ _ _
        refine G_widen (cs' := 8) (sl' := 20 + (o669111.toInt.toNat + 4) + 0 + 4 + 16 + 0 + 0 + 0 + (o669263.toInt.toNat + 4)) (Nat.add_le_add_left hdc 6) (by omega) ?_
        refine Gw_callVk (As := [.ref q669284]) (gV_ok D I) (cp_660186_String_indexOf l hl0 D I P669291 F669292 q669284 q669285 (D.2 1000 36) (D.2 1001 36) sb_36 0 0 f669287 n669286 hm669299 hm669301 he669295 he669298 (gx_sc 36 rfl rfl) (by omega) (by decide +kernel) (gB_w (gBl (show Int32.toInt 0 = 0 by decide)) (by decide) (by decide)) bf669287 (by have qa0 : Int32.toInt 0 = 0 := (by decide); omega) (by have qa0 : Int32.toInt 0 = 0 := (by decide); omega)) dr_cX14_symbol_110 ⟨wr_8_196, wr_1_21, wr_8_199, by decide, rfl, (Nat.le_of_ble_eq_true rfl), (Nat.le_of_ble_eq_true rfl)⟩ wr_8_197 wr_8_198 (fun _ _ _ h => ((gx_sc 36 rfl rfl) _ _ _ h).1) (Nat.le_trans (show 8 + 0 ≤ 16 by decide) hMC) (show 20 + (o669111.toInt.toNat + 4) + 0 + 4 + 16 + 0 + 0 + 0 + (o669263.toInt.toNat + 4) + 0 ≤ ((160 * (p668681.toInt - p668682.toInt)).toNat) by first | omega | decide) (Nat.le_of_ble_eq_true rfl) (fun r669323 w669324 dc669320 ds669321 hp669322 => ?_) (fun _ _ _ _ _ z => z.elim)
        obtain ⟨o669325, rfl, rfl, hdc, hds, bo669325, x669326, x669327, ht669328⟩ := hp669322
        change G _ _ _ _ _ _ _ (.int o669325 :: _) _ _ _
        refine G_widen (cs' := 8) (sl' := 20 + (o669111.toInt.toNat + 4) + 0 + 4 + 16 + 0 + 0 + 0 + (o669263.toInt.toNat + 4) + 0) (Nat.add_le_add_left hdc 8) (by omega) ?_
        refine G_if_lt 120 dr_cX14_symbol_113 (by decide +kernel) (fun hc669329 => ?_) (fun hc669329 => ?_)
        · have r669330 : o669325.toInt < 0 := gj_lt hc669329 (show Int32.toInt 0 = 0 by decide)
          have bo669325' : gB o669325 (-2147483646) (-1) := ⟨by omega, by omega⟩
          refine G_iconst 0 dr_cX14_symbol_120 (by decide +kernel) ?_
          refine G_istore_n (L' := [(3, .int 0), (2, .ref q669128), (0, .ref q668678), (1, .int p668680)]) dr_cX14_symbol_121 (Nat.le_of_ble_eq_true rfl) rfl ?_
          clear he669139 he669142 hm669143 hm669145 hm669147 hm669148 hsb669153 he669154 he669155 hfr669156 he669174 he669175 he669176 he669177 he669178 hm669179 hm669180 hm669181 hm669182 hm669183 hq669184 hfr669185 hsb669186 hsb669195 hfr669196 he669197 he669198 hm669199 hq669200 hm669201 hm669202 hm669203 hm669204 hm669205 hq669206 hsb669207 he669208 he669209 he669210 he669211 hfr669212 hne669213 hfr669228 he669229 he669230 bf669221 he669231 he669232 he669233 he669234 hfr669235 hfr669249 he669250 he669251 he669252 he669253 bf669242 he669254 he669255 hfr669256 hfr669271 he669272 he669273 bf669264 he669274 he669275 he669276 he669277 hfr669278 hsb669293 hfr669294 he669295 he669296 he669297 he669298 hm669299 hq669300 hm669301 hq669302 bf669287 hm669307 hm669308 hq669309 hq669310 hne669317 hne669318 hne669319; try clear r669190; try clear w669191; try clear dc669187; try clear ds669188; try clear hp669189; try clear r669218; try clear w669219; try clear dc669215; try clear ds669216; try clear hp669217; try clear x669223; try clear x669224; try clear r669239; try clear w669240; try clear dc669236; try clear ds669237; try clear hp669238; try clear x669244; try clear x669245; try clear r669261; try clear w669262; try clear dc669258; try clear ds669259; try clear hp669260; try clear x669266; try clear x669267; try clear r669282; try clear w669283; try clear dc669279; try clear ds669280; try clear hp669281; try clear x669289; try clear r669323; try clear w669324; try clear dc669320; try clear ds669321; try clear hp669322; try clear x669327
          refine G_aload_n 2 dr_cX14_symbol_122 rfl ?_
          refine G_iload_n 0 dr_cX14_symbol_123 rfl ?_
          refine G_if_ne 143 dr_cX14_symbol_124 (by decide +kernel) (fun hc => absurd hc (by decide)) (fun _ => ?_)
          refine G_iload_n 3 dr_cX14_symbol_127 rfl ?_
          refine G_bipush 32 dr_cX14_symbol_128 (by decide +kernel) ?_
          refine G_icmp_le 147 dr_cX14_symbol_130 (by decide +kernel) (fun hc => absurd (show False by have := gj_le hc (show Int32.toInt 32 = 32 by decide); omega) not_false) (fun _ => ?_)
          refine G_ldcK (a := D.2 1000 37) dr_cX14_symbol_133 (fun _ _ _ h => gx_vk 37 rfl rfl h) ?_
          have hl37_669330 : (sb_37.length : Int) = 14 := rfl
          refine G_iload_n 3 dr_cX14_symbol_135 rfl ?_
          refine G_i2c dr_cX14_symbol_136 (G_nam fun z669332 hz669332 => ?_)
          have ez669332 : z669332.toInt = p668680.toInt := gI_i2c hz669332 (by omega) (by omega)
          have bz669332 : gB z669332 33 127 := ⟨by omega, by omega⟩
          refine Gw_callVk (As := [.int z669332]) (gV_ok D I) (cp_667261_String_indexOf l hl0 D I P669291 F669292 (D.2 1000 37) (D.2 1001 37) sb_37 z669332 (gx_sc 37 rfl rfl) (by omega) (by decide +kernel) (gB_w bz669332 (by decide) (by decide))) dr_cX14_symbol_137 ⟨wr_8_230, wr_1_21, wr_8_233, by decide, rfl, (Nat.le_of_ble_eq_true rfl), (Nat.le_of_ble_eq_true rfl)⟩ wr_8_231 wr_8_232 (fun _ _ _ h => ((gx_sc 37 rfl rfl) _ _ _ h).1) (Nat.le_trans (show 8 + 0 ≤ 16 by decide) hMC) (show 20 + (o669111.toInt.toNat + 4) + 0 + 4 + 16 + 0 + 0 + 0 + (o669263.toInt.toNat + 4) + 0 + 0 ≤ ((160 * (p668681.toInt - p668682.toInt)).toNat) by first | omega | decide) (Nat.le_of_ble_eq_true rfl) (fun r669336 w669337 dc669333 ds669334 hp669335 => ?_) (fun _ _ _ _ _ z => z.elim)
          obtain ⟨o669338, rfl, rfl, hdc, hds, bo669338, ht669339⟩ := hp669335
          change G _ _ _ _ _ _ _ (.int o669338 :: _) _ _ _
          refine G_widen (cs' := 8) (sl' := 20 + (o669111.toInt.toNat + 4) + 0 + 4 + 16 + 0 + 0 + 0 + (o669263.toInt.toNat + 4) + 0 + 0) (Nat.add_le_add_left hdc 8) (by omega) ?_
          refine G_if_lt 147 dr_cX14_symbol_140 (by decide +kernel) (fun hc669340 => ?_) (fun hc669340 => ?_)
          · have r669341 : o669338.toInt < 0 := gj_lt hc669340 (show Int32.toInt 0 = 0 by decide)
            have bo669338' : gB o669338 (-1) (-1) := ⟨by omega, by omega⟩
            refine G_bipush 6 dr_cX14_symbol_147 (by decide +kernel) ?_
            refine Gp_put 3 hm669303 he669312 dr_cX14_symbol_149 (gk_X14 D I) (Nat.le_of_ble_eq_true rfl) wr_9_39 rfl rfl rfl (Nat.le_of_ble_eq_true rfl) (fun F669342 e669343 n669344 => ?_)
            have he669345 : F669342 q668679 = .inl (I .byte, 8192, .inl f668694) := (n669344 q668679 (rn_ao he669313 he669312)).trans he669313
            have he669346 : F669342 q669128 = .inr (0, [.ref q669129, .int 0, .int 0, .int 0]) := (n669344 q669128 (fun h => hq669151 (h ▸ hmq668678))).trans he669314
            have he669347 : F669342 q669129 = .inl (I .byte, n669130, .inl f669131) := (n669344 q669129 (fun h => hq669152 (h ▸ hmq668678))).trans he669315
            have he669348 : F669342 q668678 = .inr (19, [.ref q668679, .int p668681, .int p668682, .int 6, .int p668684, .int p668685, .int p668686, .ref qo668687, .int p668688, .int p668689, .int p668690, .ref qo668691, .ref qo668692, .int p668693]) := e669343
            have hfr669349 : rFr [q668678] P668676 F668677 F669342 := rFr_put hfr669316 n669344
            clear he669312 he669313 he669314 he669315 hfr669316 ez669332 bz669332 bo669338'; try clear r669336; try clear w669337; try clear dc669333; try clear ds669334; try clear hp669335
            refine G_aload_n 2 dr_cX14_symbol_152 rfl ?_
            refine G_iload_n 0 dr_cX14_symbol_153 rfl ?_
            refine G_if_eq 161 dr_cX14_symbol_154 (by decide +kernel) (fun _ => ?_) (fun hc => absurd hc (by decide))
            refine G_iload_n 3 dr_cX14_symbol_161 rfl ?_
            refine G_bipush 32 dr_cX14_symbol_162 (by decide +kernel) ?_
            refine G_icmp_le 190 dr_cX14_symbol_164 (by decide +kernel) (fun hc => absurd (show False by have := gj_le hc (show Int32.toInt 32 = 32 by decide); omega) not_false) (fun _ => ?_)
            refine G_new [.null, .int 0, .int 0, .int 0] dr_cX14_symbol_167 (gk_J4 D I) wr_7_235 wr_7_44 wr_1_20 (gfs_J4) (Nat.le_trans (show 8 + 1 ≤ 16 by decide) hMC) (show 20 + (o669111.toInt.toNat + 4) + 0 + 4 + 16 + 0 + 0 + 0 + (o669263.toInt.toNat + 4) + 0 + 0 + 4 ≤ ((160 * (p668681.toInt - p668682.toInt)).toNat) by first | omega | decide) (fun q669350 => Gp_in (fun P669351 F669352 hq669353 hP669354 e669355 n669356 => ?_))
            refine G_widen (cs' := 9) (sl' := 20 + (o669111.toInt.toNat + 4) + 0 + 4 + 16 + 0 + 0 + 0 + (o669263.toInt.toNat + 4) + 0 + 0 + 4) (by omega) (by omega) ?_
            have he669357 : F669352 q668678 = .inr (19, [.ref q668679, .int p668681, .int p668682, .int 6, .int p668684, .int p668685, .int p668686, .ref qo668687, .int p668688, .int p668689, .int p668690, .ref qo668691, .ref qo668692, .int p668693]) := (n669356 q668678 (fun h => hq669353 (h ▸ hm669303))).trans he669348
            have he669358 : F669352 q668679 = .inl (I .byte, 8192, .inl f668694) := (n669356 q668679 (fun h => hq669353 (h ▸ hm669304))).trans he669345
            have he669359 : F669352 q669128 = .inr (0, [.ref q669129, .int 0, .int 0, .int 0]) := (n669356 q669128 (fun h => hq669353 (h ▸ hm669305))).trans he669346
            have he669360 : F669352 q669129 = .inl (I .byte, n669130, .inl f669131) := (n669356 q669129 (fun h => hq669353 (h ▸ hm669306))).trans he669347
            have he669361 : F669352 q669350 = .inr (1, [.null, .int 0, .int 0, .int 0]) := e669355
            have hm669362 : q668678 ∈ P669351 := (hP669354 q668678).mpr (Or.inl hm669303)
            have hm669363 : q668679 ∈ P669351 := (hP669354 q668679).mpr (Or.inl hm669304)
            have hm669364 : q669128 ∈ P669351 := (hP669354 q669128).mpr (Or.inl hm669305)
            have hm669365 : q669129 ∈ P669351 := (hP669354 q669129).mpr (Or.inl hm669306)
            have hm669366 : q669350 ∈ P669351 := (hP669354 q669350).mpr (Or.inr rfl)
            have hq669367 : q669350 ∉ P668676 := fun z => hq669353 (hsb669311 q669350 z)
            have hfr669368 : rFr [q668678] P668676 F668677 F669352 := rFr_new hsb669311 hq669353 hfr669349 n669356
            have hsb669369 : rSub P668676 P669351 := rSub_new hsb669311 hP669354
            refine G_dup dr_cX14_symbol_170 rfl ?_
            refine Gw_callI (As := []) (gV_ok D I) (cp_658952_StringBuilder_init l hl0 D I P669351 F669352 q669350 0 0 hm669366 he669361 (gB_w (gBl (show Int32.toInt 0 = 0 by decide)) (by decide) (by decide)) (gB_w (gBl (show Int32.toInt 0 = 0 by decide)) (by decide) (by decide))) dr_cX14_symbol_171 ⟨wr_7_236, wr_1_20, wr_7_47, by decide, rfl, (Nat.le_of_ble_eq_true rfl), (Nat.le_of_ble_eq_true rfl)⟩ wr_7_46 rfl (Nat.le_trans (show 9 + 1 ≤ 16 by decide) hMC) (show 20 + (o669111.toInt.toNat + 4) + 0 + 4 + 16 + 0 + 0 + 0 + (o669263.toInt.toNat + 4) + 0 + 0 + 4 + 16 ≤ ((160 * (p668681.toInt - p668682.toInt)).toNat) by first | omega | decide) (Nat.le_of_ble_eq_true rfl) (fun r669373 w669374 dc669370 ds669371 hp669372 => ?_)
            obtain ⟨P669376, F669377, q669375, rfl, rfl, hsb669378, hfr669379, he669380, he669381, hm669382, hq669383, hdc, hds⟩ := hp669372
            have hm669384 : q668678 ∈ P669376 := hsb669378 q668678 hm669362
            have hm669385 : q668679 ∈ P669376 := hsb669378 q668679 hm669363
            have hm669386 : q669128 ∈ P669376 := hsb669378 q669128 hm669364
            have hm669387 : q669129 ∈ P669376 := hsb669378 q669129 hm669365
            have hm669388 : q669350 ∈ P669376 := hsb669378 q669350 hm669366
            have hq669389 : q669375 ∉ P668676 := fun z => hq669383 (hsb669369 q669375 z)
            have hsb669390 : rSub P668676 P669376 := rSub_tr hsb669369 hsb669378
            have he669391 : F669377 q668678 = .inr (19, [.ref q668679, .int p668681, .int p668682, .int 6, .int p668684, .int p668685, .int p668686, .ref qo668687, .int p668688, .int p668689, .int p668690, .ref qo668691, .ref qo668692, .int p668693]) := (hfr669379 q668678 hm669362 (nm_c (fun h => hq669367 (h ▸ hmq668678)) nm_n)).trans he669357
            have he669392 : F669377 q668679 = .inl (I .byte, 8192, .inl f668694) := (hfr669379 q668679 hm669363 (nm_c (fun h => hq669367 (h ▸ hmq668679)) nm_n)).trans he669358
            have he669393 : F669377 q669128 = .inr (0, [.ref q669129, .int 0, .int 0, .int 0]) := (hfr669379 q669128 hm669364 (nm_c (rn_oo he669359 he669361 (by decide)) nm_n)).trans he669359
            have he669394 : F669377 q669129 = .inl (I .byte, n669130, .inl f669131) := (hfr669379 q669129 hm669365 (nm_c (rn_ao he669360 he669361) nm_n)).trans he669360
            have hfr669395 : rFr [q668678] P668676 F668677 F669377 := rFr_call hsb669369 hfr669368 hfr669379 (fun b hb hn => ⟨(nm_c (fun e => hn (e ▸ List.mem_cons_self)) nm_n), (nm_c (fun e => hq669367 (e ▸ hb)) nm_n)⟩)
            have hne669396 : q669129 ≠ q669375 := fun h => hq669383 (h ▸ hm669365)
            change G _ _ _ _ _ _ _ _ _ _ _
            refine G_widen (cs' := 10) (sl' := 20 + (o669111.toInt.toNat + 4) + 0 + 4 + 16 + 0 + 0 + 0 + (o669263.toInt.toNat + 4) + 0 + 0 + 4 + 16) (Nat.add_le_add_left hdc 9) (by omega) ?_
            refine G_ldcK (a := D.2 1000 32) dr_cX14_symbol_174 (fun _ _ _ h => gx_vk 32 rfl rfl h) ?_
            have hl32_669396 : (sb_32.length : Int) = 0 := rfl
            refine Gw_callV (As := [.ref (D.2 1000 32)]) (gV_ok D I) (cp_659254_StringBuilder_append l hl0 D I P669376 F669377 q669350 q669375 (D.2 1000 32) (D.2 1001 32) sb_32 0 0 (fun _ => 0) 16 hm669388 hm669382 he669380 he669381 (gx_sc 32 rfl rfl) (by omega) (by decide +kernel) (gB_w (gBl (show Int32.toInt 0 = 0 by decide)) (by decide) (by decide)) (gB_w (gBl (show Int32.toInt 0 = 0 by decide)) (by decide) (by decide)) (gF_w gF_0 (by decide) (by decide)) (by have qa0 : Int32.toInt 0 = 0 := (by decide); have qa1 : Int32.toInt 6 = 6 := (by decide); omega) (by have qa0 : Int32.toInt 0 = 0 := (by decide); have qa1 : Int32.toInt 6 = 6 := (by decide); omega)) dr_cX14_symbol_176 ⟨wr_8_195, wr_1_20, wr_8_143, by decide, rfl, (Nat.le_of_ble_eq_true rfl), (Nat.le_of_ble_eq_true rfl)⟩ wr_8_141 wr_8_142 hm669388 he669380 rfl (Nat.le_trans (show 10 + 0 ≤ 16 by decide) hMC) (show 20 + (o669111.toInt.toNat + 4) + 0 + 4 + 16 + 0 + 0 + 0 + (o669263.toInt.toNat + 4) + 0 + 0 + 4 + 16 + 0 ≤ ((160 * (p668681.toInt - p668682.toInt)).toNat) by first | omega | decide) (Nat.le_of_ble_eq_true rfl) (fun r669401 w669402 dc669398 ds669399 hp669400 => ?_) (fun _ _ _ _ _ z => z.elim)
            obtain ⟨F669409, o669403, f669404, rfl, rfl, hfr669411, he669412, he669413, hdc, hds, bo669403, bf669404, x669405, x669406, x669407, ht669408⟩ := hp669400
            have he669414 : F669409 q668678 = .inr (19, [.ref q668679, .int p668681, .int p668682, .int 6, .int p668684, .int p668685, .int p668686, .ref qo668687, .int p668688, .int p668689, .int p668690, .ref qo668691, .ref qo668692, .int p668693]) := (hfr669411 q668678 hm669384 (nm_c (fun h => hq669367 (h ▸ hmq668678)) (nm_c (fun h => hq669389 (h ▸ hmq668678)) nm_n))).trans he669391
            have he669415 : F669409 q668679 = .inl (I .byte, 8192, .inl f668694) := (hfr669411 q668679 hm669385 (nm_c (fun h => hq669367 (h ▸ hmq668679)) (nm_c (fun h => hq669389 (h ▸ hmq668679)) nm_n))).trans he669392
            have he669416 : F669409 q669128 = .inr (0, [.ref q669129, .int 0, .int 0, .int 0]) := (hfr669411 q669128 hm669386 (nm_c (rn_oo he669393 he669380 (by decide)) (nm_c (rn_oa he669393 he669381) nm_n))).trans he669393
            have he669417 : F669409 q669129 = .inl (I .byte, n669130, .inl f669131) := (hfr669411 q669129 hm669387 (nm_c (rn_ao he669394 he669380) (nm_c hne669396 nm_n))).trans he669394
            have hfr669418 : rFr [q668678] P668676 F668677 F669409 := rFr_call hsb669390 hfr669395 hfr669411 (fun b hb hn => ⟨(nm_c (fun e => hn (e ▸ List.mem_cons_self)) nm_n), (nm_c (fun e => hq669367 (e ▸ hb)) (nm_c (fun e => hq669389 (e ▸ hb)) nm_n))⟩)
            rw [show Int32.toInt 0 = 0 from by decide] at x669405
            have bo669403' : gB o669403 0 0 := ⟨by omega, by omega⟩
            rw [show Int32.toInt 0 = 0 from by decide] at x669406
            rw [show Int32.toInt 0 = 0 from by decide] at x669407
            change G _ _ _ _ _ _ _ (.ref q669350 :: _) _ _ _
            refine G_widen (cs' := 10) (sl' := 20 + (o669111.toInt.toNat + 4) + 0 + 4 + 16 + 0 + 0 + 0 + (o669263.toInt.toNat + 4) + 0 + 0 + 4 + 16 + 0) (Nat.add_le_add_left hdc 10) (by omega) ?_
            refine G_iload_n 3 dr_cX14_symbol_179 rfl ?_
            refine G_i2c dr_cX14_symbol_180 (G_nam fun z669419 hz669419 => ?_)
            have ez669419 : z669419.toInt = p668680.toInt := gI_i2c hz669419 (by omega) (by omega)
            have bz669419 : gB z669419 33 127 := ⟨by omega, by omega⟩
            refine Gw_callV (As := [.int z669419]) (gV_ok D I) (cp_658513_StringBuilder_append l hl0 D I P669376 F669409 q669350 q669375 z669419 0 o669403 f669404 16 hm669388 hm669382 he669412 he669413 (gB_w bz669419 (by decide) (by decide)) (gB_w (gBl (show Int32.toInt 0 = 0 by decide)) (by decide) (by decide)) (gB_w bo669403' (by decide) (by decide)) bf669404 (by have qa0 : Int32.toInt 0 = 0 := (by decide); have qa1 : Int32.toInt 6 = 6 := (by decide); omega) (by have qa0 : Int32.toInt 0 = 0 := (by decide); have qa1 : Int32.toInt 6 = 6 := (by decide); omega)) dr_cX14_symbol_181 ⟨wr_7_237, wr_1_20, wr_8_0, by decide, rfl, (Nat.le_of_ble_eq_true rfl), (Nat.le_of_ble_eq_true rfl)⟩ wr_7_238 wr_7_239 hm669388 he669412 rfl (Nat.le_trans (show 10 + 0 ≤ 16 by decide) hMC) (show 20 + (o669111.toInt.toNat + 4) + 0 + 4 + 16 + 0 + 0 + 0 + (o669263.toInt.toNat + 4) + 0 + 0 + 4 + 16 + 0 + 0 ≤ ((160 * (p668681.toInt - p668682.toInt)).toNat) by first | omega | decide) (Nat.le_of_ble_eq_true rfl) (fun r669423 w669424 dc669420 ds669421 hp669422 => ?_) (fun _ _ _ _ _ z => z.elim)
            obtain ⟨F669429, o669425, f669426, rfl, rfl, hfr669431, he669432, he669433, hdc, hds, bo669425, bf669426, x669427, ht669428⟩ := hp669422
            have he669434 : F669429 q668678 = .inr (19, [.ref q668679, .int p668681, .int p668682, .int 6, .int p668684, .int p668685, .int p668686, .ref qo668687, .int p668688, .int p668689, .int p668690, .ref qo668691, .ref qo668692, .int p668693]) := (hfr669431 q668678 hm669384 (nm_c (fun h => hq669389 (h ▸ hmq668678)) (nm_c (fun h => hq669367 (h ▸ hmq668678)) nm_n))).trans he669414
            have he669435 : F669429 q668679 = .inl (I .byte, 8192, .inl f668694) := (hfr669431 q668679 hm669385 (nm_c (fun h => hq669389 (h ▸ hmq668679)) (nm_c (fun h => hq669367 (h ▸ hmq668679)) nm_n))).trans he669415
            have he669436 : F669429 q669128 = .inr (0, [.ref q669129, .int 0, .int 0, .int 0]) := (hfr669431 q669128 hm669386 (nm_c (rn_oa he669416 he669413) (nm_c (rn_oo he669416 he669412 (by decide)) nm_n))).trans he669416
            have he669437 : F669429 q669129 = .inl (I .byte, n669130, .inl f669131) := (hfr669431 q669129 hm669387 (nm_c hne669396 (nm_c (rn_ao he669417 he669412) nm_n))).trans he669417
            have hfr669438 : rFr [q668678] P668676 F668677 F669429 := rFr_call hsb669390 hfr669418 hfr669431 (fun b hb hn => ⟨(nm_c (fun e => hn (e ▸ List.mem_cons_self)) nm_n), (nm_c (fun e => hq669389 (e ▸ hb)) (nm_c (fun e => hq669367 (e ▸ hb)) nm_n))⟩)
            have bo669425' : gB o669425 1 1 := ⟨by omega, by omega⟩
            change G _ _ _ _ _ _ _ (.ref q669350 :: _) _ _ _
            refine G_widen (cs' := 10) (sl' := 20 + (o669111.toInt.toNat + 4) + 0 + 4 + 16 + 0 + 0 + 0 + (o669263.toInt.toNat + 4) + 0 + 0 + 4 + 16 + 0 + 0) (Nat.add_le_add_left hdc 10) (by omega) ?_
            refine Gw_callV (As := []) (gV_ok D I) (cp_659727_StringBuilder_toString l hl0 D I P669376 F669429 q669350 q669375 0 o669425 f669426 16 hm669388 hm669382 he669432 he669433 (gB_w (gBl (show Int32.toInt 0 = 0 by decide)) (by decide) (by decide)) (gB_w bo669425' (by decide) (by decide)) bf669426 (by have qa0 : Int32.toInt 0 = 0 := (by decide); have qa1 : Int32.toInt 6 = 6 := (by decide); omega) (by have qa0 : Int32.toInt 0 = 0 := (by decide); have qa1 : Int32.toInt 6 = 6 := (by decide); omega)) dr_cX14_symbol_184 ⟨wr_8_66, wr_1_20, wr_8_69, by decide, rfl, (Nat.le_of_ble_eq_true rfl), (Nat.le_of_ble_eq_true rfl)⟩ wr_8_67 wr_8_68 hm669388 he669432 rfl (Nat.le_trans (show 10 + 2 ≤ 16 by decide) hMC) (show 20 + (o669111.toInt.toNat + 4) + 0 + 4 + 16 + 0 + 0 + 0 + (o669263.toInt.toNat + 4) + 0 + 0 + 4 + 16 + 0 + 0 + (o669425.toInt.toNat + 4) ≤ ((160 * (p668681.toInt - p668682.toInt)).toNat) by first | omega | decide) (Nat.le_of_ble_eq_true rfl) (fun r669442 w669443 dc669439 ds669440 hp669441 => ?_) (fun _ _ _ _ _ z => z.elim)
            obtain ⟨P669451, F669452, q669444, q669445, n669446, f669447, rfl, rfl, hsb669453, hfr669454, he669455, he669456, he669457, he669458, hm669459, hq669460, hm669461, hq669462, hdc, hds, bf669447, x669448, x669449, ht669450⟩ := hp669441
            have hm669463 : q668678 ∈ P669451 := hsb669453 q668678 hm669384
            have hm669464 : q668679 ∈ P669451 := hsb669453 q668679 hm669385
            have hm669465 : q669128 ∈ P669451 := hsb669453 q669128 hm669386
            have hm669466 : q669129 ∈ P669451 := hsb669453 q669129 hm669387
            have hm669467 : q669350 ∈ P669451 := hsb669453 q669350 hm669388
            have hm669468 : q669375 ∈ P669451 := hsb669453 q669375 hm669382
            have hq669469 : q669444 ∉ P668676 := fun z => hq669460 (hsb669390 q669444 z)
            have hq669470 : q669445 ∉ P668676 := fun z => hq669462 (hsb669390 q669445 z)
            have hsb669471 : rSub P668676 P669451 := rSub_tr hsb669390 hsb669453
            have he669472 : F669452 q668678 = .inr (19, [.ref q668679, .int p668681, .int p668682, .int 6, .int p668684, .int p668685, .int p668686, .ref qo668687, .int p668688, .int p668689, .int p668690, .ref qo668691, .ref qo668692, .int p668693]) := (hfr669454 q668678 hm669384 nm_n).trans he669434
            have he669473 : F669452 q668679 = .inl (I .byte, 8192, .inl f668694) := (hfr669454 q668679 hm669385 nm_n).trans he669435
            have he669474 : F669452 q669128 = .inr (0, [.ref q669129, .int 0, .int 0, .int 0]) := (hfr669454 q669128 hm669386 nm_n).trans he669436
            have he669475 : F669452 q669129 = .inl (I .byte, n669130, .inl f669131) := (hfr669454 q669129 hm669387 nm_n).trans he669437
            have hfr669476 : rFr [q668678] P668676 F668677 F669452 := rFr_call hsb669390 hfr669438 hfr669454 (fun b hb hn => ⟨(nm_c (fun e => hn (e ▸ List.mem_cons_self)) nm_n), nm_n⟩)
            have hne669477 : q669128 ≠ q669444 := fun h => hq669460 (h ▸ hm669386)
            have hne669478 : q669129 ≠ q669445 := fun h => hq669462 (h ▸ hm669387)
            have hne669479 : q669375 ≠ q669445 := fun h => hq669462 (h ▸ hm669382)
            change G _ _ _ _ _ _ _ (.ref q669444 :: _) _ _ _
            refine G_widen (cs' := 12) (sl' := 20 + (o669111.toInt.toNat + 4) + 0 + 4 + 16 + 0 + 0 + 0 + (o669263.toInt.toNat + 4) + 0 + 0 + 4 + 16 + 0 + 0 + (o669425.toInt.toNat + 4)) (Nat.add_le_add_left hdc 10) (by omega) ?_
            refine G_goto 192 dr_cX14_symbol_187 (by decide +kernel) ?_
            refine Gp_put 7 hm669463 he669472 dr_cX14_symbol_192 (gk_X14 D I) (Nat.le_of_ble_eq_true rfl) wr_9_43 rfl rfl rfl (Nat.le_of_ble_eq_true rfl) (fun F669480 e669481 n669482 => ?_)
            have he669483 : F669480 q668679 = .inl (I .byte, 8192, .inl f668694) := (n669482 q668679 (rn_ao he669473 he669472)).trans he669473
            have he669484 : F669480 q669128 = .inr (0, [.ref q669129, .int 0, .int 0, .int 0]) := (n669482 q669128 (fun h => hq669151 (h ▸ hmq668678))).trans he669474
            have he669485 : F669480 q669129 = .inl (I .byte, n669130, .inl f669131) := (n669482 q669129 (fun h => hq669152 (h ▸ hmq668678))).trans he669475
            have he669486 : F669480 q669444 = .inr (0, [.ref q669445, .int 0, .int 0, .int 0]) := (n669482 q669444 (fun h => hq669469 (h ▸ hmq668678))).trans he669455
            have he669487 : F669480 q669350 = .inr (1, [.ref q669375, .int 0, .int 0, .int o669425]) := (n669482 q669350 (fun h => hq669367 (h ▸ hmq668678))).trans he669456
            have he669488 : F669480 q669375 = .inl (I .byte, 16, .inl f669426) := (n669482 q669375 (fun h => hq669389 (h ▸ hmq668678))).trans he669457
            have he669489 : F669480 q669445 = .inl (I .byte, n669446, .inl f669447) := (n669482 q669445 (fun h => hq669470 (h ▸ hmq668678))).trans he669458
            have he669490 : F669480 q668678 = .inr (19, [.ref q668679, .int p668681, .int p668682, .int 6, .int p668684, .int p668685, .int p668686, .ref q669444, .int p668688, .int p668689, .int p668690, .ref qo668691, .ref qo668692, .int p668693]) := e669481
            have hfr669491 : rFr [q668678] P668676 F668677 F669480 := rFr_put' List.mem_cons_self hfr669476 n669482
            clear hm669303 hm669304 hm669305 hm669306 hsb669311 he669345 he669346 he669347 he669348 hfr669349 he669357 he669358 he669359 he669360 he669361 hm669362 hm669363 hm669364 hm669365 hm669366 hq669367 hfr669368 hsb669369 hsb669378 hfr669379 he669380 he669381 hm669382 hq669383 hm669384 hm669385 hm669386 hm669387 hm669388 hq669389 hsb669390 he669391 he669392 he669393 he669394 hfr669395 hne669396 hfr669411 he669412 he669413 bf669404 he669414 he669415 he669416 he669417 hfr669418 ez669419 bz669419 hfr669431 he669432 he669433 bf669426 he669434 he669435 he669436 he669437 hfr669438 hsb669453 hfr669454 he669455 he669456 he669457 he669458 hq669460 hq669462 hm669467 hm669468 he669472 he669473 he669474 he669475 hfr669476 hne669479 he669487 he669488; try clear r669373; try clear w669374; try clear dc669370; try clear ds669371; try clear hp669372; try clear r669401; try clear w669402; try clear dc669398; try clear ds669399; try clear hp669400; try clear x669406; try clear x669407; try clear r669423; try clear w669424; try clear dc669420; try clear ds669421; try clear hp669422; try clear r669442; try clear w669443; try clear dc669439; try clear ds669440; try clear hp669441; try clear x669449
            refine G_aload_n 2 dr_cX14_symbol_195 rfl ?_
            refine G_dup dr_cX14_symbol_196 rfl ?_
            refine Gp_get 2 hm669463 he669490 dr_cX14_symbol_197 (gk_X14 D I) (Nat.le_of_ble_eq_true rfl) wr_9_38 rfl ?_
            refine G_iload_n 0 dr_cX14_symbol_200 rfl ?_
            refine G_if_eq 208 dr_cX14_symbol_201 (by decide +kernel) (fun _ => ?_) (fun hc => absurd hc (by decide))
            refine G_iconst 1 dr_cX14_symbol_208 (by decide +kernel) ?_
            refine G_iadd dr_cX14_symbol_209 (G_eqi (y := z669018) hz669018.symm ?_)
            refine Gp_put 2 hm669463 he669490 dr_cX14_symbol_210 (gk_X14 D I) (Nat.le_of_ble_eq_true rfl) wr_9_38 rfl rfl rfl (Nat.le_of_ble_eq_true rfl) (fun F669492 e669493 n669494 => ?_)
            have he669495 : F669492 q668679 = .inl (I .byte, 8192, .inl f668694) := (n669494 q668679 (rn_ao he669483 he669490)).trans he669483
            have he669496 : F669492 q669128 = .inr (0, [.ref q669129, .int 0, .int 0, .int 0]) := (n669494 q669128 (fun h => hq669151 (h ▸ hmq668678))).trans he669484
            have he669497 : F669492 q669129 = .inl (I .byte, n669130, .inl f669131) := (n669494 q669129 (fun h => hq669152 (h ▸ hmq668678))).trans he669485
            have he669498 : F669492 q669444 = .inr (0, [.ref q669445, .int 0, .int 0, .int 0]) := (n669494 q669444 (fun h => hq669469 (h ▸ hmq668678))).trans he669486
            have he669499 : F669492 q669445 = .inl (I .byte, n669446, .inl f669447) := (n669494 q669445 (fun h => hq669470 (h ▸ hmq668678))).trans he669489
            have he669500 : F669492 q668678 = .inr (19, [.ref q668679, .int p668681, .int z669018, .int 6, .int p668684, .int p668685, .int p668686, .ref q669444, .int p668688, .int p668689, .int p668690, .ref qo668691, .ref qo668692, .int p668693]) := e669493
            have hfr669501 : rFr [q668678] P668676 F668677 F669492 := rFr_put' List.mem_cons_self hfr669491 n669494
            exact G_vretA dr_cX14_symbol_213 rfl (show 12 ≤ ((16 * (p668681.toInt - p668682.toInt)).toNat) by omega) (show 20 + (o669111.toInt.toNat + 4) + 0 + 4 + 16 + 0 + 0 + 0 + (o669263.toInt.toNat + 4) + 0 + 0 + 4 + 16 + 0 + 0 + (o669425.toInt.toNat + 4) ≤ ((160 * (p668681.toInt - p668682.toInt)).toNat) by omega) ⟨P669451, F669492, z669018, 6, q669444, (0, fun _ => 0), rfl, rfl, hsb669471, hfr669501, he669500, he669495, (by omega), (by omega), (gB_w bz669018' (by decide) (by decide)), (gB_w (gBl (show Int32.toInt 6 = 6 by decide)) (by decide) (by decide)), (by have qa0 : Int32.toInt 0 = 0 := (by decide); have qa1 : Int32.toInt 6 = 6 := (by decide); omega), (by have qa0 : Int32.toInt 0 = 0 := (by decide); have qa1 : Int32.toInt 6 = 6 := (by decide); omega), (tP_no (by decide) (by decide)), (vP_no (by decide) (by decide)), (fun R c1 c2 c3 c4 c5 c6 => c4 z669018 z669022 o669073 f669074 z669087 o669093 f669094 z669105 o669111 f669112 n669130 f669131 o669163 o669220 f669221 o669241 f669242 o669263 f669264 n669286 f669287 o669325 z669332 o669338 o669403 f669404 z669419 o669425 f669426 n669446 f669447 ez669018 r669021 hz669022 bz669022 r669025 r669028 bo669073 ht669078 hz669087 bo669093 ht669096 hz669105 bo669111 ht669114 ht669134 bo669163 ht669165 bo669220 ht669225 bo669241 ht669246 bo669263 ht669268 ht669290 bo669325 ht669328 r669330 hz669332 bo669338 ht669339 r669341 bo669403 ht669408 hz669419 bo669425 ht669428 ht669450)⟩
          · have r669502 : 0 ≤ o669338.toInt := gj_nlt hc669340 (show Int32.toInt 0 = 0 by decide)
            have bo669338' : gB o669338 0 65534 := ⟨by omega, by omega⟩
            refine G_iconst 5 dr_cX14_symbol_143 (by decide +kernel) ?_
            refine G_goto 149 dr_cX14_symbol_144 (by decide +kernel) ?_
            refine Gp_put 3 hm669303 he669312 dr_cX14_symbol_149 (gk_X14 D I) (Nat.le_of_ble_eq_true rfl) wr_9_39 rfl rfl rfl (Nat.le_of_ble_eq_true rfl) (fun F669503 e669504 n669505 => ?_)
            have he669506 : F669503 q668679 = .inl (I .byte, 8192, .inl f668694) := (n669505 q668679 (rn_ao he669313 he669312)).trans he669313
            have he669507 : F669503 q669128 = .inr (0, [.ref q669129, .int 0, .int 0, .int 0]) := (n669505 q669128 (fun h => hq669151 (h ▸ hmq668678))).trans he669314
            have he669508 : F669503 q669129 = .inl (I .byte, n669130, .inl f669131) := (n669505 q669129 (fun h => hq669152 (h ▸ hmq668678))).trans he669315
            have he669509 : F669503 q668678 = .inr (19, [.ref q668679, .int p668681, .int p668682, .int 5, .int p668684, .int p668685, .int p668686, .ref qo668687, .int p668688, .int p668689, .int p668690, .ref qo668691, .ref qo668692, .int p668693]) := e669504
            have hfr669510 : rFr [q668678] P668676 F668677 F669503 := rFr_put hfr669316 n669505
            clear he669312 he669313 he669314 he669315 hfr669316 ez669332 bz669332 bo669338'; try clear r669336; try clear w669337; try clear dc669333; try clear ds669334; try clear hp669335
            refine G_aload_n 2 dr_cX14_symbol_152 rfl ?_
            refine G_iload_n 0 dr_cX14_symbol_153 rfl ?_
            refine G_if_eq 161 dr_cX14_symbol_154 (by decide +kernel) (fun _ => ?_) (fun hc => absurd hc (by decide))
            refine G_iload_n 3 dr_cX14_symbol_161 rfl ?_
            refine G_bipush 32 dr_cX14_symbol_162 (by decide +kernel) ?_
            refine G_icmp_le 190 dr_cX14_symbol_164 (by decide +kernel) (fun hc => absurd (show False by have := gj_le hc (show Int32.toInt 32 = 32 by decide); omega) not_false) (fun _ => ?_)
            refine G_new [.null, .int 0, .int 0, .int 0] dr_cX14_symbol_167 (gk_J4 D I) wr_7_235 wr_7_44 wr_1_20 (gfs_J4) (Nat.le_trans (show 8 + 1 ≤ 16 by decide) hMC) (show 20 + (o669111.toInt.toNat + 4) + 0 + 4 + 16 + 0 + 0 + 0 + (o669263.toInt.toNat + 4) + 0 + 0 + 4 ≤ ((160 * (p668681.toInt - p668682.toInt)).toNat) by first | omega | decide) (fun q669511 => Gp_in (fun P669512 F669513 hq669514 hP669515 e669516 n669517 => ?_))
            refine G_widen (cs' := 9) (sl' := 20 + (o669111.toInt.toNat + 4) + 0 + 4 + 16 + 0 + 0 + 0 + (o669263.toInt.toNat + 4) + 0 + 0 + 4) (by omega) (by omega) ?_
            have he669518 : F669513 q668678 = .inr (19, [.ref q668679, .int p668681, .int p668682, .int 5, .int p668684, .int p668685, .int p668686, .ref qo668687, .int p668688, .int p668689, .int p668690, .ref qo668691, .ref qo668692, .int p668693]) := (n669517 q668678 (fun h => hq669514 (h ▸ hm669303))).trans he669509
            have he669519 : F669513 q668679 = .inl (I .byte, 8192, .inl f668694) := (n669517 q668679 (fun h => hq669514 (h ▸ hm669304))).trans he669506
            have he669520 : F669513 q669128 = .inr (0, [.ref q669129, .int 0, .int 0, .int 0]) := (n669517 q669128 (fun h => hq669514 (h ▸ hm669305))).trans he669507
            have he669521 : F669513 q669129 = .inl (I .byte, n669130, .inl f669131) := (n669517 q669129 (fun h => hq669514 (h ▸ hm669306))).trans he669508
            have he669522 : F669513 q669511 = .inr (1, [.null, .int 0, .int 0, .int 0]) := e669516
            have hm669523 : q668678 ∈ P669512 := (hP669515 q668678).mpr (Or.inl hm669303)
            have hm669524 : q668679 ∈ P669512 := (hP669515 q668679).mpr (Or.inl hm669304)
            have hm669525 : q669128 ∈ P669512 := (hP669515 q669128).mpr (Or.inl hm669305)
            have hm669526 : q669129 ∈ P669512 := (hP669515 q669129).mpr (Or.inl hm669306)
            have hm669527 : q669511 ∈ P669512 := (hP669515 q669511).mpr (Or.inr rfl)
            have hq669528 : q669511 ∉ P668676 := fun z => hq669514 (hsb669311 q669511 z)
            have hfr669529 : rFr [q668678] P668676 F668677 F669513 := rFr_new hsb669311 hq669514 hfr669510 n669517
            have hsb669530 : rSub P668676 P669512 := rSub_new hsb669311 hP669515
            refine G_dup dr_cX14_symbol_170 rfl ?_
            refine Gw_callI (As := []) (gV_ok D I) (cp_658952_StringBuilder_init l hl0 D I P669512 F669513 q669511 0 0 hm669527 he669522 (gB_w (gBl (show Int32.toInt 0 = 0 by decide)) (by decide) (by decide)) (gB_w (gBl (show Int32.toInt 0 = 0 by decide)) (by decide) (by decide))) dr_cX14_symbol_171 ⟨wr_7_236, wr_1_20, wr_7_47, by decide, rfl, (Nat.le_of_ble_eq_true rfl), (Nat.le_of_ble_eq_true rfl)⟩ wr_7_46 rfl (Nat.le_trans (show 9 + 1 ≤ 16 by decide) hMC) (show 20 + (o669111.toInt.toNat + 4) + 0 + 4 + 16 + 0 + 0 + 0 + (o669263.toInt.toNat + 4) + 0 + 0 + 4 + 16 ≤ ((160 * (p668681.toInt - p668682.toInt)).toNat) by first | omega | decide) (Nat.le_of_ble_eq_true rfl) (fun r669534 w669535 dc669531 ds669532 hp669533 => ?_)
            obtain ⟨P669537, F669538, q669536, rfl, rfl, hsb669539, hfr669540, he669541, he669542, hm669543, hq669544, hdc, hds⟩ := hp669533
            have hm669545 : q668678 ∈ P669537 := hsb669539 q668678 hm669523
            have hm669546 : q668679 ∈ P669537 := hsb669539 q668679 hm669524
            have hm669547 : q669128 ∈ P669537 := hsb669539 q669128 hm669525
            have hm669548 : q669129 ∈ P669537 := hsb669539 q669129 hm669526
            have hm669549 : q669511 ∈ P669537 := hsb669539 q669511 hm669527
            have hq669550 : q669536 ∉ P668676 := fun z => hq669544 (hsb669530 q669536 z)
            have hsb669551 : rSub P668676 P669537 := rSub_tr hsb669530 hsb669539
            have he669552 : F669538 q668678 = .inr (19, [.ref q668679, .int p668681, .int p668682, .int 5, .int p668684, .int p668685, .int p668686, .ref qo668687, .int p668688, .int p668689, .int p668690, .ref qo668691, .ref qo668692, .int p668693]) := (hfr669540 q668678 hm669523 (nm_c (fun h => hq669528 (h ▸ hmq668678)) nm_n)).trans he669518
            have he669553 : F669538 q668679 = .inl (I .byte, 8192, .inl f668694) := (hfr669540 q668679 hm669524 (nm_c (fun h => hq669528 (h ▸ hmq668679)) nm_n)).trans he669519
            have he669554 : F669538 q669128 = .inr (0, [.ref q669129, .int 0, .int 0, .int 0]) := (hfr669540 q669128 hm669525 (nm_c (rn_oo he669520 he669522 (by decide)) nm_n)).trans he669520
            have he669555 : F669538 q669129 = .inl (I .byte, n669130, .inl f669131) := (hfr669540 q669129 hm669526 (nm_c (rn_ao he669521 he669522) nm_n)).trans he669521
            have hfr669556 : rFr [q668678] P668676 F668677 F669538 := rFr_call hsb669530 hfr669529 hfr669540 (fun b hb hn => ⟨(nm_c (fun e => hn (e ▸ List.mem_cons_self)) nm_n), (nm_c (fun e => hq669528 (e ▸ hb)) nm_n)⟩)
            have hne669557 : q669129 ≠ q669536 := fun h => hq669544 (h ▸ hm669526)
            change G _ _ _ _ _ _ _ _ _ _ _
            refine G_widen (cs' := 10) (sl' := 20 + (o669111.toInt.toNat + 4) + 0 + 4 + 16 + 0 + 0 + 0 + (o669263.toInt.toNat + 4) + 0 + 0 + 4 + 16) (Nat.add_le_add_left hdc 9) (by omega) ?_
            refine G_ldcK (a := D.2 1000 32) dr_cX14_symbol_174 (fun _ _ _ h => gx_vk 32 rfl rfl h) ?_
            have hl32_669557 : (sb_32.length : Int) = 0 := rfl
            refine Gw_callV (As := [.ref (D.2 1000 32)]) (gV_ok D I) (cp_659254_StringBuilder_append l hl0 D I P669537 F669538 q669511 q669536 (D.2 1000 32) (D.2 1001 32) sb_32 0 0 (fun _ => 0) 16 hm669549 hm669543 he669541 he669542 (gx_sc 32 rfl rfl) (by omega) (by decide +kernel) (gB_w (gBl (show Int32.toInt 0 = 0 by decide)) (by decide) (by decide)) (gB_w (gBl (show Int32.toInt 0 = 0 by decide)) (by decide) (by decide)) (gF_w gF_0 (by decide) (by decide)) (by have qa0 : Int32.toInt 0 = 0 := (by decide); have qa1 : Int32.toInt 5 = 5 := (by decide); omega) (by have qa0 : Int32.toInt 0 = 0 := (by decide); have qa1 : Int32.toInt 5 = 5 := (by decide); omega)) dr_cX14_symbol_176 ⟨wr_8_195, wr_1_20, wr_8_143, by decide, rfl, (Nat.le_of_ble_eq_true rfl), (Nat.le_of_ble_eq_true rfl)⟩ wr_8_141 wr_8_142 hm669549 he669541 rfl (Nat.le_trans (show 10 + 0 ≤ 16 by decide) hMC) (show 20 + (o669111.toInt.toNat + 4) + 0 + 4 + 16 + 0 + 0 + 0 + (o669263.toInt.toNat + 4) + 0 + 0 + 4 + 16 + 0 ≤ ((160 * (p668681.toInt - p668682.toInt)).toNat) by first | omega | decide) (Nat.le_of_ble_eq_true rfl) (fun r669562 w669563 dc669559 ds669560 hp669561 => ?_) (fun _ _ _ _ _ z => z.elim)
            obtain ⟨F669570, o669564, f669565, rfl, rfl, hfr669572, he669573, he669574, hdc, hds, bo669564, bf669565, x669566, x669567, x669568, ht669569⟩ := hp669561
            have he669575 : F669570 q668678 = .inr (19, [.ref q668679, .int p668681, .int p668682, .int 5, .int p668684, .int p668685, .int p668686, .ref qo668687, .int p668688, .int p668689, .int p668690, .ref qo668691, .ref qo668692, .int p668693]) := (hfr669572 q668678 hm669545 (nm_c (fun h => hq669528 (h ▸ hmq668678)) (nm_c (fun h => hq669550 (h ▸ hmq668678)) nm_n))).trans he669552
            have he669576 : F669570 q668679 = .inl (I .byte, 8192, .inl f668694) := (hfr669572 q668679 hm669546 (nm_c (fun h => hq669528 (h ▸ hmq668679)) (nm_c (fun h => hq669550 (h ▸ hmq668679)) nm_n))).trans he669553
            have he669577 : F669570 q669128 = .inr (0, [.ref q669129, .int 0, .int 0, .int 0]) := (hfr669572 q669128 hm669547 (nm_c (rn_oo he669554 he669541 (by decide)) (nm_c (rn_oa he669554 he669542) nm_n))).trans he669554
            have he669578 : F669570 q669129 = .inl (I .byte, n669130, .inl f669131) := (hfr669572 q669129 hm669548 (nm_c (rn_ao he669555 he669541) (nm_c hne669557 nm_n))).trans he669555
            have hfr669579 : rFr [q668678] P668676 F668677 F669570 := rFr_call hsb669551 hfr669556 hfr669572 (fun b hb hn => ⟨(nm_c (fun e => hn (e ▸ List.mem_cons_self)) nm_n), (nm_c (fun e => hq669528 (e ▸ hb)) (nm_c (fun e => hq669550 (e ▸ hb)) nm_n))⟩)
            rw [show Int32.toInt 0 = 0 from by decide] at x669566
            have bo669564' : gB o669564 0 0 := ⟨by omega, by omega⟩
            rw [show Int32.toInt 0 = 0 from by decide] at x669567
            rw [show Int32.toInt 0 = 0 from by decide] at x669568
            change G _ _ _ _ _ _ _ (.ref q669511 :: _) _ _ _
            refine G_widen (cs' := 10) (sl' := 20 + (o669111.toInt.toNat + 4) + 0 + 4 + 16 + 0 + 0 + 0 + (o669263.toInt.toNat + 4) + 0 + 0 + 4 + 16 + 0) (Nat.add_le_add_left hdc 10) (by omega) ?_
            refine G_iload_n 3 dr_cX14_symbol_179 rfl ?_
            refine G_i2c dr_cX14_symbol_180 (G_nam fun z669580 hz669580 => ?_)
            have ez669580 : z669580.toInt = p668680.toInt := gI_i2c hz669580 (by omega) (by omega)
            have bz669580 : gB z669580 33 127 := ⟨by omega, by omega⟩
            refine Gw_callV (As := [.int z669580]) (gV_ok D I) (cp_658513_StringBuilder_append l hl0 D I P669537 F669570 q669511 q669536 z669580 0 o669564 f669565 16 hm669549 hm669543 he669573 he669574 (gB_w bz669580 (by decide) (by decide)) (gB_w (gBl (show Int32.toInt 0 = 0 by decide)) (by decide) (by decide)) (gB_w bo669564' (by decide) (by decide)) bf669565 (by have qa0 : Int32.toInt 0 = 0 := (by decide); have qa1 : Int32.toInt 5 = 5 := (by decide); omega) (by have qa0 : Int32.toInt 0 = 0 := (by decide); have qa1 : Int32.toInt 5 = 5 := (by decide); omega)) dr_cX14_symbol_181 ⟨wr_7_237, wr_1_20, wr_8_0, by decide, rfl, (Nat.le_of_ble_eq_true rfl), (Nat.le_of_ble_eq_true rfl)⟩ wr_7_238 wr_7_239 hm669549 he669573 rfl (Nat.le_trans (show 10 + 0 ≤ 16 by decide) hMC) (show 20 + (o669111.toInt.toNat + 4) + 0 + 4 + 16 + 0 + 0 + 0 + (o669263.toInt.toNat + 4) + 0 + 0 + 4 + 16 + 0 + 0 ≤ ((160 * (p668681.toInt - p668682.toInt)).toNat) by first | omega | decide) (Nat.le_of_ble_eq_true rfl) (fun r669584 w669585 dc669581 ds669582 hp669583 => ?_) (fun _ _ _ _ _ z => z.elim)
            obtain ⟨F669590, o669586, f669587, rfl, rfl, hfr669592, he669593, he669594, hdc, hds, bo669586, bf669587, x669588, ht669589⟩ := hp669583
            have he669595 : F669590 q668678 = .inr (19, [.ref q668679, .int p668681, .int p668682, .int 5, .int p668684, .int p668685, .int p668686, .ref qo668687, .int p668688, .int p668689, .int p668690, .ref qo668691, .ref qo668692, .int p668693]) := (hfr669592 q668678 hm669545 (nm_c (fun h => hq669550 (h ▸ hmq668678)) (nm_c (fun h => hq669528 (h ▸ hmq668678)) nm_n))).trans he669575
            have he669596 : F669590 q668679 = .inl (I .byte, 8192, .inl f668694) := (hfr669592 q668679 hm669546 (nm_c (fun h => hq669550 (h ▸ hmq668679)) (nm_c (fun h => hq669528 (h ▸ hmq668679)) nm_n))).trans he669576
            have he669597 : F669590 q669128 = .inr (0, [.ref q669129, .int 0, .int 0, .int 0]) := (hfr669592 q669128 hm669547 (nm_c (rn_oa he669577 he669574) (nm_c (rn_oo he669577 he669573 (by decide)) nm_n))).trans he669577
            have he669598 : F669590 q669129 = .inl (I .byte, n669130, .inl f669131) := (hfr669592 q669129 hm669548 (nm_c hne669557 (nm_c (rn_ao he669578 he669573) nm_n))).trans he669578
            have hfr669599 : rFr [q668678] P668676 F668677 F669590 := rFr_call hsb669551 hfr669579 hfr669592 (fun b hb hn => ⟨(nm_c (fun e => hn (e ▸ List.mem_cons_self)) nm_n), (nm_c (fun e => hq669550 (e ▸ hb)) (nm_c (fun e => hq669528 (e ▸ hb)) nm_n))⟩)
            have bo669586' : gB o669586 1 1 := ⟨by omega, by omega⟩
            change G _ _ _ _ _ _ _ (.ref q669511 :: _) _ _ _
            refine G_widen (cs' := 10) (sl' := 20 + (o669111.toInt.toNat + 4) + 0 + 4 + 16 + 0 + 0 + 0 + (o669263.toInt.toNat + 4) + 0 + 0 + 4 + 16 + 0 + 0) (Nat.add_le_add_left hdc 10) (by omega) ?_
            refine Gw_callV (As := []) (gV_ok D I) (cp_659727_StringBuilder_toString l hl0 D I P669537 F669590 q669511 q669536 0 o669586 f669587 16 hm669549 hm669543 he669593 he669594 (gB_w (gBl (show Int32.toInt 0 = 0 by decide)) (by decide) (by decide)) (gB_w bo669586' (by decide) (by decide)) bf669587 (by have qa0 : Int32.toInt 0 = 0 := (by decide); have qa1 : Int32.toInt 5 = 5 := (by decide); omega) (by have qa0 : Int32.toInt 0 = 0 := (by decide); have qa1 : Int32.toInt 5 = 5 := (by decide); omega)) dr_cX14_symbol_184 ⟨wr_8_66, wr_1_20, wr_8_69, by decide, rfl, (Nat.le_of_ble_eq_true rfl), (Nat.le_of_ble_eq_true rfl)⟩ wr_8_67 wr_8_68 hm669549 he669593 rfl (Nat.le_trans (show 10 + 2 ≤ 16 by decide) hMC) (show 20 + (o669111.toInt.toNat + 4) + 0 + 4 + 16 + 0 + 0 + 0 + (o669263.toInt.toNat + 4) + 0 + 0 + 4 + 16 + 0 + 0 + (o669586.toInt.toNat + 4) ≤ ((160 * (p668681.toInt - p668682.toInt)).toNat) by first | omega | decide) (Nat.le_of_ble_eq_true rfl) (fun r669603 w669604 dc669600 ds669601 hp669602 => ?_) (fun _ _ _ _ _ z => z.elim)
            obtain ⟨P669612, F669613, q669605, q669606, n669607, f669608, rfl, rfl, hsb669614, hfr669615, he669616, he669617, he669618, he669619, hm669620, hq669621, hm669622, hq669623, hdc, hds, bf669608, x669609, x669610, ht669611⟩ := hp669602
            have hm669624 : q668678 ∈ P669612 := hsb669614 q668678 hm669545
            have hm669625 : q668679 ∈ P669612 := hsb669614 q668679 hm669546
            have hm669626 : q669128 ∈ P669612 := hsb669614 q669128 hm669547
            have hm669627 : q669129 ∈ P669612 := hsb669614 q669129 hm669548
            have hm669628 : q669511 ∈ P669612 := hsb669614 q669511 hm669549
            have hm669629 : q669536 ∈ P669612 := hsb669614 q669536 hm669543
            have hq669630 : q669605 ∉ P668676 := fun z => hq669621 (hsb669551 q669605 z)
            have hq669631 : q669606 ∉ P668676 := fun z => hq669623 (hsb669551 q669606 z)
            have hsb669632 : rSub P668676 P669612 := rSub_tr hsb669551 hsb669614
            have he669633 : F669613 q668678 = .inr (19, [.ref q668679, .int p668681, .int p668682, .int 5, .int p668684, .int p668685, .int p668686, .ref qo668687, .int p668688, .int p668689, .int p668690, .ref qo668691, .ref qo668692, .int p668693]) := (hfr669615 q668678 hm669545 nm_n).trans he669595
            have he669634 : F669613 q668679 = .inl (I .byte, 8192, .inl f668694) := (hfr669615 q668679 hm669546 nm_n).trans he669596
            have he669635 : F669613 q669128 = .inr (0, [.ref q669129, .int 0, .int 0, .int 0]) := (hfr669615 q669128 hm669547 nm_n).trans he669597
            have he669636 : F669613 q669129 = .inl (I .byte, n669130, .inl f669131) := (hfr669615 q669129 hm669548 nm_n).trans he669598
            have hfr669637 : rFr [q668678] P668676 F668677 F669613 := rFr_call hsb669551 hfr669599 hfr669615 (fun b hb hn => ⟨(nm_c (fun e => hn (e ▸ List.mem_cons_self)) nm_n), nm_n⟩)
            have hne669638 : q669128 ≠ q669605 := fun h => hq669621 (h ▸ hm669547)
            have hne669639 : q669129 ≠ q669606 := fun h => hq669623 (h ▸ hm669548)
            have hne669640 : q669536 ≠ q669606 := fun h => hq669623 (h ▸ hm669543)
            change G _ _ _ _ _ _ _ (.ref q669605 :: _) _ _ _
            refine G_widen (cs' := 12) (sl' := 20 + (o669111.toInt.toNat + 4) + 0 + 4 + 16 + 0 + 0 + 0 + (o669263.toInt.toNat + 4) + 0 + 0 + 4 + 16 + 0 + 0 + (o669586.toInt.toNat + 4)) (Nat.add_le_add_left hdc 10) (by omega) ?_
            refine G_goto 192 dr_cX14_symbol_187 (by decide +kernel) ?_
            refine Gp_put 7 hm669624 he669633 dr_cX14_symbol_192 (gk_X14 D I) (Nat.le_of_ble_eq_true rfl) wr_9_43 rfl rfl rfl (Nat.le_of_ble_eq_true rfl) (fun F669641 e669642 n669643 => ?_)
            have he669644 : F669641 q668679 = .inl (I .byte, 8192, .inl f668694) := (n669643 q668679 (rn_ao he669634 he669633)).trans he669634
            have he669645 : F669641 q669128 = .inr (0, [.ref q669129, .int 0, .int 0, .int 0]) := (n669643 q669128 (fun h => hq669151 (h ▸ hmq668678))).trans he669635
            have he669646 : F669641 q669129 = .inl (I .byte, n669130, .inl f669131) := (n669643 q669129 (fun h => hq669152 (h ▸ hmq668678))).trans he669636
            have he669647 : F669641 q669605 = .inr (0, [.ref q669606, .int 0, .int 0, .int 0]) := (n669643 q669605 (fun h => hq669630 (h ▸ hmq668678))).trans he669616
            have he669648 : F669641 q669511 = .inr (1, [.ref q669536, .int 0, .int 0, .int o669586]) := (n669643 q669511 (fun h => hq669528 (h ▸ hmq668678))).trans he669617
            have he669649 : F669641 q669536 = .inl (I .byte, 16, .inl f669587) := (n669643 q669536 (fun h => hq669550 (h ▸ hmq668678))).trans he669618
            have he669650 : F669641 q669606 = .inl (I .byte, n669607, .inl f669608) := (n669643 q669606 (fun h => hq669631 (h ▸ hmq668678))).trans he669619
            have he669651 : F669641 q668678 = .inr (19, [.ref q668679, .int p668681, .int p668682, .int 5, .int p668684, .int p668685, .int p668686, .ref q669605, .int p668688, .int p668689, .int p668690, .ref qo668691, .ref qo668692, .int p668693]) := e669642
            have hfr669652 : rFr [q668678] P668676 F668677 F669641 := rFr_put' List.mem_cons_self hfr669637 n669643
            clear hm669303 hm669304 hm669305 hm669306 hsb669311 he669506 he669507 he669508 he669509 hfr669510 he669518 he669519 he669520 he669521 he669522 hm669523 hm669524 hm669525 hm669526 hm669527 hq669528 hfr669529 hsb669530 hsb669539 hfr669540 he669541 he669542 hm669543 hq669544 hm669545 hm669546 hm669547 hm669548 hm669549 hq669550 hsb669551 he669552 he669553 he669554 he669555 hfr669556 hne669557 hfr669572 he669573 he669574 bf669565 he669575 he669576 he669577 he669578 hfr669579 ez669580 bz669580 hfr669592 he669593 he669594 bf669587 he669595 he669596 he669597 he669598 hfr669599 hsb669614 hfr669615 he669616 he669617 he669618 he669619 hq669621 hq669623 hm669628 hm669629 he669633 he669634 he669635 he669636 hfr669637 hne669640 he669648 he669649; try clear r669534; try clear w669535; try clear dc669531; try clear ds669532; try clear hp669533; try clear r669562; try clear w669563; try clear dc669559; try clear ds669560; try clear hp669561; try clear x669567; try clear x669568; try clear r669584; try clear w669585; try clear dc669581; try clear ds669582; try clear hp669583; try clear r669603; try clear w669604; try clear dc669600; try clear ds669601; try clear hp669602; try clear x669610
            refine G_aload_n 2 dr_cX14_symbol_195 rfl ?_
            refine G_dup dr_cX14_symbol_196 rfl ?_
            refine Gp_get 2 hm669624 he669651 dr_cX14_symbol_197 (gk_X14 D I) (Nat.le_of_ble_eq_true rfl) wr_9_38 rfl ?_
            refine G_iload_n 0 dr_cX14_symbol_200 rfl ?_
            refine G_if_eq 208 dr_cX14_symbol_201 (by decide +kernel) (fun _ => ?_) (fun hc => absurd hc (by decide))
            refine G_iconst 1 dr_cX14_symbol_208 (by decide +kernel) ?_
            refine G_iadd dr_cX14_symbol_209 (G_eqi (y := z669018) hz669018.symm ?_)
            refine Gp_put 2 hm669624 he669651 dr_cX14_symbol_210 (gk_X14 D I) (Nat.le_of_ble_eq_true rfl) wr_9_38 rfl rfl rfl (Nat.le_of_ble_eq_true rfl) (fun F669653 e669654 n669655 => ?_)
            have he669656 : F669653 q668679 = .inl (I .byte, 8192, .inl f668694) := (n669655 q668679 (rn_ao he669644 he669651)).trans he669644
            have he669657 : F669653 q669128 = .inr (0, [.ref q669129, .int 0, .int 0, .int 0]) := (n669655 q669128 (fun h => hq669151 (h ▸ hmq668678))).trans he669645
            have he669658 : F669653 q669129 = .inl (I .byte, n669130, .inl f669131) := (n669655 q669129 (fun h => hq669152 (h ▸ hmq668678))).trans he669646
            have he669659 : F669653 q669605 = .inr (0, [.ref q669606, .int 0, .int 0, .int 0]) := (n669655 q669605 (fun h => hq669630 (h ▸ hmq668678))).trans he669647
            have he669660 : F669653 q669606 = .inl (I .byte, n669607, .inl f669608) := (n669655 q669606 (fun h => hq669631 (h ▸ hmq668678))).trans he669650
            have he669661 : F669653 q668678 = .inr (19, [.ref q668679, .int p668681, .int z669018, .int 5, .int p668684, .int p668685, .int p668686, .ref q669605, .int p668688, .int p668689, .int p668690, .ref qo668691, .ref qo668692, .int p668693]) := e669654
            have hfr669662 : rFr [q668678] P668676 F668677 F669653 := rFr_put' List.mem_cons_self hfr669652 n669655
            exact G_vretA dr_cX14_symbol_213 rfl (show 12 ≤ ((16 * (p668681.toInt - p668682.toInt)).toNat) by omega) (show 20 + (o669111.toInt.toNat + 4) + 0 + 4 + 16 + 0 + 0 + 0 + (o669263.toInt.toNat + 4) + 0 + 0 + 4 + 16 + 0 + 0 + (o669586.toInt.toNat + 4) ≤ ((160 * (p668681.toInt - p668682.toInt)).toNat) by omega) ⟨P669612, F669653, z669018, 5, q669605, (n669607, f669608), rfl, rfl, hsb669632, hfr669662, he669661, he669656, (by omega), (by omega), (gB_w bz669018' (by decide) (by decide)), (gB_w (gBl (show Int32.toInt 5 = 5 by decide)) (by decide) (by decide)), (by have qa0 : Int32.toInt 0 = 0 := (by decide); have qa1 : Int32.toInt 5 = 5 := (by decide); omega), (by have qa0 : Int32.toInt 0 = 0 := (by decide); have qa1 : Int32.toInt 5 = 5 := (by decide); omega), (tP_5 hm669620 he669659 hm669622 he669660 bf669608 (by omega) (gB_w (gBl (show Int32.toInt 0 = 0 by decide)) (by decide) (by decide)) (fun e => hq669631 (e ▸ x668697)) (fun e => hq669631 (e ▸ x668698))), (vP_no (by decide) (by decide)), (fun R c1 c2 c3 c4 c5 c6 => c5 z669018 z669022 o669073 f669074 z669087 o669093 f669094 z669105 o669111 f669112 n669130 f669131 o669163 o669220 f669221 o669241 f669242 o669263 f669264 n669286 f669287 o669325 z669332 o669338 o669564 f669565 z669580 o669586 f669587 n669607 f669608 ez669018 r669021 hz669022 bz669022 r669025 r669028 bo669073 ht669078 hz669087 bo669093 ht669096 hz669105 bo669111 ht669114 ht669134 bo669163 ht669165 bo669220 ht669225 bo669241 ht669246 bo669263 ht669268 ht669290 bo669325 ht669328 r669330 hz669332 bo669338 ht669339 r669502 bo669564 ht669569 hz669580 bo669586 ht669589 ht669611)⟩
        · have r669663 : 0 ≤ o669325.toInt := gj_nlt hc669329 (show Int32.toInt 0 = 0 by decide)
          have bo669325' : gB o669325 0 16777215 := ⟨by omega, by omega⟩
          refine G_iconst 1 dr_cX14_symbol_116 (by decide +kernel) ?_
          refine G_goto 121 dr_cX14_symbol_117 (by decide +kernel) ?_
          refine G_istore_n (L' := [(3, .int 1), (2, .ref q669128), (0, .ref q668678), (1, .int p668680)]) dr_cX14_symbol_121 (Nat.le_of_ble_eq_true rfl) rfl ?_
          clear he669139 he669142 hm669143 hm669145 hm669147 hm669148 hsb669153 he669154 he669155 hfr669156 he669174 he669175 he669176 he669177 he669178 hm669179 hm669180 hm669181 hm669182 hm669183 hq669184 hfr669185 hsb669186 hsb669195 hfr669196 he669197 he669198 hm669199 hq669200 hm669201 hm669202 hm669203 hm669204 hm669205 hq669206 hsb669207 he669208 he669209 he669210 he669211 hfr669212 hne669213 hfr669228 he669229 he669230 bf669221 he669231 he669232 he669233 he669234 hfr669235 hfr669249 he669250 he669251 he669252 he669253 bf669242 he669254 he669255 hfr669256 hfr669271 he669272 he669273 bf669264 he669274 he669275 he669276 he669277 hfr669278 hsb669293 hfr669294 he669295 he669296 he669297 he669298 hm669299 hq669300 hm669301 hq669302 bf669287 hm669307 hm669308 hq669309 hq669310 hne669317 hne669318 hne669319; try clear r669190; try clear w669191; try clear dc669187; try clear ds669188; try clear hp669189; try clear r669218; try clear w669219; try clear dc669215; try clear ds669216; try clear hp669217; try clear x669223; try clear x669224; try clear r669239; try clear w669240; try clear dc669236; try clear ds669237; try clear hp669238; try clear x669244; try clear x669245; try clear r669261; try clear w669262; try clear dc669258; try clear ds669259; try clear hp669260; try clear x669266; try clear x669267; try clear r669282; try clear w669283; try clear dc669279; try clear ds669280; try clear hp669281; try clear x669289; try clear r669323; try clear w669324; try clear dc669320; try clear ds669321; try clear hp669322; try clear x669327
          refine G_aload_n 2 dr_cX14_symbol_122 rfl ?_
          refine G_iload_n 0 dr_cX14_symbol_123 rfl ?_
          refine G_if_ne 143 dr_cX14_symbol_124 (by decide +kernel) (fun _ => ?_) (fun hc => absurd hc (by decide))
          refine G_iconst 5 dr_cX14_symbol_143 (by decide +kernel) ?_
          refine G_goto 149 dr_cX14_symbol_144 (by decide +kernel) ?_
          refine Gp_put 3 hm669303 he669312 dr_cX14_symbol_149 (gk_X14 D I) (Nat.le_of_ble_eq_true rfl) wr_9_39 rfl rfl rfl (Nat.le_of_ble_eq_true rfl) (fun F669664 e669665 n669666 => ?_)
          have he669667 : F669664 q668679 = .inl (I .byte, 8192, .inl f668694) := (n669666 q668679 (rn_ao he669313 he669312)).trans he669313
          have he669668 : F669664 q669128 = .inr (0, [.ref q669129, .int 0, .int 0, .int 0]) := (n669666 q669128 (fun h => hq669151 (h ▸ hmq668678))).trans he669314
          have he669669 : F669664 q669129 = .inl (I .byte, n669130, .inl f669131) := (n669666 q669129 (fun h => hq669152 (h ▸ hmq668678))).trans he669315
          have he669670 : F669664 q668678 = .inr (19, [.ref q668679, .int p668681, .int p668682, .int 5, .int p668684, .int p668685, .int p668686, .ref qo668687, .int p668688, .int p668689, .int p668690, .ref qo668691, .ref qo668692, .int p668693]) := e669665
          have hfr669671 : rFr [q668678] P668676 F668677 F669664 := rFr_put hfr669316 n669666
          clear he669312 he669313 he669314 he669315 hfr669316
          refine G_aload_n 2 dr_cX14_symbol_152 rfl ?_
          refine G_iload_n 0 dr_cX14_symbol_153 rfl ?_
          refine G_if_eq 161 dr_cX14_symbol_154 (by decide +kernel) (fun hc => absurd hc (by decide)) (fun _ => ?_)
          refine G_aload_n 1 dr_cX14_symbol_157 rfl ?_
          refine G_goto 192 dr_cX14_symbol_158 (by decide +kernel) ?_
          refine Gp_put 7 hm669303 he669670 dr_cX14_symbol_192 (gk_X14 D I) (Nat.le_of_ble_eq_true rfl) wr_9_43 rfl rfl rfl (Nat.le_of_ble_eq_true rfl) (fun F669672 e669673 n669674 => ?_)
          have he669675 : F669672 q668679 = .inl (I .byte, 8192, .inl f668694) := (n669674 q668679 (rn_ao he669667 he669670)).trans he669667
          have he669676 : F669672 q669128 = .inr (0, [.ref q669129, .int 0, .int 0, .int 0]) := (n669674 q669128 (fun h => hq669151 (h ▸ hmq668678))).trans he669668
          have he669677 : F669672 q669129 = .inl (I .byte, n669130, .inl f669131) := (n669674 q669129 (fun h => hq669152 (h ▸ hmq668678))).trans he669669
          have he669678 : F669672 q668678 = .inr (19, [.ref q668679, .int p668681, .int p668682, .int 5, .int p668684, .int p668685, .int p668686, .ref q669128, .int p668688, .int p668689, .int p668690, .ref qo668691, .ref qo668692, .int p668693]) := e669673
          have hfr669679 : rFr [q668678] P668676 F668677 F669672 := rFr_put' List.mem_cons_self hfr669671 n669674
          clear he669667 he669668 he669669 he669670 hfr669671
          refine G_aload_n 2 dr_cX14_symbol_195 rfl ?_
          refine G_dup dr_cX14_symbol_196 rfl ?_
          refine Gp_get 2 hm669303 he669678 dr_cX14_symbol_197 (gk_X14 D I) (Nat.le_of_ble_eq_true rfl) wr_9_38 rfl ?_
          refine G_iload_n 0 dr_cX14_symbol_200 rfl ?_
          refine G_if_eq 208 dr_cX14_symbol_201 (by decide +kernel) (fun hc => absurd hc (by decide)) (fun _ => ?_)
          refine G_iconst 2 dr_cX14_symbol_204 (by decide +kernel) ?_
          refine G_goto 209 dr_cX14_symbol_205 (by decide +kernel) ?_
          refine G_iadd dr_cX14_symbol_209 (G_nam fun z669680 hz669680 => ?_)
          have ez669680 : z669680.toInt = p668682.toInt + 2 := by rw [gI_add hz669680 bp668682 (gBl (show Int32.toInt 2 = 2 by decide)) (by decide) (by decide), show Int32.toInt 2 = 2 from by decide]
          have bz669680 : gB z669680 2 8194 := gB_add (gI_add hz669680 bp668682 (gBl (show Int32.toInt 2 = 2 by decide)) (by decide) (by decide)) bp668682 (gBl (show Int32.toInt 2 = 2 by decide)) (by decide) (by decide)
          refine Gp_put 2 hm669303 he669678 dr_cX14_symbol_210 (gk_X14 D I) (Nat.le_of_ble_eq_true rfl) wr_9_38 rfl rfl rfl (Nat.le_of_ble_eq_true rfl) (fun F669681 e669682 n669683 => ?_)
          have he669684 : F669681 q668679 = .inl (I .byte, 8192, .inl f668694) := (n669683 q668679 (rn_ao he669675 he669678)).trans he669675
          have he669685 : F669681 q669128 = .inr (0, [.ref q669129, .int 0, .int 0, .int 0]) := (n669683 q669128 (fun h => hq669151 (h ▸ hmq668678))).trans he669676
          have he669686 : F669681 q669129 = .inl (I .byte, n669130, .inl f669131) := (n669683 q669129 (fun h => hq669152 (h ▸ hmq668678))).trans he669677
          have he669687 : F669681 q668678 = .inr (19, [.ref q668679, .int p668681, .int z669680, .int 5, .int p668684, .int p668685, .int p668686, .ref q669128, .int p668688, .int p668689, .int p668690, .ref qo668691, .ref qo668692, .int p668693]) := e669682
          have hfr669688 : rFr [q668678] P668676 F668677 F669681 := rFr_put' List.mem_cons_self hfr669679 n669683
          exact G_vretA dr_cX14_symbol_213 rfl (show 8 ≤ ((16 * (p668681.toInt - p668682.toInt)).toNat) by omega) (show 20 + (o669111.toInt.toNat + 4) + 0 + 4 + 16 + 0 + 0 + 0 + (o669263.toInt.toNat + 4) + 0 ≤ ((160 * (p668681.toInt - p668682.toInt)).toNat) by omega) ⟨P669291, F669681, z669680, 5, q669128, (n669130, f669131), rfl, rfl, hsb669311, hfr669688, he669687, he669684, (by omega), (by omega), ⟨by omega, by omega⟩, (gB_w (gBl (show Int32.toInt 5 = 5 by decide)) (by decide) (by decide)), (by have qa0 : Int32.toInt 0 = 0 := (by decide); have qa1 : Int32.toInt 1 = 1 := (by decide); have qa2 : Int32.toInt 5 = 5 := (by decide); omega), (by have qa0 : Int32.toInt 0 = 0 := (by decide); have qa1 : Int32.toInt 1 = 1 := (by decide); have qa2 : Int32.toInt 5 = 5 := (by decide); omega), (tP_5 hm669305 he669685 hm669306 he669686 bf669131 (by omega) (gB_w (gBl (show Int32.toInt 0 = 0 by decide)) (by decide) (by decide)) (fun e => hq669152 (e ▸ x668697)) (fun e => hq669152 (e ▸ x668698))), (vP_no (by decide) (by decide)), (fun R c1 c2 c3 c4 c5 c6 => c6 z669018 z669022 o669073 f669074 z669087 o669093 f669094 z669105 o669111 f669112 n669130 f669131 o669163 o669220 f669221 o669241 f669242 o669263 f669264 n669286 f669287 o669325 z669680 ez669018 r669021 hz669022 bz669022 r669025 r669028 bo669073 ht669078 hz669087 bo669093 ht669096 hz669105 bo669111 ht669114 ht669134 bo669163 ht669165 bo669220 ht669225 bo669241 ht669246 bo669263 ht669268 ht669290 bo669325 ht669328 r669663 ez669680)⟩
/- tr_RReader_isLetter2: result -/
def tr_RReader_isLetter2 (a0 : Int32) (o1 : Int32) : Prop := ∀ R : (Int32) → Prop,
  (a0.toInt < 97 → R (0 : Int32)) →
  (97 ≤ a0.toInt → 122 < a0.toInt → R (0 : Int32)) →
  (97 ≤ a0.toInt → a0.toInt ≤ 122 → R (1 : Int32)) →
  R o1
