theorem dr_cX14_number_0 : decode cX14_number 0 = .ok (.iload_n 1, 1) := by decide +kernel
theorem dr_cX14_number_1 : decode cX14_number 1 = .ok (.ifCond .eq 13, 3) := by decide +kernel
theorem dr_cX14_number_14 : decode cX14_number 14 = .ok (.lconst 0, 1) := by decide +kernel
theorem dr_cX14_number_15 : decode cX14_number 15 = .ok (.lstore_n 2, 1) := by decide +kernel
theorem dr_cX14_number_16 : decode cX14_number 16 = .ok (.aload_n 0, 1) := by decide +kernel
theorem dr_cX14_number_17 : decode cX14_number 17 = .ok (.getfield 44, 3) := by decide +kernel
theorem wr_9_38 : (Jvm.Cond.fieldLink "SpillForgeModel$Reader" (44 : Nat) "SpillForgeModel$Reader" "at" "I") ∈ gw := gw_9 38 rfl rfl
theorem dr_cX14_number_20 : decode cX14_number 20 = .ok (.aload_n 0, 1) := by decide +kernel
theorem dr_cX14_number_21 : decode cX14_number 21 = .ok (.getfield 32, 3) := by decide +kernel
theorem wr_9_37 : (Jvm.Cond.fieldLink "SpillForgeModel$Reader" (32 : Nat) "SpillForgeModel$Reader" "n" "I") ∈ gw := gw_9 37 rfl rfl
theorem dr_cX14_number_24 : decode cX14_number 24 = .ok (.if_icmp .ge 58, 3) := by decide +kernel
theorem dr_cX14_number_82 : decode cX14_number 82 = .ok (.iload_n 1, 1) := by decide +kernel
theorem dr_cX14_number_83 : decode cX14_number 83 = .ok (.ifCond .eq 6, 3) := by decide +kernel
theorem dr_cX14_number_89 : decode cX14_number 89 = .ok (.aload_n 0, 1) := by decide +kernel
theorem dr_cX14_number_90 : decode cX14_number 90 = .ok (.lload_n 2, 1) := by decide +kernel
theorem dr_cX14_number_91 : decode cX14_number 91 = .ok (.l2i, 1) := by decide +kernel
theorem dr_cX14_number_92 : decode cX14_number 92 = .ok (.putfield 80, 3) := by decide +kernel
theorem wr_9_41 : (Jvm.Cond.fieldLink "SpillForgeModel$Reader" (80 : Nat) "SpillForgeModel$Reader" "value" "I") ∈ gw := gw_9 41 rfl rfl
theorem dr_cX14_number_95 : decode cX14_number 95 = .ok (.aload_n 0, 1) := by decide +kernel
theorem dr_cX14_number_96 : decode cX14_number 96 = .ok (.lload_n 2, 1) := by decide +kernel
theorem dr_cX14_number_97 : decode cX14_number 97 = .ok (.lload_n 2, 1) := by decide +kernel
theorem dr_cX14_number_98 : decode cX14_number 98 = .ok (.l2i, 1) := by decide +kernel
theorem dr_cX14_number_99 : decode cX14_number 99 = .ok (.i2l, 1) := by decide +kernel
theorem dr_cX14_number_100 : decode cX14_number 100 = .ok (.lcmp, 1) := by decide +kernel
theorem dr_cX14_number_101 : decode cX14_number 101 = .ok (.ifCond .ne 7, 3) := by decide +kernel
theorem dr_cX14_number_108 : decode cX14_number 108 = .ok (.bipush 6, 2) := by decide +kernel
theorem dr_cX14_number_110 : decode cX14_number 110 = .ok (.putfield 38, 3) := by decide +kernel
theorem wr_9_39 : (Jvm.Cond.fieldLink "SpillForgeModel$Reader" (38 : Nat) "SpillForgeModel$Reader" "kind" "I") ∈ gw := gw_9 39 rfl rfl
theorem dr_cX14_number_113 : decode cX14_number 113 = .ok (.return_, 1) := by decide +kernel
theorem dr_cX14_number_104 : decode cX14_number 104 = .ok (.iconst 4, 1) := by decide +kernel
theorem dr_cX14_number_105 : decode cX14_number 105 = .ok (.goto 5, 3) := by decide +kernel
theorem dr_cX14_number_27 : decode cX14_number 27 = .ok (.aload_n 0, 1) := by decide +kernel
theorem dr_cX14_number_28 : decode cX14_number 28 = .ok (.getfield 28, 3) := by decide +kernel
theorem wr_9_36 : (Jvm.Cond.fieldLink "SpillForgeModel$Reader" (28 : Nat) "SpillForgeModel$Reader" "t" "[B") ∈ gw := gw_9 36 rfl rfl
theorem dr_cX14_number_31 : decode cX14_number 31 = .ok (.aload_n 0, 1) := by decide +kernel
theorem dr_cX14_number_32 : decode cX14_number 32 = .ok (.getfield 44, 3) := by decide +kernel
theorem dr_cX14_number_35 : decode cX14_number 35 = .ok (.baload, 1) := by decide +kernel
theorem dr_cX14_number_36 : decode cX14_number 36 = .ok (.invokestatic 50, 3) := by decide +kernel
theorem wr_7_219 : (Jvm.Cond.methodLink "SpillForgeModel$Reader" (50 : Nat) ({ cls := "SpillForgeModel$Reader", name := "isDigit", desc := "(I)Z" } : Jvm.MethodName)) ∈ gw := gw_7 219 rfl rfl
theorem wr_1_32 : (Jvm.Cond.initialized "SpillForgeModel$Reader") ∈ gw := gw_1 32 rfl rfl
theorem wr_7_221 : (Jvm.Cond.code ({ cls := "SpillForgeModel$Reader", name := "isDigit", desc := "(I)Z" } : Jvm.MethodName) prog_17_method_2_code (1 : Nat) (Option.some Jvm.ClassFile.FieldType.boolean)) ∈ gw := gw_7 221 rfl rfl
theorem wr_7_220 : (Jvm.Cond.static ({ cls := "SpillForgeModel$Reader", name := "isDigit", desc := "(I)Z" } : Jvm.MethodName)) ∈ gw := gw_7 220 rfl rfl
theorem dr_cX14_number_39 : decode cX14_number 39 = .ok (.ifCond .eq 43, 3) := by decide +kernel
theorem dr_cX14_number_42 : decode cX14_number 42 = .ok (.lload_n 2, 1) := by decide +kernel
theorem dr_cX14_number_43 : decode cX14_number 43 = .ok (.ldc2_w 68, 3) := by decide +kernel
theorem wr_7_229 : (Jvm.Cond.constantLong "SpillForgeModel$Reader" (68 : Nat) (10 : Int64)) ∈ gw := gw_7 229 rfl rfl
theorem dr_cX14_number_46 : decode cX14_number 46 = .ok (.lmul, 1) := by decide +kernel
theorem dr_cX14_number_47 : decode cX14_number 47 = .ok (.aload_n 0, 1) := by decide +kernel
theorem dr_cX14_number_48 : decode cX14_number 48 = .ok (.getfield 28, 3) := by decide +kernel
theorem dr_cX14_number_51 : decode cX14_number 51 = .ok (.aload_n 0, 1) := by decide +kernel
theorem dr_cX14_number_52 : decode cX14_number 52 = .ok (.getfield 44, 3) := by decide +kernel
theorem dr_cX14_number_55 : decode cX14_number 55 = .ok (.baload, 1) := by decide +kernel
theorem dr_cX14_number_56 : decode cX14_number 56 = .ok (.i2l, 1) := by decide +kernel
theorem dr_cX14_number_57 : decode cX14_number 57 = .ok (.ladd, 1) := by decide +kernel
theorem dr_cX14_number_58 : decode cX14_number 58 = .ok (.ldc2_w 70, 3) := by decide +kernel
theorem wr_7_230 : (Jvm.Cond.constantLong "SpillForgeModel$Reader" (70 : Nat) (48 : Int64)) ∈ gw := gw_7 230 rfl rfl
theorem dr_cX14_number_61 : decode cX14_number 61 = .ok (.lsub, 1) := by decide +kernel
theorem dr_cX14_number_62 : decode cX14_number 62 = .ok (.ldc2_w 111, 3) := by decide +kernel
theorem wr_8_222 : (Jvm.Cond.constantLong "SpillForgeModel$Reader" (111 : Nat) (1099511627776 : Int64)) ∈ gw := gw_8 222 rfl rfl
theorem dr_cX14_number_65 : decode cX14_number 65 = .ok (.invokestatic 74, 3) := by decide +kernel
theorem wr_7_232 : (Jvm.Cond.methodLink "SpillForgeModel$Reader" (74 : Nat) ({ cls := "java/lang/Math", name := "min", desc := "(JJ)J" } : Jvm.MethodName)) ∈ gw := gw_7 232 rfl rfl
theorem wr_3_40 : (Jvm.Cond.code ({ cls := "java/lang/Math", name := "min", desc := "(JJ)J" } : Jvm.MethodName) prog_32_method_70_code (4 : Nat) (Option.some Jvm.ClassFile.FieldType.long)) ∈ gw := gw_3 40 rfl rfl
theorem wr_3_39 : (Jvm.Cond.static ({ cls := "java/lang/Math", name := "min", desc := "(JJ)J" } : Jvm.MethodName)) ∈ gw := gw_3 39 rfl rfl
theorem dr_cX14_number_68 : decode cX14_number 68 = .ok (.lstore_n 2, 1) := by decide +kernel
theorem dr_cX14_number_69 : decode cX14_number 69 = .ok (.aload_n 0, 1) := by decide +kernel
theorem dr_cX14_number_70 : decode cX14_number 70 = .ok (.dup, 1) := by decide +kernel
theorem dr_cX14_number_71 : decode cX14_number 71 = .ok (.getfield 44, 3) := by decide +kernel
theorem dr_cX14_number_74 : decode cX14_number 74 = .ok (.iconst 1, 1) := by decide +kernel
theorem dr_cX14_number_75 : decode cX14_number 75 = .ok (.iadd, 1) := by decide +kernel
theorem dr_cX14_number_76 : decode cX14_number 76 = .ok (.putfield 44, 3) := by decide +kernel
theorem dr_cX14_number_79 : decode cX14_number 79 = .ok (.goto (-63), 3) := by decide +kernel
theorem dr_cX14_number_4 : decode cX14_number 4 = .ok (.aload_n 0, 1) := by decide +kernel
theorem dr_cX14_number_5 : decode cX14_number 5 = .ok (.dup, 1) := by decide +kernel
theorem dr_cX14_number_6 : decode cX14_number 6 = .ok (.getfield 44, 3) := by decide +kernel
theorem dr_cX14_number_9 : decode cX14_number 9 = .ok (.iconst 1, 1) := by decide +kernel
theorem dr_cX14_number_10 : decode cX14_number 10 = .ok (.iadd, 1) := by decide +kernel
theorem dr_cX14_number_11 : decode cX14_number 11 = .ok (.putfield 44, 3) := by decide +kernel
theorem dr_cX14_number_86 : decode cX14_number 86 = .ok (.lload_n 2, 1) := by decide +kernel
theorem dr_cX14_number_87 : decode cX14_number 87 = .ok (.lneg, 1) := by decide +kernel
theorem dr_cX14_number_88 : decode cX14_number 88 = .ok (.lstore_n 2, 1) := by decide +kernel
theorem dr_cX14_symbol_73 : decode cX14_symbol 73 = .ok (.ldc 9, 2) := by decide +kernel
theorem dr_cX14_symbol_75 : decode cX14_symbol 75 = .ok (.astore_n 2, 1) := by decide +kernel
theorem dr_cX14_symbol_76 : decode cX14_symbol 76 = .ok (.aload_n 2, 1) := by decide +kernel
theorem dr_cX14_symbol_77 : decode cX14_symbol 77 = .ok (.invokevirtual 113, 3) := by decide +kernel
theorem wr_8_227 : (Jvm.Cond.methodLink "SpillForgeModel$Reader" (113 : Nat) ({ cls := "java/lang/String", name := "length", desc := "()I" } : Jvm.MethodName)) ∈ gw := gw_8 227 rfl rfl
theorem dr_cX14_symbol_80 : decode cX14_symbol 80 = .ok (.iconst 2, 1) := by decide +kernel
theorem dr_cX14_symbol_81 : decode cX14_symbol 81 = .ok (.if_icmp .ne 39, 3) := by decide +kernel
theorem dr_cX14_symbol_120 : decode cX14_symbol 120 = .ok (.iconst 0, 1) := by decide +kernel
theorem dr_cX14_symbol_121 : decode cX14_symbol 121 = .ok (.istore_n 3, 1) := by decide +kernel
theorem dr_cX14_symbol_122 : decode cX14_symbol 122 = .ok (.aload_n 0, 1) := by decide +kernel
theorem dr_cX14_symbol_123 : decode cX14_symbol 123 = .ok (.iload_n 3, 1) := by decide +kernel
theorem dr_cX14_symbol_124 : decode cX14_symbol 124 = .ok (.ifCond .ne 19, 3) := by decide +kernel
theorem dr_cX14_symbol_127 : decode cX14_symbol 127 = .ok (.iload_n 1, 1) := by decide +kernel
theorem dr_cX14_symbol_128 : decode cX14_symbol 128 = .ok (.bipush 32, 2) := by decide +kernel
theorem dr_cX14_symbol_130 : decode cX14_symbol 130 = .ok (.if_icmp .le 17, 3) := by decide +kernel
theorem dr_cX14_symbol_147 : decode cX14_symbol 147 = .ok (.bipush 6, 2) := by decide +kernel
theorem dr_cX14_symbol_149 : decode cX14_symbol 149 = .ok (.putfield 38, 3) := by decide +kernel
theorem dr_cX14_symbol_152 : decode cX14_symbol 152 = .ok (.aload_n 0, 1) := by decide +kernel
theorem dr_cX14_symbol_153 : decode cX14_symbol 153 = .ok (.iload_n 3, 1) := by decide +kernel
theorem dr_cX14_symbol_154 : decode cX14_symbol 154 = .ok (.ifCond .eq 7, 3) := by decide +kernel
theorem dr_cX14_symbol_161 : decode cX14_symbol 161 = .ok (.iload_n 1, 1) := by decide +kernel
theorem dr_cX14_symbol_162 : decode cX14_symbol 162 = .ok (.bipush 32, 2) := by decide +kernel
theorem dr_cX14_symbol_164 : decode cX14_symbol 164 = .ok (.if_icmp .le 26, 3) := by decide +kernel
theorem dr_cX14_symbol_190 : decode cX14_symbol 190 = .ok (.ldc 9, 2) := by decide +kernel
theorem dr_cX14_symbol_192 : decode cX14_symbol 192 = .ok (.putfield 11, 3) := by decide +kernel
theorem wr_9_43 : (Jvm.Cond.fieldLink "SpillForgeModel$Reader" (11 : Nat) "SpillForgeModel$Reader" "text" "Ljava/lang/String;") ∈ gw := gw_9 43 rfl rfl
theorem dr_cX14_symbol_195 : decode cX14_symbol 195 = .ok (.aload_n 0, 1) := by decide +kernel
theorem dr_cX14_symbol_196 : decode cX14_symbol 196 = .ok (.dup, 1) := by decide +kernel
theorem dr_cX14_symbol_197 : decode cX14_symbol 197 = .ok (.getfield 44, 3) := by decide +kernel
theorem dr_cX14_symbol_200 : decode cX14_symbol 200 = .ok (.iload_n 3, 1) := by decide +kernel
theorem dr_cX14_symbol_201 : decode cX14_symbol 201 = .ok (.ifCond .eq 7, 3) := by decide +kernel
theorem dr_cX14_symbol_208 : decode cX14_symbol 208 = .ok (.iconst 1, 1) := by decide +kernel
theorem dr_cX14_symbol_209 : decode cX14_symbol 209 = .ok (.iadd, 1) := by decide +kernel
theorem dr_cX14_symbol_210 : decode cX14_symbol 210 = .ok (.putfield 44, 3) := by decide +kernel
theorem dr_cX14_symbol_213 : decode cX14_symbol 213 = .ok (.return_, 1) := by decide +kernel
theorem dr_cX14_symbol_133 : decode cX14_symbol 133 = .ok (.ldc 119, 2) := by decide +kernel
theorem dr_cX14_symbol_135 : decode cX14_symbol 135 = .ok (.iload_n 1, 1) := by decide +kernel
theorem dr_cX14_symbol_136 : decode cX14_symbol 136 = .ok (.i2c, 1) := by decide +kernel
theorem dr_cX14_symbol_137 : decode cX14_symbol 137 = .ok (.invokevirtual 121, 3) := by decide +kernel
theorem wr_8_230 : (Jvm.Cond.methodLink "SpillForgeModel$Reader" (121 : Nat) ({ cls := "java/lang/String", name := "indexOf", desc := "(I)I" } : Jvm.MethodName)) ∈ gw := gw_8 230 rfl rfl
theorem wr_8_233 : (Jvm.Cond.code ({ cls := "java/lang/String", name := "indexOf", desc := "(I)I" } : Jvm.MethodName) prog_34_method_79_code (2 : Nat) (Option.some Jvm.ClassFile.FieldType.int)) ∈ gw := gw_8 233 rfl rfl
theorem wr_8_231 : (Jvm.Cond.instanceMethod ({ cls := "java/lang/String", name := "indexOf", desc := "(I)I" } : Jvm.MethodName)) ∈ gw := gw_8 231 rfl rfl
theorem wr_8_232 : (Jvm.Cond.selects "java/lang/String" ({ cls := "java/lang/String", name := "indexOf", desc := "(I)I" } : Jvm.MethodName) ({ cls := "java/lang/String", name := "indexOf", desc := "(I)I" } : Jvm.MethodName)) ∈ gw := gw_8 232 rfl rfl
theorem dr_cX14_symbol_140 : decode cX14_symbol 140 = .ok (.ifCond .lt 7, 3) := by decide +kernel
theorem dr_cX14_symbol_167 : decode cX14_symbol 167 = .ok (.new 87, 3) := by decide +kernel
theorem wr_7_235 : (Jvm.Cond.classLink "SpillForgeModel$Reader" (87 : Nat) "java/lang/StringBuilder") ∈ gw := gw_7 235 rfl rfl
theorem dr_cX14_symbol_170 : decode cX14_symbol 170 = .ok (.dup, 1) := by decide +kernel
theorem dr_cX14_symbol_171 : decode cX14_symbol 171 = .ok (.invokespecial 89, 3) := by decide +kernel
theorem wr_7_236 : (Jvm.Cond.methodLink "SpillForgeModel$Reader" (89 : Nat) ({ cls := "java/lang/StringBuilder", name := "<init>", desc := "()V" } : Jvm.MethodName)) ∈ gw := gw_7 236 rfl rfl
theorem wr_7_47 : (Jvm.Cond.code ({ cls := "java/lang/StringBuilder", name := "<init>", desc := "()V" } : Jvm.MethodName) prog_35_method_1_code (1 : Nat) (Option.none : Option Jvm.ClassFile.FieldType)) ∈ gw := gw_7 47 rfl rfl
theorem wr_7_46 : (Jvm.Cond.instanceMethod ({ cls := "java/lang/StringBuilder", name := "<init>", desc := "()V" } : Jvm.MethodName)) ∈ gw := gw_7 46 rfl rfl
theorem dr_cX14_symbol_174 : decode cX14_symbol 174 = .ok (.ldc 9, 2) := by decide +kernel
theorem dr_cX14_symbol_176 : decode cX14_symbol 176 = .ok (.invokevirtual 102, 3) := by decide +kernel
theorem wr_8_195 : (Jvm.Cond.methodLink "SpillForgeModel$Reader" (102 : Nat) ({ cls := "java/lang/StringBuilder", name := "append", desc := "(Ljava/lang/String;)Ljava/lang/StringBuilder;" } : Jvm.MethodName)) ∈ gw := gw_8 195 rfl rfl
theorem wr_8_143 : (Jvm.Cond.code ({ cls := "java/lang/StringBuilder", name := "append", desc := "(Ljava/lang/String;)Ljava/lang/StringBuilder;" } : Jvm.MethodName) prog_35_method_7_code (2 : Nat) (Option.some (Jvm.ClassFile.FieldType.object "java/lang/StringBuilder"))) ∈ gw := gw_8 143 rfl rfl
theorem wr_8_141 : (Jvm.Cond.instanceMethod ({ cls := "java/lang/StringBuilder", name := "append", desc := "(Ljava/lang/String;)Ljava/lang/StringBuilder;" } : Jvm.MethodName)) ∈ gw := gw_8 141 rfl rfl
theorem wr_8_142 : (Jvm.Cond.selects "java/lang/StringBuilder" ({ cls := "java/lang/StringBuilder", name := "append", desc := "(Ljava/lang/String;)Ljava/lang/StringBuilder;" } : Jvm.MethodName) ({ cls := "java/lang/StringBuilder", name := "append", desc := "(Ljava/lang/String;)Ljava/lang/StringBuilder;" } : Jvm.MethodName)) ∈ gw := gw_8 142 rfl rfl
theorem dr_cX14_symbol_179 : decode cX14_symbol 179 = .ok (.iload_n 1, 1) := by decide +kernel
theorem dr_cX14_symbol_180 : decode cX14_symbol 180 = .ok (.i2c, 1) := by decide +kernel
theorem dr_cX14_symbol_181 : decode cX14_symbol 181 = .ok (.invokevirtual 90, 3) := by decide +kernel
theorem wr_7_237 : (Jvm.Cond.methodLink "SpillForgeModel$Reader" (90 : Nat) ({ cls := "java/lang/StringBuilder", name := "append", desc := "(C)Ljava/lang/StringBuilder;" } : Jvm.MethodName)) ∈ gw := gw_7 237 rfl rfl
theorem wr_8_0 : (Jvm.Cond.code ({ cls := "java/lang/StringBuilder", name := "append", desc := "(C)Ljava/lang/StringBuilder;" } : Jvm.MethodName) prog_35_method_14_code (2 : Nat) (Option.some (Jvm.ClassFile.FieldType.object "java/lang/StringBuilder"))) ∈ gw := gw_8 0 rfl rfl
theorem wr_7_238 : (Jvm.Cond.instanceMethod ({ cls := "java/lang/StringBuilder", name := "append", desc := "(C)Ljava/lang/StringBuilder;" } : Jvm.MethodName)) ∈ gw := gw_7 238 rfl rfl
theorem wr_7_239 : (Jvm.Cond.selects "java/lang/StringBuilder" ({ cls := "java/lang/StringBuilder", name := "append", desc := "(C)Ljava/lang/StringBuilder;" } : Jvm.MethodName) ({ cls := "java/lang/StringBuilder", name := "append", desc := "(C)Ljava/lang/StringBuilder;" } : Jvm.MethodName)) ∈ gw := gw_7 239 rfl rfl
theorem dr_cX14_symbol_184 : decode cX14_symbol 184 = .ok (.invokevirtual 94, 3) := by decide +kernel
theorem wr_8_66 : (Jvm.Cond.methodLink "SpillForgeModel$Reader" (94 : Nat) ({ cls := "java/lang/StringBuilder", name := "toString", desc := "()Ljava/lang/String;" } : Jvm.MethodName)) ∈ gw := gw_8 66 rfl rfl
theorem wr_8_69 : (Jvm.Cond.code ({ cls := "java/lang/StringBuilder", name := "toString", desc := "()Ljava/lang/String;" } : Jvm.MethodName) prog_35_method_42_code (1 : Nat) (Option.some (Jvm.ClassFile.FieldType.object "java/lang/String"))) ∈ gw := gw_8 69 rfl rfl
theorem wr_8_67 : (Jvm.Cond.instanceMethod ({ cls := "java/lang/StringBuilder", name := "toString", desc := "()Ljava/lang/String;" } : Jvm.MethodName)) ∈ gw := gw_8 67 rfl rfl
theorem wr_8_68 : (Jvm.Cond.selects "java/lang/StringBuilder" ({ cls := "java/lang/StringBuilder", name := "toString", desc := "()Ljava/lang/String;" } : Jvm.MethodName) ({ cls := "java/lang/StringBuilder", name := "toString", desc := "()Ljava/lang/String;" } : Jvm.MethodName)) ∈ gw := gw_8 68 rfl rfl
theorem dr_cX14_symbol_187 : decode cX14_symbol 187 = .ok (.goto 5, 3) := by decide +kernel
theorem dr_cX14_symbol_143 : decode cX14_symbol 143 = .ok (.iconst 5, 1) := by decide +kernel
theorem dr_cX14_symbol_144 : decode cX14_symbol 144 = .ok (.goto 5, 3) := by decide +kernel
theorem dr_cX14_symbol_0 : decode cX14_symbol 0 = .ok (.aload_n 0, 1) := by decide +kernel
theorem dr_cX14_symbol_1 : decode cX14_symbol 1 = .ok (.getfield 44, 3) := by decide +kernel
theorem dr_cX14_symbol_4 : decode cX14_symbol 4 = .ok (.iconst 1, 1) := by decide +kernel
theorem dr_cX14_symbol_5 : decode cX14_symbol 5 = .ok (.iadd, 1) := by decide +kernel
theorem dr_cX14_symbol_6 : decode cX14_symbol 6 = .ok (.aload_n 0, 1) := by decide +kernel
theorem dr_cX14_symbol_7 : decode cX14_symbol 7 = .ok (.getfield 32, 3) := by decide +kernel
theorem dr_cX14_symbol_10 : decode cX14_symbol 10 = .ok (.if_icmp .ge 63, 3) := by decide +kernel
theorem dr_cX14_symbol_13 : decode cX14_symbol 13 = .ok (.aload_n 0, 1) := by decide +kernel
theorem dr_cX14_symbol_14 : decode cX14_symbol 14 = .ok (.getfield 28, 3) := by decide +kernel
theorem dr_cX14_symbol_17 : decode cX14_symbol 17 = .ok (.aload_n 0, 1) := by decide +kernel
theorem dr_cX14_symbol_18 : decode cX14_symbol 18 = .ok (.getfield 44, 3) := by decide +kernel
theorem dr_cX14_symbol_21 : decode cX14_symbol 21 = .ok (.iconst 1, 1) := by decide +kernel
theorem dr_cX14_symbol_22 : decode cX14_symbol 22 = .ok (.iadd, 1) := by decide +kernel
theorem dr_cX14_symbol_23 : decode cX14_symbol 23 = .ok (.baload, 1) := by decide +kernel
theorem dr_cX14_symbol_24 : decode cX14_symbol 24 = .ok (.bipush 32, 2) := by decide +kernel
theorem dr_cX14_symbol_26 : decode cX14_symbol 26 = .ok (.if_icmp .le 47, 3) := by decide +kernel
theorem dr_cX14_symbol_29 : decode cX14_symbol 29 = .ok (.iload_n 1, 1) := by decide +kernel
theorem dr_cX14_symbol_30 : decode cX14_symbol 30 = .ok (.bipush 32, 2) := by decide +kernel
theorem dr_cX14_symbol_32 : decode cX14_symbol 32 = .ok (.if_icmp .le 41, 3) := by decide +kernel
theorem dr_cX14_symbol_35 : decode cX14_symbol 35 = .ok (.new 87, 3) := by decide +kernel
theorem dr_cX14_symbol_38 : decode cX14_symbol 38 = .ok (.dup, 1) := by decide +kernel
theorem dr_cX14_symbol_39 : decode cX14_symbol 39 = .ok (.invokespecial 89, 3) := by decide +kernel
theorem dr_cX14_symbol_42 : decode cX14_symbol 42 = .ok (.ldc 9, 2) := by decide +kernel
theorem dr_cX14_symbol_44 : decode cX14_symbol 44 = .ok (.invokevirtual 102, 3) := by decide +kernel
theorem dr_cX14_symbol_47 : decode cX14_symbol 47 = .ok (.iload_n 1, 1) := by decide +kernel
theorem dr_cX14_symbol_48 : decode cX14_symbol 48 = .ok (.i2c, 1) := by decide +kernel
theorem dr_cX14_symbol_49 : decode cX14_symbol 49 = .ok (.invokevirtual 90, 3) := by decide +kernel
theorem dr_cX14_symbol_52 : decode cX14_symbol 52 = .ok (.aload_n 0, 1) := by decide +kernel
theorem dr_cX14_symbol_53 : decode cX14_symbol 53 = .ok (.getfield 28, 3) := by decide +kernel
theorem dr_cX14_symbol_56 : decode cX14_symbol 56 = .ok (.aload_n 0, 1) := by decide +kernel
theorem dr_cX14_symbol_57 : decode cX14_symbol 57 = .ok (.getfield 44, 3) := by decide +kernel
theorem dr_cX14_symbol_60 : decode cX14_symbol 60 = .ok (.iconst 1, 1) := by decide +kernel
theorem dr_cX14_symbol_61 : decode cX14_symbol 61 = .ok (.iadd, 1) := by decide +kernel
theorem dr_cX14_symbol_62 : decode cX14_symbol 62 = .ok (.baload, 1) := by decide +kernel
theorem dr_cX14_symbol_63 : decode cX14_symbol 63 = .ok (.i2c, 1) := by decide +kernel
theorem dr_cX14_symbol_64 : decode cX14_symbol 64 = .ok (.invokevirtual 90, 3) := by decide +kernel
theorem dr_cX14_symbol_67 : decode cX14_symbol 67 = .ok (.invokevirtual 94, 3) := by decide +kernel
theorem dr_cX14_symbol_70 : decode cX14_symbol 70 = .ok (.goto 5, 3) := by decide +kernel
theorem dr_cX14_symbol_84 : decode cX14_symbol 84 = .ok (.ldc 117, 2) := by decide +kernel
theorem dr_cX14_symbol_86 : decode cX14_symbol 86 = .ok (.new 87, 3) := by decide +kernel
theorem dr_cX14_symbol_89 : decode cX14_symbol 89 = .ok (.dup, 1) := by decide +kernel
theorem dr_cX14_symbol_90 : decode cX14_symbol 90 = .ok (.invokespecial 89, 3) := by decide +kernel
theorem dr_cX14_symbol_93 : decode cX14_symbol 93 = .ok (.ldc 100, 2) := by decide +kernel
theorem dr_cX14_symbol_95 : decode cX14_symbol 95 = .ok (.invokevirtual 102, 3) := by decide +kernel
theorem dr_cX14_symbol_98 : decode cX14_symbol 98 = .ok (.aload_n 2, 1) := by decide +kernel
theorem dr_cX14_symbol_99 : decode cX14_symbol 99 = .ok (.invokevirtual 102, 3) := by decide +kernel
theorem dr_cX14_symbol_102 : decode cX14_symbol 102 = .ok (.ldc 100, 2) := by decide +kernel
theorem dr_cX14_symbol_104 : decode cX14_symbol 104 = .ok (.invokevirtual 102, 3) := by decide +kernel
theorem dr_cX14_symbol_107 : decode cX14_symbol 107 = .ok (.invokevirtual 94, 3) := by decide +kernel
theorem dr_cX14_symbol_110 : decode cX14_symbol 110 = .ok (.invokevirtual 105, 3) := by decide +kernel
theorem wr_8_196 : (Jvm.Cond.methodLink "SpillForgeModel$Reader" (105 : Nat) ({ cls := "java/lang/String", name := "indexOf", desc := "(Ljava/lang/String;)I" } : Jvm.MethodName)) ∈ gw := gw_8 196 rfl rfl
theorem wr_8_199 : (Jvm.Cond.code ({ cls := "java/lang/String", name := "indexOf", desc := "(Ljava/lang/String;)I" } : Jvm.MethodName) prog_34_method_84_code (3 : Nat) (Option.some Jvm.ClassFile.FieldType.int)) ∈ gw := gw_8 199 rfl rfl
theorem wr_8_197 : (Jvm.Cond.instanceMethod ({ cls := "java/lang/String", name := "indexOf", desc := "(Ljava/lang/String;)I" } : Jvm.MethodName)) ∈ gw := gw_8 197 rfl rfl
theorem wr_8_198 : (Jvm.Cond.selects "java/lang/String" ({ cls := "java/lang/String", name := "indexOf", desc := "(Ljava/lang/String;)I" } : Jvm.MethodName) ({ cls := "java/lang/String", name := "indexOf", desc := "(Ljava/lang/String;)I" } : Jvm.MethodName)) ∈ gw := gw_8 198 rfl rfl
theorem dr_cX14_symbol_113 : decode cX14_symbol 113 = .ok (.ifCond .lt 7, 3) := by decide +kernel
theorem dr_cX14_symbol_116 : decode cX14_symbol 116 = .ok (.iconst 1, 1) := by decide +kernel
theorem dr_cX14_symbol_117 : decode cX14_symbol 117 = .ok (.goto 4, 3) := by decide +kernel
theorem dr_cX14_symbol_157 : decode cX14_symbol 157 = .ok (.aload_n 2, 1) := by decide +kernel
theorem dr_cX14_symbol_158 : decode cX14_symbol 158 = .ok (.goto 34, 3) := by decide +kernel
theorem dr_cX14_symbol_204 : decode cX14_symbol 204 = .ok (.iconst 2, 1) := by decide +kernel
theorem dr_cX14_symbol_205 : decode cX14_symbol 205 = .ok (.goto 4, 3) := by decide +kernel
abbrev ky_667308_Reader_number : gKey := (cX14_number, 4, "SpillForgeModel$Reader", none, [], "number", fun _ _ => True)
def pp_667308_Reader_number (D : va_G) (I : FieldType → ClassId) (P667284 : List Nat) (F667285 : Nat → va_E) (q667286 : Nat) (q667287 : Nat) (p667288 : Int32) (p667289 : Int32) (p667290 : Int32) (p667291 : Int32) (p667292 : Int32) (p667293 : Int32) (p667294 : Int32) (qo667295 : Nat) (p667296 : Int32) (p667297 : Int32) (p667298 : Int32) (qo667299 : Nat) (qo667300 : Nat) (p667301 : Int32) (f667302 : Nat → Int32) : Option Value → va_W → Nat → Nat → Prop := fun r w dc ds => ∃ (F667906 : Nat → va_E) (o667902 : Int32) (o667903 : Int32) (o667904 : Int32) (xt667907 : gTx), r = none ∧ w = va_pl P667284 F667906 ∧ rFr [q667286] P667284 F667285 F667906 ∧ F667906 q667286 = .inr (19, [.ref q667287, .int p667289, .int o667902, .int o667903, .int p667292, .int o667904, .int p667294, .ref qo667295, .int p667296, .int p667297, .int p667298, .ref qo667299, .ref qo667300, .int p667301]) ∧ F667906 q667287 = .inl (I .byte, 8192, .inl f667302) ∧ dc ≤ (16 * (o667902.toInt - p667290.toInt)).toNat ∧ ds ≤ (160 * (o667902.toInt - p667290.toInt)).toNat ∧ gB o667902 0 8192 ∧ gB o667903 4 6 ∧ p667290.toInt < o667902.toInt ∧ o667902.toInt ≤ p667289.toInt ∧ tP I P667284 F667906 o667903 qo667295 qo667300 qo667299 xt667907 ∧ vP o667903 o667904 ∧ tr_RReader_number p667288 p667289 p667290 f667302 o667902 o667903 o667904 xt667907
set_option maxRecDepth 100000 in
set_option maxHeartbeats 4000000 in
theorem cp_667308_Reader_number (l : Launch) (hl0 : l.stackTraces = false) (D : va_G) (I : FieldType → ClassId) (P667284 : List Nat) (F667285 : Nat → va_E) (q667286 : Nat) (q667287 : Nat) (p667288 : Int32) (p667289 : Int32) (p667290 : Int32) (p667291 : Int32) (p667292 : Int32) (p667293 : Int32) (p667294 : Int32) (qo667295 : Nat) (p667296 : Int32) (p667297 : Int32) (p667298 : Int32) (qo667299 : Nat) (qo667300 : Nat) (p667301 : Int32) (f667302 : Nat → Int32) (hmq667286 : q667286 ∈ P667284) (hmq667287 : q667287 ∈ P667284) (heq667286 : F667285 q667286 = .inr (19, [.ref q667287, .int p667289, .int p667290, .int p667291, .int p667292, .int p667293, .int p667294, .ref qo667295, .int p667296, .int p667297, .int p667298, .ref qo667299, .ref qo667300, .int p667301])) (heq667287 : F667285 q667287 = .inl (I .byte, 8192, .inl f667302)) (bp667288 : gB p667288 0 1) (bp667289 : gB p667289 0 8192) (bp667290 : gB p667290 0 8192) (bp667291 : gB p667291 0 6) (bp667292 : gB p667292 0 8192) (bp667294 : gB p667294 0 6) (bp667296 : gB p667296 (-1) 8192) (bp667297 : gB p667297 0 4) (bp667298 : gB p667298 0 1000000) (bp667301 : gB p667301 0 1000000) (bf667302 : gF f667302 (-128) 127) (x667303 : p667290.toInt ≤ p667289.toInt) (x667304 : p667290.toInt < p667289.toInt) (x667305 : cDg f667302 p667290 p667288) (x667306 : qo667300 ∈ P667284) (x667307 : qo667299 ∈ P667284) : CtA (gV D I) l yX14_number cX14_number 4 none 1 23 ((16 * (p667289.toInt - p667290.toInt)).toNat) ((160 * (p667289.toInt - p667290.toInt)).toNat) [.ref q667286, .int p667288] (va_pl P667284 F667285) (pp_667308_Reader_number D I P667284 F667285 q667286 q667287 p667288 p667289 p667290 p667291 p667292 p667293 p667294 qo667295 p667296 p667297 p667298 qo667299 qo667300 p667301 f667302) gNA := by
  refine CtA_of hl0 (by decide) (Nat.le_of_ble_eq_true rfl) ?_
  have bp667293 := gB_any p667293
  refine G_iload_n 1 dr_cX14_number_0 rfl ?_
  refine G_if_eq 14 dr_cX14_number_1 (by decide +kernel) (fun hc667309 => ?_) (fun hc667309 => ?_)
  · have r667310 : p667288.toInt = 0 := gj_eq hc667309 (show Int32.toInt 0 = 0 by decide)
    have bp667288' : gB p667288 0 0 := ⟨by omega, by omega⟩
    refine G_lconst 0 dr_cX14_number_14 rfl ?_
    refine G_lstore_n (L' := [(2, .long 0), (0, .ref q667286), (1, .int p667288)]) dr_cX14_number_15 (Nat.le_of_ble_eq_true rfl) rfl ?_
    have hlp16_667520 : ∀ (n16_667520 : Nat) (F667514 : Nat → va_E) (gl667512 : Int64) (g667513 : Int32), gB g667513 0 8192 → rFr [q667286] P667284 F667285 F667514 → F667514 q667286 = .inr (19, [.ref q667287, .int p667289, .int g667513, .int p667291, .int p667292, .int p667293, .int p667294, .ref qo667295, .int p667296, .int p667297, .int p667298, .ref qo667299, .ref qo667300, .int p667301]) → F667514 q667287 = .inl (I .byte, 8192, .inl f667302) → p667290.toInt ≤ g667513.toInt → g667513.toInt ≤ p667289.toInt → (p667288.toInt = 0 ∨ p667290.toInt < g667513.toInt) → (∀ (k : Nat) (e1 : Int64) (e2 : Int32), tl_RReader_number_16 p667289 f667302 gl667512 g667513 k e1 e2 → tl_RReader_number_16 p667289 f667302 (0 : Int64) p667290 k e1 e2) → ((8193 : Int) - g667513.toInt).toNat < n16_667520 → G (gV D I) l (gRm 1 23 ((16 * (p667289.toInt - p667290.toInt)).toNat) ((160 * (p667289.toInt - p667290.toInt)).toNat)) (gMA (gV D I) (pp_667308_Reader_number D I P667284 F667285 q667286 q667287 p667288 p667289 p667290 p667291 p667292 p667293 p667294 qo667295 p667296 p667297 p667298 qo667299 qo667300 p667301 f667302) gNA ((16 * (p667289.toInt - p667290.toInt)).toNat) ((160 * (p667289.toInt - p667290.toInt)).toNat)) ky_667308_Reader_number 16 [(2, .long gl667512), (0, .ref q667286), (1, .int p667288)] [] (va_pl P667284 F667514) 0 0 := by
      intro n16_667520
      induction n16_667520 with
      | zero => intro F667514 gl667512 g667513 bg667513 hfr667517 he667515 he667516 x667518 x667519 x667520 kt16_667520 hm16_667520; exact absurd hm16_667520 (Nat.not_lt_zero _)
      | succ n16_667520 ih16_667520 =>
        intro F667514 gl667512 g667513 bg667513 hfr667517 he667515 he667516 x667518 x667519 x667520 kt16_667520 hm16_667520
        refine G_aload_n 1 dr_cX14_number_16 rfl ?_
        refine Gp_get 2 hmq667286 he667515 dr_cX14_number_17 (gk_X14 D I) (Nat.le_of_ble_eq_true rfl) wr_9_38 rfl ?_
        refine G_aload_n 1 dr_cX14_number_20 rfl ?_
        refine Gp_get 1 hmq667286 he667515 dr_cX14_number_21 (gk_X14 D I) (Nat.le_of_ble_eq_true rfl) wr_9_37 rfl ?_
        refine G_icmp_ge 82 dr_cX14_number_24 (by decide +kernel) (fun hc667521 => ?_) (fun hc667521 => ?_)
        · have r667522 : p667289.toInt ≤ g667513.toInt := gC_le hc667521
          have hx667523 : tl_RReader_number_16 p667289 f667302 (0 : Int64) p667290 82 gl667512 g667513 := kt16_667520 82 gl667512 g667513 (fun R c1 c2 c3 => c1 gl667512 g667513 bg667513 r667522)
          have x667524 : p667290.toInt < g667513.toInt := by first | omega | exact cDg_lt x667305 (by omega) (by assumption) (isP_0 (by assumption) (by omega)) (by omega)
          refine G_iload_n 2 dr_cX14_number_82 rfl ?_
          refine G_if_eq 89 dr_cX14_number_83 (by decide +kernel) (fun _ => ?_) (fun hc => absurd (show False by have := gj_neq hc (show Int32.toInt 0 = 0 by decide); omega) not_false)
          refine G_aload_n 1 dr_cX14_number_89 rfl ?_
          refine G_lload_n 0 dr_cX14_number_90 rfl ?_
          refine G_l2i dr_cX14_number_91 (G_nam fun z667525 hz667525 => ?_)
          have bz667525 : gB z667525 (-2147483648) 2147483647 := gB_any z667525
          refine Gp_put 5 hmq667286 he667515 dr_cX14_number_92 (gk_X14 D I) (Nat.le_of_ble_eq_true rfl) wr_9_41 rfl rfl rfl (Nat.le_of_ble_eq_true rfl) (fun F667526 e667527 n667528 => ?_)
          have he667529 : F667526 q667287 = .inl (I .byte, 8192, .inl f667302) := (n667528 q667287 (rn_ao he667516 he667515)).trans he667516
          have he667530 : F667526 q667286 = .inr (19, [.ref q667287, .int p667289, .int g667513, .int p667291, .int p667292, .int z667525, .int p667294, .ref qo667295, .int p667296, .int p667297, .int p667298, .ref qo667299, .ref qo667300, .int p667301]) := e667527
          have hfr667531 : rFr [q667286] P667284 F667285 F667526 := rFr_put' List.mem_cons_self hfr667517 n667528
          refine G_aload_n 1 dr_cX14_number_95 rfl ?_
          refine G_lload_n 0 dr_cX14_number_96 rfl ?_
          refine G_lload_n 0 dr_cX14_number_97 rfl ?_
          refine G_l2i dr_cX14_number_98 (G_nam fun z667532 hz667532 => ?_)
          have bz667532 : gB z667532 (-2147483648) 2147483647 := gB_any z667532
          refine G_i2l dr_cX14_number_99 (G_namL fun u667533 hu667533 => ?_)
          refine G_lcmp dr_cX14_number_100 (G_nam fun z667534 hz667534 => ?_)
          have bz667534 : gB z667534 (-1) 1 := gB_cmp hz667534
          refine G_if_ne 108 dr_cX14_number_101 (by decide +kernel) (fun hc667535 => ?_) (fun hc667535 => ?_)
          · have r667536 : z667534.toInt ≠ 0 := gj_neq hc667535 (show Int32.toInt 0 = 0 by decide)
            have lhc667535 := gC_cmpN hz667534 hc667535
            refine G_bipush 6 dr_cX14_number_108 (by decide +kernel) ?_
            refine Gp_put 3 hmq667286 he667530 dr_cX14_number_110 (gk_X14 D I) (Nat.le_of_ble_eq_true rfl) wr_9_39 rfl rfl rfl (Nat.le_of_ble_eq_true rfl) (fun F667537 e667538 n667539 => ?_)
            have he667540 : F667537 q667287 = .inl (I .byte, 8192, .inl f667302) := (n667539 q667287 (rn_ao he667529 he667530)).trans he667529
            have he667541 : F667537 q667286 = .inr (19, [.ref q667287, .int p667289, .int g667513, .int 6, .int p667292, .int z667525, .int p667294, .ref qo667295, .int p667296, .int p667297, .int p667298, .ref qo667299, .ref qo667300, .int p667301]) := e667538
            have hfr667542 : rFr [q667286] P667284 F667285 F667537 := rFr_put' List.mem_cons_self hfr667531 n667539
            exact G_vretA dr_cX14_number_113 rfl (show 0 ≤ ((16 * (p667289.toInt - p667290.toInt)).toNat) by omega) (show 0 ≤ ((160 * (p667289.toInt - p667290.toInt)).toNat) by omega) ⟨F667537, g667513, 6, z667525, (0, fun _ => 0), rfl, rfl, hfr667542, he667541, he667540, (by omega), (by omega), bg667513, (gB_w (gBl (show Int32.toInt 6 = 6 by decide)) (by decide) (by decide)), (by have qa0 : Int32.toInt 6 = 6 := (by decide); omega), (by have qa0 : Int32.toInt 6 = 6 := (by decide); omega), (tP_no (by decide) (by decide)), (vP_no (by decide) (by decide)), (fun R c1 c2 c3 c4 => c1 gl667512 g667513 z667525 z667532 u667533 r667310 hx667523 hz667525 hz667532 hu667533 lhc667535)⟩
          · have r667543 : z667534.toInt = 0 := gj_eq hc667535 (show Int32.toInt 0 = 0 by decide)
            have bz667534' : gB z667534 0 0 := ⟨by omega, by omega⟩
            have lhc667535 := gC_cmpE hz667534 hc667535
            refine G_iconst 4 dr_cX14_number_104 (by decide +kernel) ?_
            refine G_goto 110 dr_cX14_number_105 (by decide +kernel) ?_
            refine Gp_put 3 hmq667286 he667530 dr_cX14_number_110 (gk_X14 D I) (Nat.le_of_ble_eq_true rfl) wr_9_39 rfl rfl rfl (Nat.le_of_ble_eq_true rfl) (fun F667544 e667545 n667546 => ?_)
            have he667547 : F667544 q667287 = .inl (I .byte, 8192, .inl f667302) := (n667546 q667287 (rn_ao he667529 he667530)).trans he667529
            have he667548 : F667544 q667286 = .inr (19, [.ref q667287, .int p667289, .int g667513, .int 4, .int p667292, .int z667525, .int p667294, .ref qo667295, .int p667296, .int p667297, .int p667298, .ref qo667299, .ref qo667300, .int p667301]) := e667545
            have hfr667549 : rFr [q667286] P667284 F667285 F667544 := rFr_put' List.mem_cons_self hfr667531 n667546
            exact G_vretA dr_cX14_number_113 rfl (show 0 ≤ ((16 * (p667289.toInt - p667290.toInt)).toNat) by omega) (show 0 ≤ ((160 * (p667289.toInt - p667290.toInt)).toNat) by omega) ⟨F667544, g667513, 4, z667525, (0, fun _ => 0), rfl, rfl, hfr667549, he667548, he667547, (by omega), (by omega), bg667513, (gB_w (gBl (show Int32.toInt 4 = 4 by decide)) (by decide) (by decide)), (by have qa0 : Int32.toInt 4 = 4 := (by decide); omega), (by have qa0 : Int32.toInt 4 = 4 := (by decide); omega), (tP_no (by decide) (by decide)), (vP_no (by decide) (by decide)), (fun R c1 c2 c3 c4 => c2 gl667512 g667513 z667525 z667532 u667533 r667310 hx667523 hz667525 hz667532 hu667533 lhc667535)⟩
        · have r667550 : g667513.toInt < p667289.toInt := gC_nle hc667521
          have bg667513' : gB g667513 0 8191 := ⟨by omega, by omega⟩
          have bp667289' : gB p667289 1 8192 := ⟨by omega, by omega⟩
          refine G_aload_n 1 dr_cX14_number_27 rfl ?_
          refine Gp_get 0 hmq667286 he667515 dr_cX14_number_28 (gk_X14 D I) (Nat.le_of_ble_eq_true rfl) wr_9_36 rfl ?_
          refine G_aload_n 1 dr_cX14_number_31 rfl ?_
          refine Gp_get 2 hmq667286 he667515 dr_cX14_number_32 (gk_X14 D I) (Nat.le_of_ble_eq_true rfl) wr_9_38 rfl ?_
          refine Gp_bald 1 hmq667287 he667516 dr_cX14_number_35 rfl (gB_in bg667513' (by decide) (by decide)) (G_nam fun z667551 hz667551 => ?_)
          have bz667551 : gB z667551 (-128) 127 := by rw [hz667551]; exact bf667302 _
          refine Gw_callS (As := [.int z667551]) (gV_ok D I) (cp_667344_Reader_isDigit l hl0 D I P667284 F667514 z667551 ) dr_cX14_number_36 ⟨wr_7_219, wr_1_32, wr_7_221, by decide, rfl, (Nat.le_of_ble_eq_true rfl), (Nat.le_of_ble_eq_true rfl)⟩ wr_7_220 (show 0 + 0 ≤ ((16 * (p667289.toInt - p667290.toInt)).toNat) by first | omega | decide) (show 0 + 0 ≤ ((160 * (p667289.toInt - p667290.toInt)).toNat) by first | omega | decide) (Nat.le_of_ble_eq_true rfl) (fun r667555 w667556 dc667552 ds667553 hp667554 => ?_) (fun _ _ _ _ _ z => z.elim)
          obtain ⟨o667557, rfl, rfl, hdc, hds, bo667557, x667558, ht667559⟩ := hp667554
          change G _ _ _ _ _ _ _ (.int o667557 :: _) _ _ _
          refine G_widen (cs' := 0) (sl' := 0) (by omega) (by omega) ?_
          refine G_if_eq 82 dr_cX14_number_39 (by decide +kernel) (fun hc667560 => ?_) (fun hc667560 => ?_)
          · have r667561 : o667557.toInt = 0 := gj_eq hc667560 (show Int32.toInt 0 = 0 by decide)
            have bo667557' : gB o667557 0 0 := ⟨by omega, by omega⟩
            have hx667562 : tl_RReader_number_16 p667289 f667302 (0 : Int64) p667290 82 gl667512 g667513 := kt16_667520 82 gl667512 g667513 (fun R c1 c2 c3 => c2 gl667512 g667513 z667551 o667557 bg667513 r667550 hz667551 bz667551 bo667557 ht667559 r667561)
            have x667563 : p667290.toInt < g667513.toInt := by first | omega | exact cDg_lt x667305 (by omega) (by assumption) (isP_0 (by assumption) (by omega)) (by omega)
            refine G_iload_n 2 dr_cX14_number_82 rfl ?_
            refine G_if_eq 89 dr_cX14_number_83 (by decide +kernel) (fun _ => ?_) (fun hc => absurd (show False by have := gj_neq hc (show Int32.toInt 0 = 0 by decide); omega) not_false)
            refine G_aload_n 1 dr_cX14_number_89 rfl ?_
            refine G_lload_n 0 dr_cX14_number_90 rfl ?_
            refine G_l2i dr_cX14_number_91 (G_nam fun z667564 hz667564 => ?_)
            have bz667564 : gB z667564 (-2147483648) 2147483647 := gB_any z667564
            refine Gp_put 5 hmq667286 he667515 dr_cX14_number_92 (gk_X14 D I) (Nat.le_of_ble_eq_true rfl) wr_9_41 rfl rfl rfl (Nat.le_of_ble_eq_true rfl) (fun F667565 e667566 n667567 => ?_)
            have he667568 : F667565 q667287 = .inl (I .byte, 8192, .inl f667302) := (n667567 q667287 (rn_ao he667516 he667515)).trans he667516
            have he667569 : F667565 q667286 = .inr (19, [.ref q667287, .int p667289, .int g667513, .int p667291, .int p667292, .int z667564, .int p667294, .ref qo667295, .int p667296, .int p667297, .int p667298, .ref qo667299, .ref qo667300, .int p667301]) := e667566
            have hfr667570 : rFr [q667286] P667284 F667285 F667565 := rFr_put' List.mem_cons_self hfr667517 n667567
            refine G_aload_n 1 dr_cX14_number_95 rfl ?_
            refine G_lload_n 0 dr_cX14_number_96 rfl ?_
            refine G_lload_n 0 dr_cX14_number_97 rfl ?_
            refine G_l2i dr_cX14_number_98 (G_nam fun z667571 hz667571 => ?_)
            have bz667571 : gB z667571 (-2147483648) 2147483647 := gB_any z667571
            refine G_i2l dr_cX14_number_99 (G_namL fun u667572 hu667572 => ?_)
            refine G_lcmp dr_cX14_number_100 (G_nam fun z667573 hz667573 => ?_)
            have bz667573 : gB z667573 (-1) 1 := gB_cmp hz667573
            refine G_if_ne 108 dr_cX14_number_101 (by decide +kernel) (fun hc667574 => ?_) (fun hc667574 => ?_)
            · have r667575 : z667573.toInt ≠ 0 := gj_neq hc667574 (show Int32.toInt 0 = 0 by decide)
              have lhc667574 := gC_cmpN hz667573 hc667574
              refine G_bipush 6 dr_cX14_number_108 (by decide +kernel) ?_
              refine Gp_put 3 hmq667286 he667569 dr_cX14_number_110 (gk_X14 D I) (Nat.le_of_ble_eq_true rfl) wr_9_39 rfl rfl rfl (Nat.le_of_ble_eq_true rfl) (fun F667576 e667577 n667578 => ?_)
              have he667579 : F667576 q667287 = .inl (I .byte, 8192, .inl f667302) := (n667578 q667287 (rn_ao he667568 he667569)).trans he667568
              have he667580 : F667576 q667286 = .inr (19, [.ref q667287, .int p667289, .int g667513, .int 6, .int p667292, .int z667564, .int p667294, .ref qo667295, .int p667296, .int p667297, .int p667298, .ref qo667299, .ref qo667300, .int p667301]) := e667577
              have hfr667581 : rFr [q667286] P667284 F667285 F667576 := rFr_put' List.mem_cons_self hfr667570 n667578
              exact G_vretA dr_cX14_number_113 rfl (show 0 ≤ ((16 * (p667289.toInt - p667290.toInt)).toNat) by omega) (show 0 ≤ ((160 * (p667289.toInt - p667290.toInt)).toNat) by omega) ⟨F667576, g667513, 6, z667564, (0, fun _ => 0), rfl, rfl, hfr667581, he667580, he667579, (by omega), (by omega), (gB_w bg667513' (by decide) (by decide)), (gB_w (gBl (show Int32.toInt 6 = 6 by decide)) (by decide) (by decide)), (by have qa0 : Int32.toInt 6 = 6 := (by decide); omega), (by have qa0 : Int32.toInt 6 = 6 := (by decide); omega), (tP_no (by decide) (by decide)), (vP_no (by decide) (by decide)), (fun R c1 c2 c3 c4 => c1 gl667512 g667513 z667564 z667571 u667572 r667310 hx667562 hz667564 hz667571 hu667572 lhc667574)⟩
            · have r667582 : z667573.toInt = 0 := gj_eq hc667574 (show Int32.toInt 0 = 0 by decide)
              have bz667573' : gB z667573 0 0 := ⟨by omega, by omega⟩
              have lhc667574 := gC_cmpE hz667573 hc667574
              refine G_iconst 4 dr_cX14_number_104 (by decide +kernel) ?_
              refine G_goto 110 dr_cX14_number_105 (by decide +kernel) ?_
              refine Gp_put 3 hmq667286 he667569 dr_cX14_number_110 (gk_X14 D I) (Nat.le_of_ble_eq_true rfl) wr_9_39 rfl rfl rfl (Nat.le_of_ble_eq_true rfl) (fun F667583 e667584 n667585 => ?_)
              have he667586 : F667583 q667287 = .inl (I .byte, 8192, .inl f667302) := (n667585 q667287 (rn_ao he667568 he667569)).trans he667568
              have he667587 : F667583 q667286 = .inr (19, [.ref q667287, .int p667289, .int g667513, .int 4, .int p667292, .int z667564, .int p667294, .ref qo667295, .int p667296, .int p667297, .int p667298, .ref qo667299, .ref qo667300, .int p667301]) := e667584
              have hfr667588 : rFr [q667286] P667284 F667285 F667583 := rFr_put' List.mem_cons_self hfr667570 n667585
              exact G_vretA dr_cX14_number_113 rfl (show 0 ≤ ((16 * (p667289.toInt - p667290.toInt)).toNat) by omega) (show 0 ≤ ((160 * (p667289.toInt - p667290.toInt)).toNat) by omega) ⟨F667583, g667513, 4, z667564, (0, fun _ => 0), rfl, rfl, hfr667588, he667587, he667586, (by omega), (by omega), (gB_w bg667513' (by decide) (by decide)), (gB_w (gBl (show Int32.toInt 4 = 4 by decide)) (by decide) (by decide)), (by have qa0 : Int32.toInt 4 = 4 := (by decide); omega), (by have qa0 : Int32.toInt 4 = 4 := (by decide); omega), (tP_no (by decide) (by decide)), (vP_no (by decide) (by decide)), (fun R c1 c2 c3 c4 => c2 gl667512 g667513 z667564 z667571 u667572 r667310 hx667562 hz667564 hz667571 hu667572 lhc667574)⟩
          · have r667589 : o667557.toInt ≠ 0 := gj_neq hc667560 (show Int32.toInt 0 = 0 by decide)
            have bo667557' : gB o667557 1 1 := ⟨by omega, by omega⟩
            have bi667590 : gB z667551 48 57 := isP_1 x667558 (by omega)
            refine G_lload_n 0 dr_cX14_number_42 rfl ?_
            refine G_ldc2 10 dr_cX14_number_43 wr_7_229 ?_
            refine G_lmul dr_cX14_number_46 (G_namL fun u667591 hu667591 => ?_)
            refine G_aload_n 1 dr_cX14_number_47 rfl ?_
            refine Gp_get 0 hmq667286 he667515 dr_cX14_number_48 (gk_X14 D I) (Nat.le_of_ble_eq_true rfl) wr_9_36 rfl ?_
            refine G_aload_n 1 dr_cX14_number_51 rfl ?_
            refine Gp_get 2 hmq667286 he667515 dr_cX14_number_52 (gk_X14 D I) (Nat.le_of_ble_eq_true rfl) wr_9_38 rfl ?_
            refine Gp_bald 1 hmq667287 he667516 dr_cX14_number_55 rfl (gB_in bg667513' (by decide) (by decide)) (G_eqi (y := z667551) hz667551.symm ?_)
            refine G_i2l dr_cX14_number_56 (G_namL fun u667592 hu667592 => ?_)
            refine G_ladd dr_cX14_number_57 (G_namL fun u667593 hu667593 => ?_)
            refine G_ldc2 48 dr_cX14_number_58 wr_7_230 ?_
            refine G_lsub dr_cX14_number_61 (G_namL fun u667594 hu667594 => ?_)
            refine G_ldc2 1099511627776 dr_cX14_number_62 wr_8_222 ?_
            refine Gw_callS (As := [.long u667594, .long 1099511627776]) (gV_ok D I) (cp_667398_Math_min l hl0 D I P667284 F667514 u667594 1099511627776 ) dr_cX14_number_65 ⟨wr_7_232, wr_1_6, wr_3_40, by decide, rfl, (Nat.le_of_ble_eq_true rfl), (Nat.le_of_ble_eq_true rfl)⟩ wr_3_39 (show 0 + 0 ≤ ((16 * (p667289.toInt - p667290.toInt)).toNat) by first | omega | decide) (show 0 + 0 ≤ ((160 * (p667289.toInt - p667290.toInt)).toNat) by first | omega | decide) (Nat.le_of_ble_eq_true rfl) (fun r667598 w667599 dc667595 ds667596 hp667597 => ?_) (fun _ _ _ _ _ z => z.elim)
            obtain ⟨ol667600, rfl, rfl, hdc, hds, x667601, ht667602⟩ := hp667597
            change G _ _ _ _ _ _ _ (.long ol667600 :: _) _ _ _
            refine G_widen (cs' := 0) (sl' := 0) (by omega) (by omega) ?_
            refine G_lstore_n (L' := [(2, .long ol667600), (0, .ref q667286), (1, .int p667288)]) dr_cX14_number_68 (Nat.le_of_ble_eq_true rfl) rfl ?_
            refine G_aload_n 1 dr_cX14_number_69 rfl ?_
            refine G_dup dr_cX14_number_70 rfl ?_
            refine Gp_get 2 hmq667286 he667515 dr_cX14_number_71 (gk_X14 D I) (Nat.le_of_ble_eq_true rfl) wr_9_38 rfl ?_
            refine G_iconst 1 dr_cX14_number_74 (by decide +kernel) ?_
            refine G_iadd dr_cX14_number_75 (G_nam fun z667603 hz667603 => ?_)
            have ez667603 : z667603.toInt = g667513.toInt + 1 := by rw [gI_add hz667603 bg667513' (gBl (show Int32.toInt 1 = 1 by decide)) (by decide) (by decide), show Int32.toInt 1 = 1 from by decide]
            have bz667603 : gB z667603 1 8192 := gB_add (gI_add hz667603 bg667513' (gBl (show Int32.toInt 1 = 1 by decide)) (by decide) (by decide)) bg667513' (gBl (show Int32.toInt 1 = 1 by decide)) (by decide) (by decide)
            refine Gp_put 2 hmq667286 he667515 dr_cX14_number_76 (gk_X14 D I) (Nat.le_of_ble_eq_true rfl) wr_9_38 rfl rfl rfl (Nat.le_of_ble_eq_true rfl) (fun F667604 e667605 n667606 => ?_)
            have he667607 : F667604 q667287 = .inl (I .byte, 8192, .inl f667302) := (n667606 q667287 (rn_ao he667516 he667515)).trans he667516
            have he667608 : F667604 q667286 = .inr (19, [.ref q667287, .int p667289, .int z667603, .int p667291, .int p667292, .int p667293, .int p667294, .ref qo667295, .int p667296, .int p667297, .int p667298, .ref qo667299, .ref qo667300, .int p667301]) := e667605
            have hfr667609 : rFr [q667286] P667284 F667285 F667604 := rFr_put' List.mem_cons_self hfr667517 n667606
            refine G_goto 16 dr_cX14_number_79 (by decide +kernel) ?_
            exact ih16_667520 F667604 ol667600 z667603 (gB_w bz667603 (by decide) (by decide)) hfr667609 he667608 he667607 (by omega) (by omega) (by omega) (fun k e1 e2 ht => kt16_667520 k e1 e2 (fun R c1 c2 c3 => c3 gl667512 g667513 z667551 o667557 u667591 u667592 u667593 u667594 ol667600 z667603 k e1 e2 bg667513 r667550 hz667551 bz667551 bo667557 ht667559 r667589 hu667591 hu667592 hu667593 hu667594 ht667602 ez667603 (ht R c1 c2 c3))) (by omega)
    exact hlp16_667520 (((8193 : Int) - p667290.toInt).toNat + 1) F667285 0 p667290 bp667290 (rFr_v (rFr_rf (W := []) (P := P667284) (F := F667285)) (fun b hn => nm_n)) heq667286 heq667287 (by omega) (by omega) (by omega) (fun k e1 e2 ht => ht) (Nat.lt_succ_self _)
  · have r667610 : p667288.toInt ≠ 0 := gj_neq hc667309 (show Int32.toInt 0 = 0 by decide)
    have bp667288' : gB p667288 1 1 := ⟨by omega, by omega⟩
    refine G_aload_n 0 dr_cX14_number_4 rfl ?_
    refine G_dup dr_cX14_number_5 rfl ?_
    refine Gp_get 2 hmq667286 heq667286 dr_cX14_number_6 (gk_X14 D I) (Nat.le_of_ble_eq_true rfl) wr_9_38 rfl ?_
    refine G_iconst 1 dr_cX14_number_9 (by decide +kernel) ?_
    refine G_iadd dr_cX14_number_10 (G_nam fun z667611 hz667611 => ?_)
    have ez667611 : z667611.toInt = p667290.toInt + 1 := by rw [gI_add hz667611 bp667290 (gBl (show Int32.toInt 1 = 1 by decide)) (by decide) (by decide), show Int32.toInt 1 = 1 from by decide]
    have bz667611 : gB z667611 1 8193 := gB_add (gI_add hz667611 bp667290 (gBl (show Int32.toInt 1 = 1 by decide)) (by decide) (by decide)) bp667290 (gBl (show Int32.toInt 1 = 1 by decide)) (by decide) (by decide)
    refine Gp_put 2 hmq667286 heq667286 dr_cX14_number_11 (gk_X14 D I) (Nat.le_of_ble_eq_true rfl) wr_9_38 rfl rfl rfl (Nat.le_of_ble_eq_true rfl) (fun F667612 e667613 n667614 => ?_)
    have he667615 : F667612 q667287 = .inl (I .byte, 8192, .inl f667302) := (n667614 q667287 (rn_ao heq667287 heq667286)).trans heq667287
    have he667616 : F667612 q667286 = .inr (19, [.ref q667287, .int p667289, .int z667611, .int p667291, .int p667292, .int p667293, .int p667294, .ref qo667295, .int p667296, .int p667297, .int p667298, .ref qo667299, .ref qo667300, .int p667301]) := e667613
    have hfr667617 : rFr [q667286] P667284 F667285 F667612 := rFr_put (rFr_rf (W := []) (P := P667284) (F := F667285)) n667614
    refine G_lconst 0 dr_cX14_number_14 rfl ?_
    refine G_lstore_n (L' := [(2, .long 0), (0, .ref q667286), (1, .int p667288)]) dr_cX14_number_15 (Nat.le_of_ble_eq_true rfl) rfl ?_
    have hlp16_667810 : ∀ (n16_667810 : Nat) (F667804 : Nat → va_E) (gl667802 : Int64) (g667803 : Int32), gB g667803 0 8192 → rFr [q667286] P667284 F667285 F667804 → F667804 q667286 = .inr (19, [.ref q667287, .int p667289, .int g667803, .int p667291, .int p667292, .int p667293, .int p667294, .ref qo667295, .int p667296, .int p667297, .int p667298, .ref qo667299, .ref qo667300, .int p667301]) → F667804 q667287 = .inl (I .byte, 8192, .inl f667302) → p667290.toInt ≤ g667803.toInt → g667803.toInt ≤ p667289.toInt → (p667288.toInt = 0 ∨ p667290.toInt < g667803.toInt) → (∀ (k : Nat) (e1 : Int64) (e2 : Int32), tl_RReader_number_16_2 p667289 f667302 gl667802 g667803 k e1 e2 → tl_RReader_number_16_2 p667289 f667302 (0 : Int64) z667611 k e1 e2) → ((8193 : Int) - g667803.toInt).toNat < n16_667810 → G (gV D I) l (gRm 1 23 ((16 * (p667289.toInt - p667290.toInt)).toNat) ((160 * (p667289.toInt - p667290.toInt)).toNat)) (gMA (gV D I) (pp_667308_Reader_number D I P667284 F667285 q667286 q667287 p667288 p667289 p667290 p667291 p667292 p667293 p667294 qo667295 p667296 p667297 p667298 qo667299 qo667300 p667301 f667302) gNA ((16 * (p667289.toInt - p667290.toInt)).toNat) ((160 * (p667289.toInt - p667290.toInt)).toNat)) ky_667308_Reader_number 16 [(2, .long gl667802), (0, .ref q667286), (1, .int p667288)] [] (va_pl P667284 F667804) 0 0 := by
      intro n16_667810
      induction n16_667810 with
      | zero => intro F667804 gl667802 g667803 bg667803 hfr667807 he667805 he667806 x667808 x667809 x667810 kt16_667810 hm16_667810; exact absurd hm16_667810 (Nat.not_lt_zero _)
      | succ n16_667810 ih16_667810 =>
        intro F667804 gl667802 g667803 bg667803 hfr667807 he667805 he667806 x667808 x667809 x667810 kt16_667810 hm16_667810
        refine G_aload_n 1 dr_cX14_number_16 rfl ?_
        refine Gp_get 2 hmq667286 he667805 dr_cX14_number_17 (gk_X14 D I) (Nat.le_of_ble_eq_true rfl) wr_9_38 rfl ?_
        refine G_aload_n 1 dr_cX14_number_20 rfl ?_
        refine Gp_get 1 hmq667286 he667805 dr_cX14_number_21 (gk_X14 D I) (Nat.le_of_ble_eq_true rfl) wr_9_37 rfl ?_
        refine G_icmp_ge 82 dr_cX14_number_24 (by decide +kernel) (fun hc667811 => ?_) (fun hc667811 => ?_)
        · have r667812 : p667289.toInt ≤ g667803.toInt := gC_le hc667811
          have hx667813 : tl_RReader_number_16_2 p667289 f667302 (0 : Int64) z667611 82 gl667802 g667803 := kt16_667810 82 gl667802 g667803 (fun R c1 c2 c3 => c1 gl667802 g667803 bg667803 r667812)
          have x667814 : p667290.toInt < g667803.toInt := by first | omega | exact cDg_lt x667305 (by omega) (by assumption) (isP_0 (by assumption) (by omega)) (by omega)
          refine G_iload_n 2 dr_cX14_number_82 rfl ?_
          refine G_if_eq 89 dr_cX14_number_83 (by decide +kernel) (fun hc => absurd (show False by have := gj_eq hc (show Int32.toInt 0 = 0 by decide); omega) not_false) (fun _ => ?_)
          refine G_lload_n 0 dr_cX14_number_86 rfl ?_
          refine G_lneg dr_cX14_number_87 (G_namL fun u667815 hu667815 => ?_)
          refine G_lstore_n (L' := [(2, .long u667815), (0, .ref q667286), (1, .int p667288)]) dr_cX14_number_88 (Nat.le_of_ble_eq_true rfl) rfl ?_
          refine G_aload_n 1 dr_cX14_number_89 rfl ?_
          refine G_lload_n 0 dr_cX14_number_90 rfl ?_
          refine G_l2i dr_cX14_number_91 (G_nam fun z667816 hz667816 => ?_)
          have bz667816 : gB z667816 (-2147483648) 2147483647 := gB_any z667816
          refine Gp_put 5 hmq667286 he667805 dr_cX14_number_92 (gk_X14 D I) (Nat.le_of_ble_eq_true rfl) wr_9_41 rfl rfl rfl (Nat.le_of_ble_eq_true rfl) (fun F667817 e667818 n667819 => ?_)
          have he667820 : F667817 q667287 = .inl (I .byte, 8192, .inl f667302) := (n667819 q667287 (rn_ao he667806 he667805)).trans he667806
          have he667821 : F667817 q667286 = .inr (19, [.ref q667287, .int p667289, .int g667803, .int p667291, .int p667292, .int z667816, .int p667294, .ref qo667295, .int p667296, .int p667297, .int p667298, .ref qo667299, .ref qo667300, .int p667301]) := e667818
          have hfr667822 : rFr [q667286] P667284 F667285 F667817 := rFr_put' List.mem_cons_self hfr667807 n667819
          refine G_aload_n 1 dr_cX14_number_95 rfl ?_
          refine G_lload_n 0 dr_cX14_number_96 rfl ?_
          refine G_lload_n 0 dr_cX14_number_97 rfl ?_
          refine G_l2i dr_cX14_number_98 (G_nam fun z667823 hz667823 => ?_)
          have bz667823 : gB z667823 (-2147483648) 2147483647 := gB_any z667823
          refine G_i2l dr_cX14_number_99 (G_namL fun u667824 hu667824 => ?_)
          refine G_lcmp dr_cX14_number_100 (G_nam fun z667825 hz667825 => ?_)
          have bz667825 : gB z667825 (-1) 1 := gB_cmp hz667825
          refine G_if_ne 108 dr_cX14_number_101 (by decide +kernel) (fun hc667826 => ?_) (fun hc667826 => ?_)
          · have r667827 : z667825.toInt ≠ 0 := gj_neq hc667826 (show Int32.toInt 0 = 0 by decide)
            have lhc667826 := gC_cmpN hz667825 hc667826
            refine G_bipush 6 dr_cX14_number_108 (by decide +kernel) ?_
            refine Gp_put 3 hmq667286 he667821 dr_cX14_number_110 (gk_X14 D I) (Nat.le_of_ble_eq_true rfl) wr_9_39 rfl rfl rfl (Nat.le_of_ble_eq_true rfl) (fun F667828 e667829 n667830 => ?_)
            have he667831 : F667828 q667287 = .inl (I .byte, 8192, .inl f667302) := (n667830 q667287 (rn_ao he667820 he667821)).trans he667820
            have he667832 : F667828 q667286 = .inr (19, [.ref q667287, .int p667289, .int g667803, .int 6, .int p667292, .int z667816, .int p667294, .ref qo667295, .int p667296, .int p667297, .int p667298, .ref qo667299, .ref qo667300, .int p667301]) := e667829
            have hfr667833 : rFr [q667286] P667284 F667285 F667828 := rFr_put' List.mem_cons_self hfr667822 n667830
            exact G_vretA dr_cX14_number_113 rfl (show 0 ≤ ((16 * (p667289.toInt - p667290.toInt)).toNat) by omega) (show 0 ≤ ((160 * (p667289.toInt - p667290.toInt)).toNat) by omega) ⟨F667828, g667803, 6, z667816, (0, fun _ => 0), rfl, rfl, hfr667833, he667832, he667831, (by omega), (by omega), bg667803, (gB_w (gBl (show Int32.toInt 6 = 6 by decide)) (by decide) (by decide)), (by have qa0 : Int32.toInt 6 = 6 := (by decide); omega), (by have qa0 : Int32.toInt 6 = 6 := (by decide); omega), (tP_no (by decide) (by decide)), (vP_no (by decide) (by decide)), (fun R c1 c2 c3 c4 => c3 z667611 gl667802 g667803 u667815 z667816 z667823 u667824 r667610 ez667611 hx667813 hu667815 hz667816 hz667823 hu667824 lhc667826)⟩
          · have r667834 : z667825.toInt = 0 := gj_eq hc667826 (show Int32.toInt 0 = 0 by decide)
            have bz667825' : gB z667825 0 0 := ⟨by omega, by omega⟩
            have lhc667826 := gC_cmpE hz667825 hc667826
            refine G_iconst 4 dr_cX14_number_104 (by decide +kernel) ?_
            refine G_goto 110 dr_cX14_number_105 (by decide +kernel) ?_
            refine Gp_put 3 hmq667286 he667821 dr_cX14_number_110 (gk_X14 D I) (Nat.le_of_ble_eq_true rfl) wr_9_39 rfl rfl rfl (Nat.le_of_ble_eq_true rfl) (fun F667835 e667836 n667837 => ?_)
            have he667838 : F667835 q667287 = .inl (I .byte, 8192, .inl f667302) := (n667837 q667287 (rn_ao he667820 he667821)).trans he667820
            have he667839 : F667835 q667286 = .inr (19, [.ref q667287, .int p667289, .int g667803, .int 4, .int p667292, .int z667816, .int p667294, .ref qo667295, .int p667296, .int p667297, .int p667298, .ref qo667299, .ref qo667300, .int p667301]) := e667836
            have hfr667840 : rFr [q667286] P667284 F667285 F667835 := rFr_put' List.mem_cons_self hfr667822 n667837
            exact G_vretA dr_cX14_number_113 rfl (show 0 ≤ ((16 * (p667289.toInt - p667290.toInt)).toNat) by omega) (show 0 ≤ ((160 * (p667289.toInt - p667290.toInt)).toNat) by omega) ⟨F667835, g667803, 4, z667816, (0, fun _ => 0), rfl, rfl, hfr667840, he667839, he667838, (by omega), (by omega), bg667803, (gB_w (gBl (show Int32.toInt 4 = 4 by decide)) (by decide) (by decide)), (by have qa0 : Int32.toInt 4 = 4 := (by decide); omega), (by have qa0 : Int32.toInt 4 = 4 := (by decide); omega), (tP_no (by decide) (by decide)), (vP_no (by decide) (by decide)), (fun R c1 c2 c3 c4 => c4 z667611 gl667802 g667803 u667815 z667816 z667823 u667824 r667610 ez667611 hx667813 hu667815 hz667816 hz667823 hu667824 lhc667826)⟩
        · have r667841 : g667803.toInt < p667289.toInt := gC_nle hc667811
          have bg667803' : gB g667803 0 8191 := ⟨by omega, by omega⟩
          have bp667289' : gB p667289 1 8192 := ⟨by omega, by omega⟩
          refine G_aload_n 1 dr_cX14_number_27 rfl ?_
          refine Gp_get 0 hmq667286 he667805 dr_cX14_number_28 (gk_X14 D I) (Nat.le_of_ble_eq_true rfl) wr_9_36 rfl ?_
          refine G_aload_n 1 dr_cX14_number_31 rfl ?_
          refine Gp_get 2 hmq667286 he667805 dr_cX14_number_32 (gk_X14 D I) (Nat.le_of_ble_eq_true rfl) wr_9_38 rfl ?_
          refine Gp_bald 1 hmq667287 he667806 dr_cX14_number_35 rfl (gB_in bg667803' (by decide) (by decide)) (G_nam fun z667842 hz667842 => ?_)
          have bz667842 : gB z667842 (-128) 127 := by rw [hz667842]; exact bf667302 _
          refine Gw_callS (As := [.int z667842]) (gV_ok D I) (cp_667344_Reader_isDigit l hl0 D I P667284 F667804 z667842 ) dr_cX14_number_36 ⟨wr_7_219, wr_1_32, wr_7_221, by decide, rfl, (Nat.le_of_ble_eq_true rfl), (Nat.le_of_ble_eq_true rfl)⟩ wr_7_220 (show 0 + 0 ≤ ((16 * (p667289.toInt - p667290.toInt)).toNat) by first | omega | decide) (show 0 + 0 ≤ ((160 * (p667289.toInt - p667290.toInt)).toNat) by first | omega | decide) (Nat.le_of_ble_eq_true rfl) (fun r667846 w667847 dc667843 ds667844 hp667845 => ?_) (fun _ _ _ _ _ z => z.elim)
          obtain ⟨o667848, rfl, rfl, hdc, hds, bo667848, x667849, ht667850⟩ := hp667845
          change G _ _ _ _ _ _ _ (.int o667848 :: _) _ _ _
          refine G_widen (cs' := 0) (sl' := 0) (by omega) (by omega) ?_
          refine G_if_eq 82 dr_cX14_number_39 (by decide +kernel) (fun hc667851 => ?_) (fun hc667851 => ?_)
          · have r667852 : o667848.toInt = 0 := gj_eq hc667851 (show Int32.toInt 0 = 0 by decide)
            have bo667848' : gB o667848 0 0 := ⟨by omega, by omega⟩
            have hx667853 : tl_RReader_number_16_2 p667289 f667302 (0 : Int64) z667611 82 gl667802 g667803 := kt16_667810 82 gl667802 g667803 (fun R c1 c2 c3 => c2 gl667802 g667803 z667842 o667848 bg667803 r667841 hz667842 bz667842 bo667848 ht667850 r667852)
            have x667854 : p667290.toInt < g667803.toInt := by first | omega | exact cDg_lt x667305 (by omega) (by assumption) (isP_0 (by assumption) (by omega)) (by omega)
            refine G_iload_n 2 dr_cX14_number_82 rfl ?_
            refine G_if_eq 89 dr_cX14_number_83 (by decide +kernel) (fun hc => absurd (show False by have := gj_eq hc (show Int32.toInt 0 = 0 by decide); omega) not_false) (fun _ => ?_)
            refine G_lload_n 0 dr_cX14_number_86 rfl ?_
            refine G_lneg dr_cX14_number_87 (G_namL fun u667855 hu667855 => ?_)
            refine G_lstore_n (L' := [(2, .long u667855), (0, .ref q667286), (1, .int p667288)]) dr_cX14_number_88 (Nat.le_of_ble_eq_true rfl) rfl ?_
            refine G_aload_n 1 dr_cX14_number_89 rfl ?_
            refine G_lload_n 0 dr_cX14_number_90 rfl ?_
            refine G_l2i dr_cX14_number_91 (G_nam fun z667856 hz667856 => ?_)
            have bz667856 : gB z667856 (-2147483648) 2147483647 := gB_any z667856
            refine Gp_put 5 hmq667286 he667805 dr_cX14_number_92 (gk_X14 D I) (Nat.le_of_ble_eq_true rfl) wr_9_41 rfl rfl rfl (Nat.le_of_ble_eq_true rfl) (fun F667857 e667858 n667859 => ?_)
            have he667860 : F667857 q667287 = .inl (I .byte, 8192, .inl f667302) := (n667859 q667287 (rn_ao he667806 he667805)).trans he667806
            have he667861 : F667857 q667286 = .inr (19, [.ref q667287, .int p667289, .int g667803, .int p667291, .int p667292, .int z667856, .int p667294, .ref qo667295, .int p667296, .int p667297, .int p667298, .ref qo667299, .ref qo667300, .int p667301]) := e667858
            have hfr667862 : rFr [q667286] P667284 F667285 F667857 := rFr_put' List.mem_cons_self hfr667807 n667859
            refine G_aload_n 1 dr_cX14_number_95 rfl ?_
            refine G_lload_n 0 dr_cX14_number_96 rfl ?_
            refine G_lload_n 0 dr_cX14_number_97 rfl ?_
            refine G_l2i dr_cX14_number_98 (G_nam fun z667863 hz667863 => ?_)
            have bz667863 : gB z667863 (-2147483648) 2147483647 := gB_any z667863
            refine G_i2l dr_cX14_number_99 (G_namL fun u667864 hu667864 => ?_)
            refine G_lcmp dr_cX14_number_100 (G_nam fun z667865 hz667865 => ?_)
            have bz667865 : gB z667865 (-1) 1 := gB_cmp hz667865
            refine G_if_ne 108 dr_cX14_number_101 (by decide +kernel) (fun hc667866 => ?_) (fun hc667866 => ?_)
            · have r667867 : z667865.toInt ≠ 0 := gj_neq hc667866 (show Int32.toInt 0 = 0 by decide)
              have lhc667866 := gC_cmpN hz667865 hc667866
              refine G_bipush 6 dr_cX14_number_108 (by decide +kernel) ?_
              refine Gp_put 3 hmq667286 he667861 dr_cX14_number_110 (gk_X14 D I) (Nat.le_of_ble_eq_true rfl) wr_9_39 rfl rfl rfl (Nat.le_of_ble_eq_true rfl) (fun F667868 e667869 n667870 => ?_)
              have he667871 : F667868 q667287 = .inl (I .byte, 8192, .inl f667302) := (n667870 q667287 (rn_ao he667860 he667861)).trans he667860
              have he667872 : F667868 q667286 = .inr (19, [.ref q667287, .int p667289, .int g667803, .int 6, .int p667292, .int z667856, .int p667294, .ref qo667295, .int p667296, .int p667297, .int p667298, .ref qo667299, .ref qo667300, .int p667301]) := e667869
              have hfr667873 : rFr [q667286] P667284 F667285 F667868 := rFr_put' List.mem_cons_self hfr667862 n667870
              exact G_vretA dr_cX14_number_113 rfl (show 0 ≤ ((16 * (p667289.toInt - p667290.toInt)).toNat) by omega) (show 0 ≤ ((160 * (p667289.toInt - p667290.toInt)).toNat) by omega) ⟨F667868, g667803, 6, z667856, (0, fun _ => 0), rfl, rfl, hfr667873, he667872, he667871, (by omega), (by omega), (gB_w bg667803' (by decide) (by decide)), (gB_w (gBl (show Int32.toInt 6 = 6 by decide)) (by decide) (by decide)), (by have qa0 : Int32.toInt 6 = 6 := (by decide); omega), (by have qa0 : Int32.toInt 6 = 6 := (by decide); omega), (tP_no (by decide) (by decide)), (vP_no (by decide) (by decide)), (fun R c1 c2 c3 c4 => c3 z667611 gl667802 g667803 u667855 z667856 z667863 u667864 r667610 ez667611 hx667853 hu667855 hz667856 hz667863 hu667864 lhc667866)⟩
            · have r667874 : z667865.toInt = 0 := gj_eq hc667866 (show Int32.toInt 0 = 0 by decide)
              have bz667865' : gB z667865 0 0 := ⟨by omega, by omega⟩
              have lhc667866 := gC_cmpE hz667865 hc667866
              refine G_iconst 4 dr_cX14_number_104 (by decide +kernel) ?_
              refine G_goto 110 dr_cX14_number_105 (by decide +kernel) ?_
              refine Gp_put 3 hmq667286 he667861 dr_cX14_number_110 (gk_X14 D I) (Nat.le_of_ble_eq_true rfl) wr_9_39 rfl rfl rfl (Nat.le_of_ble_eq_true rfl) (fun F667875 e667876 n667877 => ?_)
              have he667878 : F667875 q667287 = .inl (I .byte, 8192, .inl f667302) := (n667877 q667287 (rn_ao he667860 he667861)).trans he667860
              have he667879 : F667875 q667286 = .inr (19, [.ref q667287, .int p667289, .int g667803, .int 4, .int p667292, .int z667856, .int p667294, .ref qo667295, .int p667296, .int p667297, .int p667298, .ref qo667299, .ref qo667300, .int p667301]) := e667876
              have hfr667880 : rFr [q667286] P667284 F667285 F667875 := rFr_put' List.mem_cons_self hfr667862 n667877
              exact G_vretA dr_cX14_number_113 rfl (show 0 ≤ ((16 * (p667289.toInt - p667290.toInt)).toNat) by omega) (show 0 ≤ ((160 * (p667289.toInt - p667290.toInt)).toNat) by omega) ⟨F667875, g667803, 4, z667856, (0, fun _ => 0), rfl, rfl, hfr667880, he667879, he667878, (by omega), (by omega), (gB_w bg667803' (by decide) (by decide)), (gB_w (gBl (show Int32.toInt 4 = 4 by decide)) (by decide) (by decide)), (by have qa0 : Int32.toInt 4 = 4 := (by decide); omega), (by have qa0 : Int32.toInt 4 = 4 := (by decide); omega), (tP_no (by decide) (by decide)), (vP_no (by decide) (by decide)), (fun R c1 c2 c3 c4 => c4 z667611 gl667802 g667803 u667855 z667856 z667863 u667864 r667610 ez667611 hx667853 hu667855 hz667856 hz667863 hu667864 lhc667866)⟩
          · have r667881 : o667848.toInt ≠ 0 := gj_neq hc667851 (show Int32.toInt 0 = 0 by decide)
            have bo667848' : gB o667848 1 1 := ⟨by omega, by omega⟩
            have bi667882 : gB z667842 48 57 := isP_1 x667849 (by omega)
            refine G_lload_n 0 dr_cX14_number_42 rfl ?_
            refine G_ldc2 10 dr_cX14_number_43 wr_7_229 ?_
            refine G_lmul dr_cX14_number_46 (G_namL fun u667883 hu667883 => ?_)
            refine G_aload_n 1 dr_cX14_number_47 rfl ?_
            refine Gp_get 0 hmq667286 he667805 dr_cX14_number_48 (gk_X14 D I) (Nat.le_of_ble_eq_true rfl) wr_9_36 rfl ?_
            refine G_aload_n 1 dr_cX14_number_51 rfl ?_
            refine Gp_get 2 hmq667286 he667805 dr_cX14_number_52 (gk_X14 D I) (Nat.le_of_ble_eq_true rfl) wr_9_38 rfl ?_
            refine Gp_bald 1 hmq667287 he667806 dr_cX14_number_55 rfl (gB_in bg667803' (by decide) (by decide)) (G_eqi (y := z667842) hz667842.symm ?_)
            refine G_i2l dr_cX14_number_56 (G_namL fun u667884 hu667884 => ?_)
            refine G_ladd dr_cX14_number_57 (G_namL fun u667885 hu667885 => ?_)
            refine G_ldc2 48 dr_cX14_number_58 wr_7_230 ?_
            refine G_lsub dr_cX14_number_61 (G_namL fun u667886 hu667886 => ?_)
            refine G_ldc2 1099511627776 dr_cX14_number_62 wr_8_222 ?_
            refine Gw_callS (As := [.long u667886, .long 1099511627776]) (gV_ok D I) (cp_667398_Math_min l hl0 D I P667284 F667804 u667886 1099511627776 ) dr_cX14_number_65 ⟨wr_7_232, wr_1_6, wr_3_40, by decide, rfl, (Nat.le_of_ble_eq_true rfl), (Nat.le_of_ble_eq_true rfl)⟩ wr_3_39 (show 0 + 0 ≤ ((16 * (p667289.toInt - p667290.toInt)).toNat) by first | omega | decide) (show 0 + 0 ≤ ((160 * (p667289.toInt - p667290.toInt)).toNat) by first | omega | decide) (Nat.le_of_ble_eq_true rfl) (fun r667890 w667891 dc667887 ds667888 hp667889 => ?_) (fun _ _ _ _ _ z => z.elim)
            obtain ⟨ol667892, rfl, rfl, hdc, hds, x667893, ht667894⟩ := hp667889
            change G _ _ _ _ _ _ _ (.long ol667892 :: _) _ _ _
            refine G_widen (cs' := 0) (sl' := 0) (by omega) (by omega) ?_
            refine G_lstore_n (L' := [(2, .long ol667892), (0, .ref q667286), (1, .int p667288)]) dr_cX14_number_68 (Nat.le_of_ble_eq_true rfl) rfl ?_
            refine G_aload_n 1 dr_cX14_number_69 rfl ?_
            refine G_dup dr_cX14_number_70 rfl ?_
            refine Gp_get 2 hmq667286 he667805 dr_cX14_number_71 (gk_X14 D I) (Nat.le_of_ble_eq_true rfl) wr_9_38 rfl ?_
            refine G_iconst 1 dr_cX14_number_74 (by decide +kernel) ?_
            refine G_iadd dr_cX14_number_75 (G_nam fun z667895 hz667895 => ?_)
            have ez667895 : z667895.toInt = g667803.toInt + 1 := by rw [gI_add hz667895 bg667803' (gBl (show Int32.toInt 1 = 1 by decide)) (by decide) (by decide), show Int32.toInt 1 = 1 from by decide]
            have bz667895 : gB z667895 1 8192 := gB_add (gI_add hz667895 bg667803' (gBl (show Int32.toInt 1 = 1 by decide)) (by decide) (by decide)) bg667803' (gBl (show Int32.toInt 1 = 1 by decide)) (by decide) (by decide)
            refine Gp_put 2 hmq667286 he667805 dr_cX14_number_76 (gk_X14 D I) (Nat.le_of_ble_eq_true rfl) wr_9_38 rfl rfl rfl (Nat.le_of_ble_eq_true rfl) (fun F667896 e667897 n667898 => ?_)
            have he667899 : F667896 q667287 = .inl (I .byte, 8192, .inl f667302) := (n667898 q667287 (rn_ao he667806 he667805)).trans he667806
            have he667900 : F667896 q667286 = .inr (19, [.ref q667287, .int p667289, .int z667895, .int p667291, .int p667292, .int p667293, .int p667294, .ref qo667295, .int p667296, .int p667297, .int p667298, .ref qo667299, .ref qo667300, .int p667301]) := e667897
            have hfr667901 : rFr [q667286] P667284 F667285 F667896 := rFr_put' List.mem_cons_self hfr667807 n667898
            refine G_goto 16 dr_cX14_number_79 (by decide +kernel) ?_
            exact ih16_667810 F667896 ol667892 z667895 (gB_w bz667895 (by decide) (by decide)) hfr667901 he667900 he667899 (by omega) (by omega) (by omega) (fun k e1 e2 ht => kt16_667810 k e1 e2 (fun R c1 c2 c3 => c3 gl667802 g667803 z667842 o667848 u667883 u667884 u667885 u667886 ol667892 z667895 k e1 e2 bg667803 r667841 hz667842 bz667842 bo667848 ht667850 r667881 hu667883 hu667884 hu667885 hu667886 ht667894 ez667895 (ht R c1 c2 c3))) (by omega)
    exact hlp16_667810 (((8193 : Int) - z667611.toInt).toNat + 1) F667612 0 z667611 ⟨by omega, by omega⟩ hfr667617 he667616 he667615 (by omega) (by omega) (by omega) (fun k e1 e2 ht => ht) (Nat.lt_succ_self _)
/- tr_RReader_symbol: a.0...at, a.0...kind -/
def tr_RReader_symbol (a1 : Int32) (a0_n : Int32) (a0_at : Int32) (a0_t_v : Nat → Int32) (o1 : Int32) (o2 : Int32) (o3 : gTx) : Prop := ∀ R : (Int32) → (Int32) → (gTx) → Prop,
  (∀ (x1 : Int32) (x2 : Int32), (((∃ (y1 : Int32), y1.toInt = a0_at.toInt + 1 ∧ a0_n.toInt ≤ y1.toInt) ∨ (∃ (y1 : Int32) (y2 : Int32), y1.toInt = a0_at.toInt + 1 ∧ y1.toInt < a0_n.toInt ∧ y2 = a0_t_v y1.toNatClampNeg ∧ gB y2 (-128) 127 ∧ y2.toInt ≤ 32) ∨ (∃ (y1 : Int32) (y2 : Int32), y1.toInt = a0_at.toInt + 1 ∧ y1.toInt < a0_n.toInt ∧ y2 = a0_t_v y1.toNatClampNeg ∧ gB y2 (-128) 127 ∧ 32 < y2.toInt ∧ a1.toInt ≤ 32))) → gB x1 0 65535 → tr_RString_length2 sb_32 x1 → a1.toInt ≤ 32 → x2.toInt = a0_at.toInt + 1 → R x2 (6 : Int32) (0, fun _ => 0)) →
  (∀ (x1 : Int32) (x2 : Int32) (x3 : Int32) (x4 : Int32) (x5 : Nat → Int32) (x6 : Int32) (x7 : Int32) (x8 : Nat → Int32) (x9 : Nat) (x10 : Nat → Int32) (x11 : Int32), (((∃ (y1 : Int32), y1.toInt = a0_at.toInt + 1 ∧ a0_n.toInt ≤ y1.toInt) ∨ (∃ (y1 : Int32) (y2 : Int32), y1.toInt = a0_at.toInt + 1 ∧ y1.toInt < a0_n.toInt ∧ y2 = a0_t_v y1.toNatClampNeg ∧ gB y2 (-128) 127 ∧ y2.toInt ≤ 32) ∨ (∃ (y1 : Int32) (y2 : Int32), y1.toInt = a0_at.toInt + 1 ∧ y1.toInt < a0_n.toInt ∧ y2 = a0_t_v y1.toNatClampNeg ∧ gB y2 (-128) 127 ∧ 32 < y2.toInt ∧ a1.toInt ≤ 32))) → gB x1 0 65535 → tr_RString_length2 sb_32 x1 → 32 < a1.toInt → x2 = (a1.toUInt32 % 65536).toInt32 → gB x3 (-1) 65534 → tr_RString_indexOf2 sb_37 x2 x3 → x3.toInt < 0 → gB x4 0 16777216 → (tr_RStringBuilder_append4 sb_32 (0 : Int32) (fun _ => 0) 16 x4 x5) → x6 = (a1.toUInt32 % 65536).toInt32 → gB x7 1 16777216 → tr_RStringBuilder_append x6 x4 x5 16 x7 x8 → tr_RStringBuilder_toString x7 x8 16 x9 x10 → x11.toInt = a0_at.toInt + 1 → R x11 (6 : Int32) (0, fun _ => 0)) →
  (∀ (x1 : Int32) (x2 : Int32) (x3 : Int32) (x4 : Int32) (x5 : Nat → Int32) (x6 : Int32) (x7 : Int32) (x8 : Nat → Int32) (x9 : Nat) (x10 : Nat → Int32) (x11 : Int32), (((∃ (y1 : Int32), y1.toInt = a0_at.toInt + 1 ∧ a0_n.toInt ≤ y1.toInt) ∨ (∃ (y1 : Int32) (y2 : Int32), y1.toInt = a0_at.toInt + 1 ∧ y1.toInt < a0_n.toInt ∧ y2 = a0_t_v y1.toNatClampNeg ∧ gB y2 (-128) 127 ∧ y2.toInt ≤ 32) ∨ (∃ (y1 : Int32) (y2 : Int32), y1.toInt = a0_at.toInt + 1 ∧ y1.toInt < a0_n.toInt ∧ y2 = a0_t_v y1.toNatClampNeg ∧ gB y2 (-128) 127 ∧ 32 < y2.toInt ∧ a1.toInt ≤ 32))) → gB x1 0 65535 → tr_RString_length2 sb_32 x1 → 32 < a1.toInt → x2 = (a1.toUInt32 % 65536).toInt32 → gB x3 (-1) 65534 → tr_RString_indexOf2 sb_37 x2 x3 → 0 ≤ x3.toInt → gB x4 0 16777216 → (tr_RStringBuilder_append4 sb_32 (0 : Int32) (fun _ => 0) 16 x4 x5) → x6 = (a1.toUInt32 % 65536).toInt32 → gB x7 1 16777216 → tr_RStringBuilder_append x6 x4 x5 16 x7 x8 → tr_RStringBuilder_toString x7 x8 16 x9 x10 → x11.toInt = a0_at.toInt + 1 → R x11 (5 : Int32) (x9, x10)) →
  (∀ (x1 : Int32) (x2 : Int32) (x3 : Int32) (x4 : Nat → Int32) (x5 : Int32) (x6 : Int32) (x7 : Nat → Int32) (x8 : Int32) (x9 : Int32) (x10 : Nat → Int32) (x11 : Nat) (x12 : Nat → Int32) (x13 : Int32) (x14 : Int32) (x15 : Nat → Int32) (x16 : Int32) (x17 : Nat → Int32) (x18 : Int32) (x19 : Nat → Int32) (x20 : Nat) (x21 : Nat → Int32) (x22 : Int32) (x23 : Int32) (x24 : Int32) (x25 : Int32) (x26 : Nat → Int32) (x27 : Int32) (x28 : Int32) (x29 : Nat → Int32) (x30 : Nat) (x31 : Nat → Int32), x1.toInt = a0_at.toInt + 1 → x1.toInt < a0_n.toInt → x2 = a0_t_v x1.toNatClampNeg → gB x2 (-128) 127 → 32 < x2.toInt → 32 < a1.toInt → gB x3 0 16777216 → (tr_RStringBuilder_append4 sb_32 (0 : Int32) (fun _ => 0) 16 x3 x4) → x5 = (a1.toUInt32 % 65536).toInt32 → gB x6 1 16777216 → tr_RStringBuilder_append x5 x3 x4 16 x6 x7 → x8 = (x2.toUInt32 % 65536).toInt32 → gB x9 1 16777216 → tr_RStringBuilder_append x8 x6 x7 16 x9 x10 → tr_RStringBuilder_toString x9 x10 16 x11 x12 → gB x13 0 16777216 → tr_RString_length x11 x13 → gB x14 0 16777216 → (tr_RStringBuilder_append4 sb_35 (0 : Int32) (fun _ => 0) 16 x14 x15) → gB x16 0 16777216 → tr_RStringBuilder_append3 x14 x15 16 x12 x11 x16 x17 → gB x18 0 16777216 → tr_RStringBuilder_append4 sb_35 x16 x17 16 x18 x19 → tr_RStringBuilder_toString x18 x19 16 x20 x21 → gB x22 (-2147483646) 16777215 → tr_RString_indexOf sb_36 x21 x20 x22 → x22.toInt < 0 → x23 = (a1.toUInt32 % 65536).toInt32 → gB x24 (-1) 65534 → tr_RString_indexOf2 sb_37 x23 x24 → x24.toInt < 0 → gB x25 0 16777216 → (tr_RStringBuilder_append4 sb_32 (0 : Int32) (fun _ => 0) 16 x25 x26) → x27 = (a1.toUInt32 % 65536).toInt32 → gB x28 1 16777216 → tr_RStringBuilder_append x27 x25 x26 16 x28 x29 → tr_RStringBuilder_toString x28 x29 16 x30 x31 → R x1 (6 : Int32) (0, fun _ => 0)) →
  (∀ (x1 : Int32) (x2 : Int32) (x3 : Int32) (x4 : Nat → Int32) (x5 : Int32) (x6 : Int32) (x7 : Nat → Int32) (x8 : Int32) (x9 : Int32) (x10 : Nat → Int32) (x11 : Nat) (x12 : Nat → Int32) (x13 : Int32) (x14 : Int32) (x15 : Nat → Int32) (x16 : Int32) (x17 : Nat → Int32) (x18 : Int32) (x19 : Nat → Int32) (x20 : Nat) (x21 : Nat → Int32) (x22 : Int32) (x23 : Int32) (x24 : Int32) (x25 : Int32) (x26 : Nat → Int32) (x27 : Int32) (x28 : Int32) (x29 : Nat → Int32) (x30 : Nat) (x31 : Nat → Int32), x1.toInt = a0_at.toInt + 1 → x1.toInt < a0_n.toInt → x2 = a0_t_v x1.toNatClampNeg → gB x2 (-128) 127 → 32 < x2.toInt → 32 < a1.toInt → gB x3 0 16777216 → (tr_RStringBuilder_append4 sb_32 (0 : Int32) (fun _ => 0) 16 x3 x4) → x5 = (a1.toUInt32 % 65536).toInt32 → gB x6 1 16777216 → tr_RStringBuilder_append x5 x3 x4 16 x6 x7 → x8 = (x2.toUInt32 % 65536).toInt32 → gB x9 1 16777216 → tr_RStringBuilder_append x8 x6 x7 16 x9 x10 → tr_RStringBuilder_toString x9 x10 16 x11 x12 → gB x13 0 16777216 → tr_RString_length x11 x13 → gB x14 0 16777216 → (tr_RStringBuilder_append4 sb_35 (0 : Int32) (fun _ => 0) 16 x14 x15) → gB x16 0 16777216 → tr_RStringBuilder_append3 x14 x15 16 x12 x11 x16 x17 → gB x18 0 16777216 → tr_RStringBuilder_append4 sb_35 x16 x17 16 x18 x19 → tr_RStringBuilder_toString x18 x19 16 x20 x21 → gB x22 (-2147483646) 16777215 → tr_RString_indexOf sb_36 x21 x20 x22 → x22.toInt < 0 → x23 = (a1.toUInt32 % 65536).toInt32 → gB x24 (-1) 65534 → tr_RString_indexOf2 sb_37 x23 x24 → 0 ≤ x24.toInt → gB x25 0 16777216 → (tr_RStringBuilder_append4 sb_32 (0 : Int32) (fun _ => 0) 16 x25 x26) → x27 = (a1.toUInt32 % 65536).toInt32 → gB x28 1 16777216 → tr_RStringBuilder_append x27 x25 x26 16 x28 x29 → tr_RStringBuilder_toString x28 x29 16 x30 x31 → R x1 (5 : Int32) (x30, x31)) →
  (∀ (x1 : Int32) (x2 : Int32) (x3 : Int32) (x4 : Nat → Int32) (x5 : Int32) (x6 : Int32) (x7 : Nat → Int32) (x8 : Int32) (x9 : Int32) (x10 : Nat → Int32) (x11 : Nat) (x12 : Nat → Int32) (x13 : Int32) (x14 : Int32) (x15 : Nat → Int32) (x16 : Int32) (x17 : Nat → Int32) (x18 : Int32) (x19 : Nat → Int32) (x20 : Nat) (x21 : Nat → Int32) (x22 : Int32) (x23 : Int32), x1.toInt = a0_at.toInt + 1 → x1.toInt < a0_n.toInt → x2 = a0_t_v x1.toNatClampNeg → gB x2 (-128) 127 → 32 < x2.toInt → 32 < a1.toInt → gB x3 0 16777216 → (tr_RStringBuilder_append4 sb_32 (0 : Int32) (fun _ => 0) 16 x3 x4) → x5 = (a1.toUInt32 % 65536).toInt32 → gB x6 1 16777216 → tr_RStringBuilder_append x5 x3 x4 16 x6 x7 → x8 = (x2.toUInt32 % 65536).toInt32 → gB x9 1 16777216 → tr_RStringBuilder_append x8 x6 x7 16 x9 x10 → tr_RStringBuilder_toString x9 x10 16 x11 x12 → gB x13 0 16777216 → tr_RString_length x11 x13 → gB x14 0 16777216 → (tr_RStringBuilder_append4 sb_35 (0 : Int32) (fun _ => 0) 16 x14 x15) → gB x16 0 16777216 → tr_RStringBuilder_append3 x14 x15 16 x12 x11 x16 x17 → gB x18 0 16777216 → tr_RStringBuilder_append4 sb_35 x16 x17 16 x18 x19 → tr_RStringBuilder_toString x18 x19 16 x20 x21 → gB x22 (-2147483646) 16777215 → tr_RString_indexOf sb_36 x21 x20 x22 → 0 ≤ x22.toInt → x23.toInt = a0_at.toInt + 2 → R x23 (5 : Int32) (x11, x12)) →
  R o1 o2 o3
abbrev ky_667931_Reader_symbol : gKey := (cX14_symbol, 4, "SpillForgeModel$Reader", none, [], "symbol", fun _ _ => True)
def pp_667931_Reader_symbol (D : va_G) (I : FieldType → ClassId) (P667908 : List Nat) (F667909 : Nat → va_E) (q667910 : Nat) (q667911 : Nat) (p667912 : Int32) (p667913 : Int32) (p667914 : Int32) (p667915 : Int32) (p667916 : Int32) (p667917 : Int32) (p667918 : Int32) (qo667919 : Nat) (p667920 : Int32) (p667921 : Int32) (p667922 : Int32) (qo667923 : Nat) (qo667924 : Nat) (p667925 : Int32) (f667926 : Nat → Int32) : Option Value → va_W → Nat → Nat → Prop := fun r w dc ds => ∃ (P668924 : List Nat) (F668925 : Nat → va_E) (o668921 : Int32) (o668922 : Int32) (q668923 : Nat) (xt668926 : gTx), r = none ∧ w = va_pl P668924 F668925 ∧ rSub P667908 P668924 ∧ rFr [q667910] P667908 F667909 F668925 ∧ F668925 q667910 = .inr (19, [.ref q667911, .int p667913, .int o668921, .int o668922, .int p667916, .int p667917, .int p667918, .ref q668923, .int p667920, .int p667921, .int p667922, .ref qo667923, .ref qo667924, .int p667925]) ∧ F668925 q667911 = .inl (I .byte, 8192, .inl f667926) ∧ dc ≤ (16 * (o668921.toInt - p667914.toInt)).toNat ∧ ds ≤ (160 * (o668921.toInt - p667914.toInt)).toNat ∧ gB o668921 1 8192 ∧ gB o668922 5 6 ∧ p667914.toInt < o668921.toInt ∧ o668921.toInt ≤ p667913.toInt ∧ tP I P668924 F668925 o668922 q668923 qo667924 qo667923 xt668926 ∧ vP o668922 p667917 ∧ tr_RReader_symbol p667912 p667913 p667914 f667926 o668921 o668922 xt668926
set_option maxRecDepth 100000 in
set_option maxHeartbeats 4000000 in
theorem cp_667931_Reader_symbol (l : Launch) (hl0 : l.stackTraces = false) (D : va_G) (I : FieldType → ClassId) (P667908 : List Nat) (F667909 : Nat → va_E) (q667910 : Nat) (q667911 : Nat) (p667912 : Int32) (p667913 : Int32) (p667914 : Int32) (p667915 : Int32) (p667916 : Int32) (p667917 : Int32) (p667918 : Int32) (qo667919 : Nat) (p667920 : Int32) (p667921 : Int32) (p667922 : Int32) (qo667923 : Nat) (qo667924 : Nat) (p667925 : Int32) (f667926 : Nat → Int32) (hmq667910 : q667910 ∈ P667908) (hmq667911 : q667911 ∈ P667908) (heq667910 : F667909 q667910 = .inr (19, [.ref q667911, .int p667913, .int p667914, .int p667915, .int p667916, .int p667917, .int p667918, .ref qo667919, .int p667920, .int p667921, .int p667922, .ref qo667923, .ref qo667924, .int p667925])) (heq667911 : F667909 q667911 = .inl (I .byte, 8192, .inl f667926)) (bp667912 : gB p667912 (-128) 127) (bp667913 : gB p667913 0 8192) (bp667914 : gB p667914 0 8192) (bp667915 : gB p667915 0 6) (bp667916 : gB p667916 0 8192) (bp667918 : gB p667918 0 6) (bp667920 : gB p667920 (-1) 8192) (bp667921 : gB p667921 0 4) (bp667922 : gB p667922 0 1000000) (bp667925 : gB p667925 0 1000000) (bf667926 : gF f667926 (-128) 127) (x667927 : p667914.toInt ≤ p667913.toInt) (x667928 : p667914.toInt < p667913.toInt) (x667929 : qo667924 ∈ P667908) (x667930 : qo667923 ∈ P667908) : CtA (gV D I) l yX14_symbol cX14_symbol 4 none 6 132 ((16 * (p667913.toInt - p667914.toInt)).toNat) ((160 * (p667913.toInt - p667914.toInt)).toNat) [.ref q667910, .int p667912] (va_pl P667908 F667909) (pp_667931_Reader_symbol D I P667908 F667909 q667910 q667911 p667912 p667913 p667914 p667915 p667916 p667917 p667918 qo667919 p667920 p667921 p667922 qo667923 qo667924 p667925 f667926) gNA := by
  refine CtA_of hl0 (by decide) (Nat.le_of_ble_eq_true rfl) ?_
  have bp667917 := gB_any p667917
  have hMC : 16 ≤ ((16 * (p667913.toInt - p667914.toInt)).toNat) := by omega
  have hMS : 160 ≤ ((160 * (p667913.toInt - p667914.toInt)).toNat) := by omega
  have jn667932 : ((∃ (y1 : Int32), y1.toInt = p667914.toInt + 1 ∧ p667913.toInt ≤ y1.toInt) ∨ (∃ (y1 : Int32) (y2 : Int32), y1.toInt = p667914.toInt + 1 ∧ y1.toInt < p667913.toInt ∧ y2 = f667926 y1.toNatClampNeg ∧ gB y2 (-128) 127 ∧ y2.toInt ≤ 32) ∨ (∃ (y1 : Int32) (y2 : Int32), y1.toInt = p667914.toInt + 1 ∧ y1.toInt < p667913.toInt ∧ y2 = f667926 y1.toNatClampNeg ∧ gB y2 (-128) 127 ∧ 32 < y2.toInt ∧ p667912.toInt ≤ 32)) → G (gV D I) l (gRm 6 132 ((16 * (p667913.toInt - p667914.toInt)).toNat) ((160 * (p667913.toInt - p667914.toInt)).toNat)) (gMA (gV D I) (pp_667931_Reader_symbol D I P667908 F667909 q667910 q667911 p667912 p667913 p667914 p667915 p667916 p667917 p667918 qo667919 p667920 p667921 p667922 qo667923 qo667924 p667925 f667926) gNA ((16 * (p667913.toInt - p667914.toInt)).toNat) ((160 * (p667913.toInt - p667914.toInt)).toNat)) ky_667931_Reader_symbol 73 [(0, .ref q667910), (1, .int p667912)] [] (va_pl P667908 F667909) 0 0 := by
    intro hJ667933
    refine G_ldcK (a := D.2 1000 32) dr_cX14_symbol_73 (fun _ _ _ h => gx_vk 32 rfl rfl h) ?_
    have hl32_667933 : (sb_32.length : Int) = 0 := rfl
    refine G_astore_n (L' := [(2, .ref (D.2 1000 32)), (0, .ref q667910), (1, .int p667912)]) dr_cX14_symbol_75 (Nat.le_of_ble_eq_true rfl) rfl ?_
    refine G_aload_n 0 dr_cX14_symbol_76 rfl ?_
    refine Gw_callVk (As := []) (gV_ok D I) (cp_658506_String_length l hl0 D I P667908 F667909 (D.2 1000 32) (D.2 1001 32) sb_32 (gx_sc 32 rfl rfl) (by omega) (by decide +kernel)) dr_cX14_symbol_77 ⟨wr_8_227, wr_1_21, wr_3_60, by decide, rfl, (Nat.le_of_ble_eq_true rfl), (Nat.le_of_ble_eq_true rfl)⟩ wr_3_58 wr_3_59 (fun _ _ _ h => ((gx_sc 32 rfl rfl) _ _ _ h).1) (Nat.le_trans (show 0 + 0 ≤ 16 by decide) hMC) (Nat.le_trans (show 0 + 0 ≤ 160 by decide) hMS) (Nat.le_of_ble_eq_true rfl) (fun r667938 w667939 dc667935 ds667936 hp667937 => ?_) (fun _ _ _ _ _ z => z.elim)
    obtain ⟨o667940, rfl, rfl, hdc, hds, bo667940, x667941, ht667942⟩ := hp667937
    have bo667940' : gB o667940 0 0 := ⟨by omega, by omega⟩
    change G _ _ _ _ _ _ _ (.int o667940 :: _) _ _ _
    refine G_widen (cs' := 0) (sl' := 0) (Nat.add_le_add_left hdc 0) (Nat.add_le_add_left hds 0) ?_
    refine G_iconst 2 dr_cX14_symbol_80 (by decide +kernel) ?_
    refine G_icmp_ne 120 dr_cX14_symbol_81 (by decide +kernel) (fun _ => ?_) (fun hc => absurd (show False by have := gj_eq hc (show Int32.toInt 2 = 2 by decide); omega) not_false)
    refine G_iconst 0 dr_cX14_symbol_120 (by decide +kernel) ?_
    refine G_istore_n (L' := [(3, .int 0), (2, .ref (D.2 1000 32)), (0, .ref q667910), (1, .int p667912)]) dr_cX14_symbol_121 (Nat.le_of_ble_eq_true rfl) rfl ?_
    clear bo667940'; try clear r667938; try clear w667939; try clear dc667935; try clear ds667936; try clear hp667937; try clear x667941
    refine G_aload_n 2 dr_cX14_symbol_122 rfl ?_
    refine G_iload_n 0 dr_cX14_symbol_123 rfl ?_
    refine G_if_ne 143 dr_cX14_symbol_124 (by decide +kernel) (fun hc => absurd hc (by decide)) (fun _ => ?_)
    refine G_iload_n 3 dr_cX14_symbol_127 rfl ?_
    refine G_bipush 32 dr_cX14_symbol_128 (by decide +kernel) ?_
    refine G_icmp_le 147 dr_cX14_symbol_130 (by decide +kernel) (fun hc667943 => ?_) (fun hc667943 => ?_)
    · have r667944 : p667912.toInt ≤ 32 := gj_le hc667943 (show Int32.toInt 32 = 32 by decide)
      have bp667912' : gB p667912 (-128) 32 := ⟨by omega, by omega⟩
      refine G_bipush 6 dr_cX14_symbol_147 (by decide +kernel) ?_
      refine Gp_put 3 hmq667910 heq667910 dr_cX14_symbol_149 (gk_X14 D I) (Nat.le_of_ble_eq_true rfl) wr_9_39 rfl rfl rfl (Nat.le_of_ble_eq_true rfl) (fun F667945 e667946 n667947 => ?_)
      have he667948 : F667945 q667911 = .inl (I .byte, 8192, .inl f667926) := (n667947 q667911 (rn_ao heq667911 heq667910)).trans heq667911
      have he667949 : F667945 q667910 = .inr (19, [.ref q667911, .int p667913, .int p667914, .int 6, .int p667916, .int p667917, .int p667918, .ref qo667919, .int p667920, .int p667921, .int p667922, .ref qo667923, .ref qo667924, .int p667925]) := e667946
      have hfr667950 : rFr [q667910] P667908 F667909 F667945 := rFr_put (rFr_rf (W := []) (P := P667908) (F := F667909)) n667947
      refine G_aload_n 2 dr_cX14_symbol_152 rfl ?_
      refine G_iload_n 0 dr_cX14_symbol_153 rfl ?_
      refine G_if_eq 161 dr_cX14_symbol_154 (by decide +kernel) (fun _ => ?_) (fun hc => absurd hc (by decide))
      refine G_iload_n 3 dr_cX14_symbol_161 rfl ?_
      refine G_bipush 32 dr_cX14_symbol_162 (by decide +kernel) ?_
      refine G_icmp_le 190 dr_cX14_symbol_164 (by decide +kernel) (fun _ => ?_) (fun hc => absurd (show False by have := gj_nle hc (show Int32.toInt 32 = 32 by decide); omega) not_false)
      refine G_ldcK (a := D.2 1000 32) dr_cX14_symbol_190 (fun _ _ _ h => gx_vk 32 rfl rfl h) ?_
      have hl32_667950 : (sb_32.length : Int) = 0 := rfl
      refine Gp_put 7 hmq667910 he667949 dr_cX14_symbol_192 (gk_X14 D I) (Nat.le_of_ble_eq_true rfl) wr_9_43 rfl rfl rfl (Nat.le_of_ble_eq_true rfl) (fun F667952 e667953 n667954 => ?_)
      have he667955 : F667952 q667911 = .inl (I .byte, 8192, .inl f667926) := (n667954 q667911 (rn_ao he667948 he667949)).trans he667948
      have he667956 : F667952 q667910 = .inr (19, [.ref q667911, .int p667913, .int p667914, .int 6, .int p667916, .int p667917, .int p667918, .ref (D.2 1000 32), .int p667920, .int p667921, .int p667922, .ref qo667923, .ref qo667924, .int p667925]) := e667953
      have hfr667957 : rFr [q667910] P667908 F667909 F667952 := rFr_put' List.mem_cons_self hfr667950 n667954
      clear he667948 he667949 hfr667950
      refine G_aload_n 2 dr_cX14_symbol_195 rfl ?_
      refine G_dup dr_cX14_symbol_196 rfl ?_
      refine Gp_get 2 hmq667910 he667956 dr_cX14_symbol_197 (gk_X14 D I) (Nat.le_of_ble_eq_true rfl) wr_9_38 rfl ?_
      refine G_iload_n 0 dr_cX14_symbol_200 rfl ?_
      refine G_if_eq 208 dr_cX14_symbol_201 (by decide +kernel) (fun _ => ?_) (fun hc => absurd hc (by decide))
      refine G_iconst 1 dr_cX14_symbol_208 (by decide +kernel) ?_
      refine G_iadd dr_cX14_symbol_209 (G_nam fun z667958 hz667958 => ?_)
      have ez667958 : z667958.toInt = p667914.toInt + 1 := by rw [gI_add hz667958 bp667914 (gBl (show Int32.toInt 1 = 1 by decide)) (by decide) (by decide), show Int32.toInt 1 = 1 from by decide]
      have bz667958 : gB z667958 1 8193 := gB_add (gI_add hz667958 bp667914 (gBl (show Int32.toInt 1 = 1 by decide)) (by decide) (by decide)) bp667914 (gBl (show Int32.toInt 1 = 1 by decide)) (by decide) (by decide)
      refine Gp_put 2 hmq667910 he667956 dr_cX14_symbol_210 (gk_X14 D I) (Nat.le_of_ble_eq_true rfl) wr_9_38 rfl rfl rfl (Nat.le_of_ble_eq_true rfl) (fun F667959 e667960 n667961 => ?_)
      have he667962 : F667959 q667911 = .inl (I .byte, 8192, .inl f667926) := (n667961 q667911 (rn_ao he667955 he667956)).trans he667955
      have he667963 : F667959 q667910 = .inr (19, [.ref q667911, .int p667913, .int z667958, .int 6, .int p667916, .int p667917, .int p667918, .ref (D.2 1000 32), .int p667920, .int p667921, .int p667922, .ref qo667923, .ref qo667924, .int p667925]) := e667960
      have hfr667964 : rFr [q667910] P667908 F667909 F667959 := rFr_put' List.mem_cons_self hfr667957 n667961
      exact G_vretA dr_cX14_symbol_213 rfl (show 0 ≤ ((16 * (p667913.toInt - p667914.toInt)).toNat) by omega) (show 0 ≤ ((160 * (p667913.toInt - p667914.toInt)).toNat) by omega) ⟨P667908, F667959, z667958, 6, (D.2 1000 32), (0, fun _ => 0), rfl, rfl, (rSub_rf (P := P667908)), hfr667964, he667963, he667962, (by omega), (by omega), ⟨by omega, by omega⟩, (gB_w (gBl (show Int32.toInt 6 = 6 by decide)) (by decide) (by decide)), (by have qa0 : Int32.toInt 0 = 0 := (by decide); have qa1 : Int32.toInt 6 = 6 := (by decide); omega), (by have qa0 : Int32.toInt 0 = 0 := (by decide); have qa1 : Int32.toInt 6 = 6 := (by decide); omega), (tP_no (by decide) (by decide)), (vP_no (by decide) (by decide)), (fun R c1 c2 c3 c4 c5 c6 => c1 o667940 z667958 hJ667933 bo667940 ht667942 r667944 ez667958)⟩
    · have r667965 : 32 < p667912.toInt := gj_nle hc667943 (show Int32.toInt 32 = 32 by decide)
      have bp667912' : gB p667912 33 127 := ⟨by omega, by omega⟩
      refine G_ldcK (a := D.2 1000 37) dr_cX14_symbol_133 (fun _ _ _ h => gx_vk 37 rfl rfl h) ?_
      have hl37_667965 : (sb_37.length : Int) = 14 := rfl
      refine G_iload_n 3 dr_cX14_symbol_135 rfl ?_
      refine G_i2c dr_cX14_symbol_136 (G_nam fun z667967 hz667967 => ?_)
      have ez667967 : z667967.toInt = p667912.toInt := gI_i2c hz667967 (by omega) (by omega)
      have bz667967 : gB z667967 33 127 := ⟨by omega, by omega⟩
      refine Gw_callVk (As := [.int z667967]) (gV_ok D I) (cp_666493_String_indexOf l hl0 D I P667908 F667909 (D.2 1000 37) (D.2 1001 37) sb_37 z667967 (gx_sc 37 rfl rfl) (by omega) (by decide +kernel) (gB_w bz667967 (by decide) (by decide))) dr_cX14_symbol_137 ⟨wr_8_230, wr_1_21, wr_8_233, by decide, rfl, (Nat.le_of_ble_eq_true rfl), (Nat.le_of_ble_eq_true rfl)⟩ wr_8_231 wr_8_232 (fun _ _ _ h => ((gx_sc 37 rfl rfl) _ _ _ h).1) (Nat.le_trans (show 0 + 0 ≤ 16 by decide) hMC) (Nat.le_trans (show 0 + 0 ≤ 160 by decide) hMS) (Nat.le_of_ble_eq_true rfl) (fun r667971 w667972 dc667968 ds667969 hp667970 => ?_) (fun _ _ _ _ _ z => z.elim)
      obtain ⟨o667973, rfl, rfl, hdc, hds, bo667973, ht667974⟩ := hp667970
      change G _ _ _ _ _ _ _ (.int o667973 :: _) _ _ _
      refine G_widen (cs' := 0) (sl' := 0) (Nat.add_le_add_left hdc 0) (Nat.add_le_add_left hds 0) ?_
      refine G_if_lt 147 dr_cX14_symbol_140 (by decide +kernel) (fun hc667975 => ?_) (fun hc667975 => ?_)
      · have r667976 : o667973.toInt < 0 := gj_lt hc667975 (show Int32.toInt 0 = 0 by decide)
        have bo667973' : gB o667973 (-1) (-1) := ⟨by omega, by omega⟩
        refine G_bipush 6 dr_cX14_symbol_147 (by decide +kernel) ?_
        refine Gp_put 3 hmq667910 heq667910 dr_cX14_symbol_149 (gk_X14 D I) (Nat.le_of_ble_eq_true rfl) wr_9_39 rfl rfl rfl (Nat.le_of_ble_eq_true rfl) (fun F667977 e667978 n667979 => ?_)
        have he667980 : F667977 q667911 = .inl (I .byte, 8192, .inl f667926) := (n667979 q667911 (rn_ao heq667911 heq667910)).trans heq667911
        have he667981 : F667977 q667910 = .inr (19, [.ref q667911, .int p667913, .int p667914, .int 6, .int p667916, .int p667917, .int p667918, .ref qo667919, .int p667920, .int p667921, .int p667922, .ref qo667923, .ref qo667924, .int p667925]) := e667978
        have hfr667982 : rFr [q667910] P667908 F667909 F667977 := rFr_put (rFr_rf (W := []) (P := P667908) (F := F667909)) n667979
        clear ez667967 bz667967 bo667973'; try clear r667971; try clear w667972; try clear dc667968; try clear ds667969; try clear hp667970
        refine G_aload_n 2 dr_cX14_symbol_152 rfl ?_
        refine G_iload_n 0 dr_cX14_symbol_153 rfl ?_
        refine G_if_eq 161 dr_cX14_symbol_154 (by decide +kernel) (fun _ => ?_) (fun hc => absurd hc (by decide))
        refine G_iload_n 3 dr_cX14_symbol_161 rfl ?_
        refine G_bipush 32 dr_cX14_symbol_162 (by decide +kernel) ?_
        refine G_icmp_le 190 dr_cX14_symbol_164 (by decide +kernel) (fun hc => absurd (show False by have := gj_le hc (show Int32.toInt 32 = 32 by decide); omega) not_false) (fun _ => ?_)
        refine G_new [.null, .int 0, .int 0, .int 0] dr_cX14_symbol_167 (gk_J4 D I) wr_7_235 wr_7_44 wr_1_20 (gfs_J4) (Nat.le_trans (show 0 + 1 ≤ 16 by decide) hMC) (Nat.le_trans (show 0 + 4 ≤ 160 by decide) hMS) (fun q667983 => Gp_in (fun P667984 F667985 hq667986 hP667987 e667988 n667989 => ?_))
        refine G_widen (cs' := 1) (sl' := 4) (by omega) (by omega) ?_
        have he667990 : F667985 q667910 = .inr (19, [.ref q667911, .int p667913, .int p667914, .int 6, .int p667916, .int p667917, .int p667918, .ref qo667919, .int p667920, .int p667921, .int p667922, .ref qo667923, .ref qo667924, .int p667925]) := (n667989 q667910 (fun h => hq667986 (h ▸ hmq667910))).trans he667981
        have he667991 : F667985 q667911 = .inl (I .byte, 8192, .inl f667926) := (n667989 q667911 (fun h => hq667986 (h ▸ hmq667911))).trans he667980
        have he667992 : F667985 q667983 = .inr (1, [.null, .int 0, .int 0, .int 0]) := e667988
        have hm667993 : q667910 ∈ P667984 := (hP667987 q667910).mpr (Or.inl hmq667910)
        have hm667994 : q667911 ∈ P667984 := (hP667987 q667911).mpr (Or.inl hmq667911)
        have hm667995 : q667983 ∈ P667984 := (hP667987 q667983).mpr (Or.inr rfl)
        have hq667996 : q667983 ∉ P667908 := fun z => hq667986 ((rSub_rf (P := P667908)) q667983 z)
        have hfr667997 : rFr [q667910] P667908 F667909 F667985 := rFr_new (rSub_rf (P := P667908)) hq667986 hfr667982 n667989
        have hsb667998 : rSub P667908 P667984 := rSub_new (rSub_rf (P := P667908)) hP667987
        refine G_dup dr_cX14_symbol_170 rfl ?_
        refine Gw_callI (As := []) (gV_ok D I) (cp_658184_StringBuilder_init l hl0 D I P667984 F667985 q667983 0 0 hm667995 he667992 (gB_w (gBl (show Int32.toInt 0 = 0 by decide)) (by decide) (by decide)) (gB_w (gBl (show Int32.toInt 0 = 0 by decide)) (by decide) (by decide))) dr_cX14_symbol_171 ⟨wr_7_236, wr_1_20, wr_7_47, by decide, rfl, (Nat.le_of_ble_eq_true rfl), (Nat.le_of_ble_eq_true rfl)⟩ wr_7_46 rfl (Nat.le_trans (show 1 + 1 ≤ 16 by decide) hMC) (Nat.le_trans (show 4 + 16 ≤ 160 by decide) hMS) (Nat.le_of_ble_eq_true rfl) (fun r668002 w668003 dc667999 ds668000 hp668001 => ?_)
        obtain ⟨P668005, F668006, q668004, rfl, rfl, hsb668007, hfr668008, he668009, he668010, hm668011, hq668012, hdc, hds⟩ := hp668001
        have hm668013 : q667910 ∈ P668005 := hsb668007 q667910 hm667993
        have hm668014 : q667911 ∈ P668005 := hsb668007 q667911 hm667994
        have hm668015 : q667983 ∈ P668005 := hsb668007 q667983 hm667995
        have hq668016 : q668004 ∉ P667908 := fun z => hq668012 (hsb667998 q668004 z)
        have hsb668017 : rSub P667908 P668005 := rSub_tr hsb667998 hsb668007
        have he668018 : F668006 q667910 = .inr (19, [.ref q667911, .int p667913, .int p667914, .int 6, .int p667916, .int p667917, .int p667918, .ref qo667919, .int p667920, .int p667921, .int p667922, .ref qo667923, .ref qo667924, .int p667925]) := (hfr668008 q667910 hm667993 (nm_c (fun h => hq667996 (h ▸ hmq667910)) nm_n)).trans he667990
        have he668019 : F668006 q667911 = .inl (I .byte, 8192, .inl f667926) := (hfr668008 q667911 hm667994 (nm_c (fun h => hq667996 (h ▸ hmq667911)) nm_n)).trans he667991
        have hfr668020 : rFr [q667910] P667908 F667909 F668006 := rFr_call hsb667998 hfr667997 hfr668008 (fun b hb hn => ⟨(nm_c (fun e => hn (e ▸ List.mem_cons_self)) nm_n), (nm_c (fun e => hq667996 (e ▸ hb)) nm_n)⟩)
        change G _ _ _ _ _ _ _ _ _ _ _
        refine G_widen (cs' := 2) (sl' := 20) (Nat.add_le_add_left hdc 1) (Nat.add_le_add_left hds 4) ?_
        refine G_ldcK (a := D.2 1000 32) dr_cX14_symbol_174 (fun _ _ _ h => gx_vk 32 rfl rfl h) ?_
        have hl32_668020 : (sb_32.length : Int) = 0 := rfl
        refine Gw_callV (As := [.ref (D.2 1000 32)]) (gV_ok D I) (cp_658486_StringBuilder_append l hl0 D I P668005 F668006 q667983 q668004 (D.2 1000 32) (D.2 1001 32) sb_32 0 0 (fun _ => 0) 16 hm668015 hm668011 he668009 he668010 (gx_sc 32 rfl rfl) (by omega) (by decide +kernel) (gB_w (gBl (show Int32.toInt 0 = 0 by decide)) (by decide) (by decide)) (gB_w (gBl (show Int32.toInt 0 = 0 by decide)) (by decide) (by decide)) (gF_w gF_0 (by decide) (by decide)) (by have qa0 : Int32.toInt 0 = 0 := (by decide); have qa1 : Int32.toInt 6 = 6 := (by decide); omega) (by have qa0 : Int32.toInt 0 = 0 := (by decide); have qa1 : Int32.toInt 6 = 6 := (by decide); omega)) dr_cX14_symbol_176 ⟨wr_8_195, wr_1_20, wr_8_143, by decide, rfl, (Nat.le_of_ble_eq_true rfl), (Nat.le_of_ble_eq_true rfl)⟩ wr_8_141 wr_8_142 hm668015 he668009 rfl (Nat.le_trans (show 2 + 0 ≤ 16 by decide) hMC) (Nat.le_trans (show 20 + 0 ≤ 160 by decide) hMS) (Nat.le_of_ble_eq_true rfl) (fun r668025 w668026 dc668022 ds668023 hp668024 => ?_) (fun _ _ _ _ _ z => z.elim)
        obtain ⟨F668033, o668027, f668028, rfl, rfl, hfr668035, he668036, he668037, hdc, hds, bo668027, bf668028, x668029, x668030, x668031, ht668032⟩ := hp668024
        have he668038 : F668033 q667910 = .inr (19, [.ref q667911, .int p667913, .int p667914, .int 6, .int p667916, .int p667917, .int p667918, .ref qo667919, .int p667920, .int p667921, .int p667922, .ref qo667923, .ref qo667924, .int p667925]) := (hfr668035 q667910 hm668013 (nm_c (fun h => hq667996 (h ▸ hmq667910)) (nm_c (fun h => hq668016 (h ▸ hmq667910)) nm_n))).trans he668018
        have he668039 : F668033 q667911 = .inl (I .byte, 8192, .inl f667926) := (hfr668035 q667911 hm668014 (nm_c (fun h => hq667996 (h ▸ hmq667911)) (nm_c (fun h => hq668016 (h ▸ hmq667911)) nm_n))).trans he668019
        have hfr668040 : rFr [q667910] P667908 F667909 F668033 := rFr_call hsb668017 hfr668020 hfr668035 (fun b hb hn => ⟨(nm_c (fun e => hn (e ▸ List.mem_cons_self)) nm_n), (nm_c (fun e => hq667996 (e ▸ hb)) (nm_c (fun e => hq668016 (e ▸ hb)) nm_n))⟩)
        rw [show Int32.toInt 0 = 0 from by decide] at x668029
        have bo668027' : gB o668027 0 0 := ⟨by omega, by omega⟩
        rw [show Int32.toInt 0 = 0 from by decide] at x668030
        rw [show Int32.toInt 0 = 0 from by decide] at x668031
        change G _ _ _ _ _ _ _ (.ref q667983 :: _) _ _ _
        refine G_widen (cs' := 2) (sl' := 20) (Nat.add_le_add_left hdc 2) (Nat.add_le_add_left hds 20) ?_
        refine G_iload_n 3 dr_cX14_symbol_179 rfl ?_
        refine G_i2c dr_cX14_symbol_180 (G_nam fun z668041 hz668041 => ?_)
        have ez668041 : z668041.toInt = p667912.toInt := gI_i2c hz668041 (by omega) (by omega)
        have bz668041 : gB z668041 33 127 := ⟨by omega, by omega⟩
        refine Gw_callV (As := [.int z668041]) (gV_ok D I) (cp_657745_StringBuilder_append l hl0 D I P668005 F668033 q667983 q668004 z668041 0 o668027 f668028 16 hm668015 hm668011 he668036 he668037 (gB_w bz668041 (by decide) (by decide)) (gB_w (gBl (show Int32.toInt 0 = 0 by decide)) (by decide) (by decide)) (gB_w bo668027' (by decide) (by decide)) bf668028 (by have qa0 : Int32.toInt 0 = 0 := (by decide); have qa1 : Int32.toInt 6 = 6 := (by decide); omega) (by have qa0 : Int32.toInt 0 = 0 := (by decide); have qa1 : Int32.toInt 6 = 6 := (by decide); omega)) dr_cX14_symbol_181 ⟨wr_7_237, wr_1_20, wr_8_0, by decide, rfl, (Nat.le_of_ble_eq_true rfl), (Nat.le_of_ble_eq_true rfl)⟩ wr_7_238 wr_7_239 hm668015 he668036 rfl (Nat.le_trans (show 2 + 0 ≤ 16 by decide) hMC) (Nat.le_trans (show 20 + 0 ≤ 160 by decide) hMS) (Nat.le_of_ble_eq_true rfl) (fun r668045 w668046 dc668042 ds668043 hp668044 => ?_) (fun _ _ _ _ _ z => z.elim)
        obtain ⟨F668051, o668047, f668048, rfl, rfl, hfr668053, he668054, he668055, hdc, hds, bo668047, bf668048, x668049, ht668050⟩ := hp668044
        have he668056 : F668051 q667910 = .inr (19, [.ref q667911, .int p667913, .int p667914, .int 6, .int p667916, .int p667917, .int p667918, .ref qo667919, .int p667920, .int p667921, .int p667922, .ref qo667923, .ref qo667924, .int p667925]) := (hfr668053 q667910 hm668013 (nm_c (fun h => hq668016 (h ▸ hmq667910)) (nm_c (fun h => hq667996 (h ▸ hmq667910)) nm_n))).trans he668038
        have he668057 : F668051 q667911 = .inl (I .byte, 8192, .inl f667926) := (hfr668053 q667911 hm668014 (nm_c (fun h => hq668016 (h ▸ hmq667911)) (nm_c (fun h => hq667996 (h ▸ hmq667911)) nm_n))).trans he668039
        have hfr668058 : rFr [q667910] P667908 F667909 F668051 := rFr_call hsb668017 hfr668040 hfr668053 (fun b hb hn => ⟨(nm_c (fun e => hn (e ▸ List.mem_cons_self)) nm_n), (nm_c (fun e => hq668016 (e ▸ hb)) (nm_c (fun e => hq667996 (e ▸ hb)) nm_n))⟩)
        have bo668047' : gB o668047 1 1 := ⟨by omega, by omega⟩
        change G _ _ _ _ _ _ _ (.ref q667983 :: _) _ _ _
        refine G_widen (cs' := 2) (sl' := 20) (Nat.add_le_add_left hdc 2) (Nat.add_le_add_left hds 20) ?_
        refine Gw_callV (As := []) (gV_ok D I) (cp_658959_StringBuilder_toString l hl0 D I P668005 F668051 q667983 q668004 0 o668047 f668048 16 hm668015 hm668011 he668054 he668055 (gB_w (gBl (show Int32.toInt 0 = 0 by decide)) (by decide) (by decide)) (gB_w bo668047' (by decide) (by decide)) bf668048 (by have qa0 : Int32.toInt 0 = 0 := (by decide); have qa1 : Int32.toInt 6 = 6 := (by decide); omega) (by have qa0 : Int32.toInt 0 = 0 := (by decide); have qa1 : Int32.toInt 6 = 6 := (by decide); omega)) dr_cX14_symbol_184 ⟨wr_8_66, wr_1_20, wr_8_69, by decide, rfl, (Nat.le_of_ble_eq_true rfl), (Nat.le_of_ble_eq_true rfl)⟩ wr_8_67 wr_8_68 hm668015 he668054 rfl (Nat.le_trans (show 2 + 2 ≤ 16 by decide) hMC) (show 20 + (o668047.toInt.toNat + 4) ≤ ((160 * (p667913.toInt - p667914.toInt)).toNat) by first | omega | decide) (Nat.le_of_ble_eq_true rfl) (fun r668062 w668063 dc668059 ds668060 hp668061 => ?_) (fun _ _ _ _ _ z => z.elim)
        obtain ⟨P668071, F668072, q668064, q668065, n668066, f668067, rfl, rfl, hsb668073, hfr668074, he668075, he668076, he668077, he668078, hm668079, hq668080, hm668081, hq668082, hdc, hds, bf668067, x668068, x668069, ht668070⟩ := hp668061
        have hm668083 : q667910 ∈ P668071 := hsb668073 q667910 hm668013
        have hm668084 : q667911 ∈ P668071 := hsb668073 q667911 hm668014
        have hm668085 : q667983 ∈ P668071 := hsb668073 q667983 hm668015
        have hm668086 : q668004 ∈ P668071 := hsb668073 q668004 hm668011
        have hq668087 : q668064 ∉ P667908 := fun z => hq668080 (hsb668017 q668064 z)
        have hq668088 : q668065 ∉ P667908 := fun z => hq668082 (hsb668017 q668065 z)
        have hsb668089 : rSub P667908 P668071 := rSub_tr hsb668017 hsb668073
        have he668090 : F668072 q667910 = .inr (19, [.ref q667911, .int p667913, .int p667914, .int 6, .int p667916, .int p667917, .int p667918, .ref qo667919, .int p667920, .int p667921, .int p667922, .ref qo667923, .ref qo667924, .int p667925]) := (hfr668074 q667910 hm668013 nm_n).trans he668056
        have he668091 : F668072 q667911 = .inl (I .byte, 8192, .inl f667926) := (hfr668074 q667911 hm668014 nm_n).trans he668057
        have hfr668092 : rFr [q667910] P667908 F667909 F668072 := rFr_call hsb668017 hfr668058 hfr668074 (fun b hb hn => ⟨(nm_c (fun e => hn (e ▸ List.mem_cons_self)) nm_n), nm_n⟩)
        have hne668093 : q668004 ≠ q668065 := fun h => hq668082 (h ▸ hm668011)
        change G _ _ _ _ _ _ _ (.ref q668064 :: _) _ _ _
        refine G_widen (cs' := 4) (sl' := 20 + (o668047.toInt.toNat + 4)) (Nat.add_le_add_left hdc 2) (by omega) ?_
        refine G_goto 192 dr_cX14_symbol_187 (by decide +kernel) ?_
        refine Gp_put 7 hm668083 he668090 dr_cX14_symbol_192 (gk_X14 D I) (Nat.le_of_ble_eq_true rfl) wr_9_43 rfl rfl rfl (Nat.le_of_ble_eq_true rfl) (fun F668094 e668095 n668096 => ?_)
        have he668097 : F668094 q667911 = .inl (I .byte, 8192, .inl f667926) := (n668096 q667911 (rn_ao he668091 he668090)).trans he668091
        have he668098 : F668094 q668064 = .inr (0, [.ref q668065, .int 0, .int 0, .int 0]) := (n668096 q668064 (fun h => hq668087 (h ▸ hmq667910))).trans he668075
        have he668099 : F668094 q667983 = .inr (1, [.ref q668004, .int 0, .int 0, .int o668047]) := (n668096 q667983 (fun h => hq667996 (h ▸ hmq667910))).trans he668076
        have he668100 : F668094 q668004 = .inl (I .byte, 16, .inl f668048) := (n668096 q668004 (fun h => hq668016 (h ▸ hmq667910))).trans he668077
        have he668101 : F668094 q668065 = .inl (I .byte, n668066, .inl f668067) := (n668096 q668065 (fun h => hq668088 (h ▸ hmq667910))).trans he668078
        have he668102 : F668094 q667910 = .inr (19, [.ref q667911, .int p667913, .int p667914, .int 6, .int p667916, .int p667917, .int p667918, .ref q668064, .int p667920, .int p667921, .int p667922, .ref qo667923, .ref qo667924, .int p667925]) := e668095
        have hfr668103 : rFr [q667910] P667908 F667909 F668094 := rFr_put' List.mem_cons_self hfr668092 n668096
        clear he667980 he667981 hfr667982 he667990 he667991 he667992 hm667993 hm667994 hm667995 hq667996 hfr667997 hsb667998 hsb668007 hfr668008 he668009 he668010 hm668011 hq668012 hm668013 hm668014 hm668015 hq668016 hsb668017 he668018 he668019 hfr668020 hfr668035 he668036 he668037 bf668028 he668038 he668039 hfr668040 ez668041 bz668041 hfr668053 he668054 he668055 bf668048 he668056 he668057 hfr668058 hsb668073 hfr668074 he668075 he668076 he668077 he668078 hq668080 hq668082 hm668085 hm668086 he668090 he668091 hfr668092 hne668093 he668099 he668100; try clear r668002; try clear w668003; try clear dc667999; try clear ds668000; try clear hp668001; try clear r668025; try clear w668026; try clear dc668022; try clear ds668023; try clear hp668024; try clear x668030; try clear x668031; try clear r668045; try clear w668046; try clear dc668042; try clear ds668043; try clear hp668044; try clear r668062; try clear w668063; try clear dc668059; try clear ds668060; try clear hp668061; try clear x668069
        refine G_aload_n 2 dr_cX14_symbol_195 rfl ?_
        refine G_dup dr_cX14_symbol_196 rfl ?_
        refine Gp_get 2 hm668083 he668102 dr_cX14_symbol_197 (gk_X14 D I) (Nat.le_of_ble_eq_true rfl) wr_9_38 rfl ?_
        refine G_iload_n 0 dr_cX14_symbol_200 rfl ?_
        refine G_if_eq 208 dr_cX14_symbol_201 (by decide +kernel) (fun _ => ?_) (fun hc => absurd hc (by decide))
        refine G_iconst 1 dr_cX14_symbol_208 (by decide +kernel) ?_
        refine G_iadd dr_cX14_symbol_209 (G_nam fun z668104 hz668104 => ?_)
        have ez668104 : z668104.toInt = p667914.toInt + 1 := by rw [gI_add hz668104 bp667914 (gBl (show Int32.toInt 1 = 1 by decide)) (by decide) (by decide), show Int32.toInt 1 = 1 from by decide]
        have bz668104 : gB z668104 1 8193 := gB_add (gI_add hz668104 bp667914 (gBl (show Int32.toInt 1 = 1 by decide)) (by decide) (by decide)) bp667914 (gBl (show Int32.toInt 1 = 1 by decide)) (by decide) (by decide)
        refine Gp_put 2 hm668083 he668102 dr_cX14_symbol_210 (gk_X14 D I) (Nat.le_of_ble_eq_true rfl) wr_9_38 rfl rfl rfl (Nat.le_of_ble_eq_true rfl) (fun F668105 e668106 n668107 => ?_)
        have he668108 : F668105 q667911 = .inl (I .byte, 8192, .inl f667926) := (n668107 q667911 (rn_ao he668097 he668102)).trans he668097
        have he668109 : F668105 q668064 = .inr (0, [.ref q668065, .int 0, .int 0, .int 0]) := (n668107 q668064 (fun h => hq668087 (h ▸ hmq667910))).trans he668098
        have he668110 : F668105 q668065 = .inl (I .byte, n668066, .inl f668067) := (n668107 q668065 (fun h => hq668088 (h ▸ hmq667910))).trans he668101
        have he668111 : F668105 q667910 = .inr (19, [.ref q667911, .int p667913, .int z668104, .int 6, .int p667916, .int p667917, .int p667918, .ref q668064, .int p667920, .int p667921, .int p667922, .ref qo667923, .ref qo667924, .int p667925]) := e668106
        have hfr668112 : rFr [q667910] P667908 F667909 F668105 := rFr_put' List.mem_cons_self hfr668103 n668107
        exact G_vretA dr_cX14_symbol_213 rfl (show 4 ≤ ((16 * (p667913.toInt - p667914.toInt)).toNat) by omega) (show 20 + (o668047.toInt.toNat + 4) ≤ ((160 * (p667913.toInt - p667914.toInt)).toNat) by omega) ⟨P668071, F668105, z668104, 6, q668064, (0, fun _ => 0), rfl, rfl, hsb668089, hfr668112, he668111, he668108, (by omega), (by omega), ⟨by omega, by omega⟩, (gB_w (gBl (show Int32.toInt 6 = 6 by decide)) (by decide) (by decide)), (by have qa0 : Int32.toInt 0 = 0 := (by decide); have qa1 : Int32.toInt 6 = 6 := (by decide); omega), (by have qa0 : Int32.toInt 0 = 0 := (by decide); have qa1 : Int32.toInt 6 = 6 := (by decide); omega), (tP_no (by decide) (by decide)), (vP_no (by decide) (by decide)), (fun R c1 c2 c3 c4 c5 c6 => c2 o667940 z667967 o667973 o668027 f668028 z668041 o668047 f668048 n668066 f668067 z668104 hJ667933 bo667940 ht667942 r667965 hz667967 bo667973 ht667974 r667976 bo668027 ht668032 hz668041 bo668047 ht668050 ht668070 ez668104)⟩
      · have r668113 : 0 ≤ o667973.toInt := gj_nlt hc667975 (show Int32.toInt 0 = 0 by decide)
        have bo667973' : gB o667973 0 65534 := ⟨by omega, by omega⟩
        refine G_iconst 5 dr_cX14_symbol_143 (by decide +kernel) ?_
        refine G_goto 149 dr_cX14_symbol_144 (by decide +kernel) ?_
        refine Gp_put 3 hmq667910 heq667910 dr_cX14_symbol_149 (gk_X14 D I) (Nat.le_of_ble_eq_true rfl) wr_9_39 rfl rfl rfl (Nat.le_of_ble_eq_true rfl) (fun F668114 e668115 n668116 => ?_)
        have he668117 : F668114 q667911 = .inl (I .byte, 8192, .inl f667926) := (n668116 q667911 (rn_ao heq667911 heq667910)).trans heq667911
        have he668118 : F668114 q667910 = .inr (19, [.ref q667911, .int p667913, .int p667914, .int 5, .int p667916, .int p667917, .int p667918, .ref qo667919, .int p667920, .int p667921, .int p667922, .ref qo667923, .ref qo667924, .int p667925]) := e668115
        have hfr668119 : rFr [q667910] P667908 F667909 F668114 := rFr_put (rFr_rf (W := []) (P := P667908) (F := F667909)) n668116
        clear ez667967 bz667967 bo667973'; try clear r667971; try clear w667972; try clear dc667968; try clear ds667969; try clear hp667970
        refine G_aload_n 2 dr_cX14_symbol_152 rfl ?_
        refine G_iload_n 0 dr_cX14_symbol_153 rfl ?_
        refine G_if_eq 161 dr_cX14_symbol_154 (by decide +kernel) (fun _ => ?_) (fun hc => absurd hc (by decide))
        refine G_iload_n 3 dr_cX14_symbol_161 rfl ?_
        refine G_bipush 32 dr_cX14_symbol_162 (by decide +kernel) ?_
        refine G_icmp_le 190 dr_cX14_symbol_164 (by decide +kernel) (fun hc => absurd (show False by have := gj_le hc (show Int32.toInt 32 = 32 by decide); omega) not_false) (fun _ => ?_)
        refine G_new [.null, .int 0, .int 0, .int 0] dr_cX14_symbol_167 (gk_J4 D I) wr_7_235 wr_7_44 wr_1_20 (gfs_J4) (Nat.le_trans (show 0 + 1 ≤ 16 by decide) hMC) (Nat.le_trans (show 0 + 4 ≤ 160 by decide) hMS) (fun q668120 => Gp_in (fun P668121 F668122 hq668123 hP668124 e668125 n668126 => ?_))
        refine G_widen (cs' := 1) (sl' := 4) (by omega) (by omega) ?_
        have he668127 : F668122 q667910 = .inr (19, [.ref q667911, .int p667913, .int p667914, .int 5, .int p667916, .int p667917, .int p667918, .ref qo667919, .int p667920, .int p667921, .int p667922, .ref qo667923, .ref qo667924, .int p667925]) := (n668126 q667910 (fun h => hq668123 (h ▸ hmq667910))).trans he668118
        have he668128 : F668122 q667911 = .inl (I .byte, 8192, .inl f667926) := (n668126 q667911 (fun h => hq668123 (h ▸ hmq667911))).trans he668117
        have he668129 : F668122 q668120 = .inr (1, [.null, .int 0, .int 0, .int 0]) := e668125
        have hm668130 : q667910 ∈ P668121 := (hP668124 q667910).mpr (Or.inl hmq667910)
        have hm668131 : q667911 ∈ P668121 := (hP668124 q667911).mpr (Or.inl hmq667911)
        have hm668132 : q668120 ∈ P668121 := (hP668124 q668120).mpr (Or.inr rfl)
        have hq668133 : q668120 ∉ P667908 := fun z => hq668123 ((rSub_rf (P := P667908)) q668120 z)
        have hfr668134 : rFr [q667910] P667908 F667909 F668122 := rFr_new (rSub_rf (P := P667908)) hq668123 hfr668119 n668126
        have hsb668135 : rSub P667908 P668121 := rSub_new (rSub_rf (P := P667908)) hP668124
        refine G_dup dr_cX14_symbol_170 rfl ?_
        refine Gw_callI (As := []) (gV_ok D I) (cp_658184_StringBuilder_init l hl0 D I P668121 F668122 q668120 0 0 hm668132 he668129 (gB_w (gBl (show Int32.toInt 0 = 0 by decide)) (by decide) (by decide)) (gB_w (gBl (show Int32.toInt 0 = 0 by decide)) (by decide) (by decide))) dr_cX14_symbol_171 ⟨wr_7_236, wr_1_20, wr_7_47, by decide, rfl, (Nat.le_of_ble_eq_true rfl), (Nat.le_of_ble_eq_true rfl)⟩ wr_7_46 rfl (Nat.le_trans (show 1 + 1 ≤ 16 by decide) hMC) (Nat.le_trans (show 4 + 16 ≤ 160 by decide) hMS) (Nat.le_of_ble_eq_true rfl) (fun r668139 w668140 dc668136 ds668137 hp668138 => ?_)
        obtain ⟨P668142, F668143, q668141, rfl, rfl, hsb668144, hfr668145, he668146, he668147, hm668148, hq668149, hdc, hds⟩ := hp668138
        have hm668150 : q667910 ∈ P668142 := hsb668144 q667910 hm668130
        have hm668151 : q667911 ∈ P668142 := hsb668144 q667911 hm668131
        have hm668152 : q668120 ∈ P668142 := hsb668144 q668120 hm668132
        have hq668153 : q668141 ∉ P667908 := fun z => hq668149 (hsb668135 q668141 z)
        have hsb668154 : rSub P667908 P668142 := rSub_tr hsb668135 hsb668144
        have he668155 : F668143 q667910 = .inr (19, [.ref q667911, .int p667913, .int p667914, .int 5, .int p667916, .int p667917, .int p667918, .ref qo667919, .int p667920, .int p667921, .int p667922, .ref qo667923, .ref qo667924, .int p667925]) := (hfr668145 q667910 hm668130 (nm_c (fun h => hq668133 (h ▸ hmq667910)) nm_n)).trans he668127
        have he668156 : F668143 q667911 = .inl (I .byte, 8192, .inl f667926) := (hfr668145 q667911 hm668131 (nm_c (fun h => hq668133 (h ▸ hmq667911)) nm_n)).trans he668128
        have hfr668157 : rFr [q667910] P667908 F667909 F668143 := rFr_call hsb668135 hfr668134 hfr668145 (fun b hb hn => ⟨(nm_c (fun e => hn (e ▸ List.mem_cons_self)) nm_n), (nm_c (fun e => hq668133 (e ▸ hb)) nm_n)⟩)
        change G _ _ _ _ _ _ _ _ _ _ _
        refine G_widen (cs' := 2) (sl' := 20) (Nat.add_le_add_left hdc 1) (Nat.add_le_add_left hds 4) ?_
        refine G_ldcK (a := D.2 1000 32) dr_cX14_symbol_174 (fun _ _ _ h => gx_vk 32 rfl rfl h) ?_
        have hl32_668157 : (sb_32.length : Int) = 0 := rfl
        refine Gw_callV (As := [.ref (D.2 1000 32)]) (gV_ok D I) (cp_658486_StringBuilder_append l hl0 D I P668142 F668143 q668120 q668141 (D.2 1000 32) (D.2 1001 32) sb_32 0 0 (fun _ => 0) 16 hm668152 hm668148 he668146 he668147 (gx_sc 32 rfl rfl) (by omega) (by decide +kernel) (gB_w (gBl (show Int32.toInt 0 = 0 by decide)) (by decide) (by decide)) (gB_w (gBl (show Int32.toInt 0 = 0 by decide)) (by decide) (by decide)) (gF_w gF_0 (by decide) (by decide)) (by have qa0 : Int32.toInt 0 = 0 := (by decide); have qa1 : Int32.toInt 5 = 5 := (by decide); omega) (by have qa0 : Int32.toInt 0 = 0 := (by decide); have qa1 : Int32.toInt 5 = 5 := (by decide); omega)) dr_cX14_symbol_176 ⟨wr_8_195, wr_1_20, wr_8_143, by decide, rfl, (Nat.le_of_ble_eq_true rfl), (Nat.le_of_ble_eq_true rfl)⟩ wr_8_141 wr_8_142 hm668152 he668146 rfl (Nat.le_trans (show 2 + 0 ≤ 16 by decide) hMC) (Nat.le_trans (show 20 + 0 ≤ 160 by decide) hMS) (Nat.le_of_ble_eq_true rfl) (fun r668162 w668163 dc668159 ds668160 hp668161 => ?_) (fun _ _ _ _ _ z => z.elim)
        obtain ⟨F668170, o668164, f668165, rfl, rfl, hfr668172, he668173, he668174, hdc, hds, bo668164, bf668165, x668166, x668167, x668168, ht668169⟩ := hp668161
        have he668175 : F668170 q667910 = .inr (19, [.ref q667911, .int p667913, .int p667914, .int 5, .int p667916, .int p667917, .int p667918, .ref qo667919, .int p667920, .int p667921, .int p667922, .ref qo667923, .ref qo667924, .int p667925]) := (hfr668172 q667910 hm668150 (nm_c (fun h => hq668133 (h ▸ hmq667910)) (nm_c (fun h => hq668153 (h ▸ hmq667910)) nm_n))).trans he668155
        have he668176 : F668170 q667911 = .inl (I .byte, 8192, .inl f667926) := (hfr668172 q667911 hm668151 (nm_c (fun h => hq668133 (h ▸ hmq667911)) (nm_c (fun h => hq668153 (h ▸ hmq667911)) nm_n))).trans he668156
        have hfr668177 : rFr [q667910] P667908 F667909 F668170 := rFr_call hsb668154 hfr668157 hfr668172 (fun b hb hn => ⟨(nm_c (fun e => hn (e ▸ List.mem_cons_self)) nm_n), (nm_c (fun e => hq668133 (e ▸ hb)) (nm_c (fun e => hq668153 (e ▸ hb)) nm_n))⟩)
        rw [show Int32.toInt 0 = 0 from by decide] at x668166
        have bo668164' : gB o668164 0 0 := ⟨by omega, by omega⟩
        rw [show Int32.toInt 0 = 0 from by decide] at x668167
        rw [show Int32.toInt 0 = 0 from by decide] at x668168
        change G _ _ _ _ _ _ _ (.ref q668120 :: _) _ _ _
        refine G_widen (cs' := 2) (sl' := 20) (Nat.add_le_add_left hdc 2) (Nat.add_le_add_left hds 20) ?_
        refine G_iload_n 3 dr_cX14_symbol_179 rfl ?_
        refine G_i2c dr_cX14_symbol_180 (G_nam fun z668178 hz668178 => ?_)
        have ez668178 : z668178.toInt = p667912.toInt := gI_i2c hz668178 (by omega) (by omega)
        have bz668178 : gB z668178 33 127 := ⟨by omega, by omega⟩
        refine Gw_callV (As := [.int z668178]) (gV_ok D I) (cp_657745_StringBuilder_append l hl0 D I P668142 F668170 q668120 q668141 z668178 0 o668164 f668165 16 hm668152 hm668148 he668173 he668174 (gB_w bz668178 (by decide) (by decide)) (gB_w (gBl (show Int32.toInt 0 = 0 by decide)) (by decide) (by decide)) (gB_w bo668164' (by decide) (by decide)) bf668165 (by have qa0 : Int32.toInt 0 = 0 := (by decide); have qa1 : Int32.toInt 5 = 5 := (by decide); omega) (by have qa0 : Int32.toInt 0 = 0 := (by decide); have qa1 : Int32.toInt 5 = 5 := (by decide); omega)) dr_cX14_symbol_181 ⟨wr_7_237, wr_1_20, wr_8_0, by decide, rfl, (Nat.le_of_ble_eq_true rfl), (Nat.le_of_ble_eq_true rfl)⟩ wr_7_238 wr_7_239 hm668152 he668173 rfl (Nat.le_trans (show 2 + 0 ≤ 16 by decide) hMC) (Nat.le_trans (show 20 + 0 ≤ 160 by decide) hMS) (Nat.le_of_ble_eq_true rfl) (fun r668182 w668183 dc668179 ds668180 hp668181 => ?_) (fun _ _ _ _ _ z => z.elim)
        obtain ⟨F668188, o668184, f668185, rfl, rfl, hfr668190, he668191, he668192, hdc, hds, bo668184, bf668185, x668186, ht668187⟩ := hp668181
        have he668193 : F668188 q667910 = .inr (19, [.ref q667911, .int p667913, .int p667914, .int 5, .int p667916, .int p667917, .int p667918, .ref qo667919, .int p667920, .int p667921, .int p667922, .ref qo667923, .ref qo667924, .int p667925]) := (hfr668190 q667910 hm668150 (nm_c (fun h => hq668153 (h ▸ hmq667910)) (nm_c (fun h => hq668133 (h ▸ hmq667910)) nm_n))).trans he668175
        have he668194 : F668188 q667911 = .inl (I .byte, 8192, .inl f667926) := (hfr668190 q667911 hm668151 (nm_c (fun h => hq668153 (h ▸ hmq667911)) (nm_c (fun h => hq668133 (h ▸ hmq667911)) nm_n))).trans he668176
        have hfr668195 : rFr [q667910] P667908 F667909 F668188 := rFr_call hsb668154 hfr668177 hfr668190 (fun b hb hn => ⟨(nm_c (fun e => hn (e ▸ List.mem_cons_self)) nm_n), (nm_c (fun e => hq668153 (e ▸ hb)) (nm_c (fun e => hq668133 (e ▸ hb)) nm_n))⟩)
        have bo668184' : gB o668184 1 1 := ⟨by omega, by omega⟩
        change G _ _ _ _ _ _ _ (.ref q668120 :: _) _ _ _
        refine G_widen (cs' := 2) (sl' := 20) (Nat.add_le_add_left hdc 2) (Nat.add_le_add_left hds 20) ?_
        refine Gw_callV (As := []) (gV_ok D I) (cp_658959_StringBuilder_toString l hl0 D I P668142 F668188 q668120 q668141 0 o668184 f668185 16 hm668152 hm668148 he668191 he668192 (gB_w (gBl (show Int32.toInt 0 = 0 by decide)) (by decide) (by decide)) (gB_w bo668184' (by decide) (by decide)) bf668185 (by have qa0 : Int32.toInt 0 = 0 := (by decide); have qa1 : Int32.toInt 5 = 5 := (by decide); omega) (by have qa0 : Int32.toInt 0 = 0 := (by decide); have qa1 : Int32.toInt 5 = 5 := (by decide); omega)) dr_cX14_symbol_184 ⟨wr_8_66, wr_1_20, wr_8_69, by decide, rfl, (Nat.le_of_ble_eq_true rfl), (Nat.le_of_ble_eq_true rfl)⟩ wr_8_67 wr_8_68 hm668152 he668191 rfl (Nat.le_trans (show 2 + 2 ≤ 16 by decide) hMC) (show 20 + (o668184.toInt.toNat + 4) ≤ ((160 * (p667913.toInt - p667914.toInt)).toNat) by first | omega | decide) (Nat.le_of_ble_eq_true rfl) (fun r668199 w668200 dc668196 ds668197 hp668198 => ?_) (fun _ _ _ _ _ z => z.elim)
        obtain ⟨P668208, F668209, q668201, q668202, n668203, f668204, rfl, rfl, hsb668210, hfr668211, he668212, he668213, he668214, he668215, hm668216, hq668217, hm668218, hq668219, hdc, hds, bf668204, x668205, x668206, ht668207⟩ := hp668198
        have hm668220 : q667910 ∈ P668208 := hsb668210 q667910 hm668150
        have hm668221 : q667911 ∈ P668208 := hsb668210 q667911 hm668151
        have hm668222 : q668120 ∈ P668208 := hsb668210 q668120 hm668152
        have hm668223 : q668141 ∈ P668208 := hsb668210 q668141 hm668148
        have hq668224 : q668201 ∉ P667908 := fun z => hq668217 (hsb668154 q668201 z)
        have hq668225 : q668202 ∉ P667908 := fun z => hq668219 (hsb668154 q668202 z)
        have hsb668226 : rSub P667908 P668208 := rSub_tr hsb668154 hsb668210
        have he668227 : F668209 q667910 = .inr (19, [.ref q667911, .int p667913, .int p667914, .int 5, .int p667916, .int p667917, .int p667918, .ref qo667919, .int p667920, .int p667921, .int p667922, .ref qo667923, .ref qo667924, .int p667925]) := (hfr668211 q667910 hm668150 nm_n).trans he668193
        have he668228 : F668209 q667911 = .inl (I .byte, 8192, .inl f667926) := (hfr668211 q667911 hm668151 nm_n).trans he668194
        have hfr668229 : rFr [q667910] P667908 F667909 F668209 := rFr_call hsb668154 hfr668195 hfr668211 (fun b hb hn => ⟨(nm_c (fun e => hn (e ▸ List.mem_cons_self)) nm_n), nm_n⟩)
        have hne668230 : q668141 ≠ q668202 := fun h => hq668219 (h ▸ hm668148)
        change G _ _ _ _ _ _ _ (.ref q668201 :: _) _ _ _
        refine G_widen (cs' := 4) (sl' := 20 + (o668184.toInt.toNat + 4)) (Nat.add_le_add_left hdc 2) (by omega) ?_
        refine G_goto 192 dr_cX14_symbol_187 (by decide +kernel) ?_
        refine Gp_put 7 hm668220 he668227 dr_cX14_symbol_192 (gk_X14 D I) (Nat.le_of_ble_eq_true rfl) wr_9_43 rfl rfl rfl (Nat.le_of_ble_eq_true rfl) (fun F668231 e668232 n668233 => ?_)
        have he668234 : F668231 q667911 = .inl (I .byte, 8192, .inl f667926) := (n668233 q667911 (rn_ao he668228 he668227)).trans he668228
        have he668235 : F668231 q668201 = .inr (0, [.ref q668202, .int 0, .int 0, .int 0]) := (n668233 q668201 (fun h => hq668224 (h ▸ hmq667910))).trans he668212
        have he668236 : F668231 q668120 = .inr (1, [.ref q668141, .int 0, .int 0, .int o668184]) := (n668233 q668120 (fun h => hq668133 (h ▸ hmq667910))).trans he668213
        have he668237 : F668231 q668141 = .inl (I .byte, 16, .inl f668185) := (n668233 q668141 (fun h => hq668153 (h ▸ hmq667910))).trans he668214
        have he668238 : F668231 q668202 = .inl (I .byte, n668203, .inl f668204) := (n668233 q668202 (fun h => hq668225 (h ▸ hmq667910))).trans he668215
        have he668239 : F668231 q667910 = .inr (19, [.ref q667911, .int p667913, .int p667914, .int 5, .int p667916, .int p667917, .int p667918, .ref q668201, .int p667920, .int p667921, .int p667922, .ref qo667923, .ref qo667924, .int p667925]) := e668232
        have hfr668240 : rFr [q667910] P667908 F667909 F668231 := rFr_put' List.mem_cons_self hfr668229 n668233
        clear he668117 he668118 hfr668119 he668127 he668128 he668129 hm668130 hm668131 hm668132 hq668133 hfr668134 hsb668135 hsb668144 hfr668145 he668146 he668147 hm668148 hq668149 hm668150 hm668151 hm668152 hq668153 hsb668154 he668155 he668156 hfr668157 hfr668172 he668173 he668174 bf668165 he668175 he668176 hfr668177 ez668178 bz668178 hfr668190 he668191 he668192 bf668185 he668193 he668194 hfr668195 hsb668210 hfr668211 he668212 he668213 he668214 he668215 hq668217 hq668219 hm668222 hm668223 he668227 he668228 hfr668229 hne668230 he668236 he668237; try clear r668139; try clear w668140; try clear dc668136; try clear ds668137; try clear hp668138; try clear r668162; try clear w668163; try clear dc668159; try clear ds668160; try clear hp668161; try clear x668167; try clear x668168; try clear r668182; try clear w668183; try clear dc668179; try clear ds668180; try clear hp668181; try clear r668199; try clear w668200; try clear dc668196; try clear ds668197; try clear hp668198; try clear x668206
        refine G_aload_n 2 dr_cX14_symbol_195 rfl ?_
        refine G_dup dr_cX14_symbol_196 rfl ?_
        refine Gp_get 2 hm668220 he668239 dr_cX14_symbol_197 (gk_X14 D I) (Nat.le_of_ble_eq_true rfl) wr_9_38 rfl ?_
        refine G_iload_n 0 dr_cX14_symbol_200 rfl ?_
        refine G_if_eq 208 dr_cX14_symbol_201 (by decide +kernel) (fun _ => ?_) (fun hc => absurd hc (by decide))
        refine G_iconst 1 dr_cX14_symbol_208 (by decide +kernel) ?_
        refine G_iadd dr_cX14_symbol_209 (G_nam fun z668241 hz668241 => ?_)
        have ez668241 : z668241.toInt = p667914.toInt + 1 := by rw [gI_add hz668241 bp667914 (gBl (show Int32.toInt 1 = 1 by decide)) (by decide) (by decide), show Int32.toInt 1 = 1 from by decide]
        have bz668241 : gB z668241 1 8193 := gB_add (gI_add hz668241 bp667914 (gBl (show Int32.toInt 1 = 1 by decide)) (by decide) (by decide)) bp667914 (gBl (show Int32.toInt 1 = 1 by decide)) (by decide) (by decide)
        refine Gp_put 2 hm668220 he668239 dr_cX14_symbol_210 (gk_X14 D I) (Nat.le_of_ble_eq_true rfl) wr_9_38 rfl rfl rfl (Nat.le_of_ble_eq_true rfl) (fun F668242 e668243 n668244 => ?_)
        have he668245 : F668242 q667911 = .inl (I .byte, 8192, .inl f667926) := (n668244 q667911 (rn_ao he668234 he668239)).trans he668234
        have he668246 : F668242 q668201 = .inr (0, [.ref q668202, .int 0, .int 0, .int 0]) := (n668244 q668201 (fun h => hq668224 (h ▸ hmq667910))).trans he668235
        have he668247 : F668242 q668202 = .inl (I .byte, n668203, .inl f668204) := (n668244 q668202 (fun h => hq668225 (h ▸ hmq667910))).trans he668238
        have he668248 : F668242 q667910 = .inr (19, [.ref q667911, .int p667913, .int z668241, .int 5, .int p667916, .int p667917, .int p667918, .ref q668201, .int p667920, .int p667921, .int p667922, .ref qo667923, .ref qo667924, .int p667925]) := e668243
        have hfr668249 : rFr [q667910] P667908 F667909 F668242 := rFr_put' List.mem_cons_self hfr668240 n668244
        exact G_vretA dr_cX14_symbol_213 rfl (show 4 ≤ ((16 * (p667913.toInt - p667914.toInt)).toNat) by omega) (show 20 + (o668184.toInt.toNat + 4) ≤ ((160 * (p667913.toInt - p667914.toInt)).toNat) by omega) ⟨P668208, F668242, z668241, 5, q668201, (n668203, f668204), rfl, rfl, hsb668226, hfr668249, he668248, he668245, (by omega), (by omega), ⟨by omega, by omega⟩, (gB_w (gBl (show Int32.toInt 5 = 5 by decide)) (by decide) (by decide)), (by have qa0 : Int32.toInt 0 = 0 := (by decide); have qa1 : Int32.toInt 5 = 5 := (by decide); omega), (by have qa0 : Int32.toInt 0 = 0 := (by decide); have qa1 : Int32.toInt 5 = 5 := (by decide); omega), (tP_5 hm668216 he668246 hm668218 he668247 bf668204 (by omega) (gB_w (gBl (show Int32.toInt 0 = 0 by decide)) (by decide) (by decide)) (fun e => hq668225 (e ▸ x667929)) (fun e => hq668225 (e ▸ x667930))), (vP_no (by decide) (by decide)), (fun R c1 c2 c3 c4 c5 c6 => c3 o667940 z667967 o667973 o668164 f668165 z668178 o668184 f668185 n668203 f668204 z668241 hJ667933 bo667940 ht667942 r667965 hz667967 bo667973 ht667974 r668113 bo668164 ht668169 hz668178 bo668184 ht668187 ht668207 ez668241)⟩
  refine G_aload_n 0 dr_cX14_symbol_0 rfl ?_
  refine Gp_get 2 hmq667910 heq667910 dr_cX14_symbol_1 (gk_X14 D I) (Nat.le_of_ble_eq_true rfl) wr_9_38 rfl ?_
  refine G_iconst 1 dr_cX14_symbol_4 (by decide +kernel) ?_
  refine G_iadd dr_cX14_symbol_5 (G_nam fun z668250 hz668250 => ?_)
  have ez668250 : z668250.toInt = p667914.toInt + 1 := by rw [gI_add hz668250 bp667914 (gBl (show Int32.toInt 1 = 1 by decide)) (by decide) (by decide), show Int32.toInt 1 = 1 from by decide]
  have bz668250 : gB z668250 1 8193 := gB_add (gI_add hz668250 bp667914 (gBl (show Int32.toInt 1 = 1 by decide)) (by decide) (by decide)) bp667914 (gBl (show Int32.toInt 1 = 1 by decide)) (by decide) (by decide)
  refine G_aload_n 0 dr_cX14_symbol_6 rfl ?_
  refine Gp_get 1 hmq667910 heq667910 dr_cX14_symbol_7 (gk_X14 D I) (Nat.le_of_ble_eq_true rfl) wr_9_37 rfl ?_
  refine G_icmp_ge 73 dr_cX14_symbol_10 (by decide +kernel) (fun hc668251 => ?_) (fun hc668251 => ?_)
  · have r668252 : p667913.toInt ≤ z668250.toInt := gC_le hc668251
    refine G_lv (L' := [(0, .ref q667910), (1, .int p667912)]) [0, 1] rfl ?_
    exact jn667932 (Or.inl ⟨z668250, ez668250, r668252⟩)
  · have r668253 : z668250.toInt < p667913.toInt := gC_nle hc668251
    have bz668250' : gB z668250 1 8191 := ⟨by omega, by omega⟩
    have bp667913' : gB p667913 2 8192 := ⟨by omega, by omega⟩
    refine G_aload_n 0 dr_cX14_symbol_13 rfl ?_
    refine Gp_get 0 hmq667910 heq667910 dr_cX14_symbol_14 (gk_X14 D I) (Nat.le_of_ble_eq_true rfl) wr_9_36 rfl ?_
    refine G_aload_n 0 dr_cX14_symbol_17 rfl ?_
    refine Gp_get 2 hmq667910 heq667910 dr_cX14_symbol_18 (gk_X14 D I) (Nat.le_of_ble_eq_true rfl) wr_9_38 rfl ?_
    refine G_iconst 1 dr_cX14_symbol_21 (by decide +kernel) ?_
    refine G_iadd dr_cX14_symbol_22 (G_eqi (y := z668250) hz668250.symm ?_)
    refine Gp_bald 1 hmq667911 heq667911 dr_cX14_symbol_23 rfl (gB_in bz668250' (by decide) (by decide)) (G_nam fun z668254 hz668254 => ?_)
    have bz668254 : gB z668254 (-128) 127 := by rw [hz668254]; exact bf667926 _
    refine G_bipush 32 dr_cX14_symbol_24 (by decide +kernel) ?_
    refine G_icmp_le 73 dr_cX14_symbol_26 (by decide +kernel) (fun hc668255 => ?_) (fun hc668255 => ?_)
    · have r668256 : z668254.toInt ≤ 32 := gj_le hc668255 (show Int32.toInt 32 = 32 by decide)
      have bz668254' : gB z668254 (-128) 32 := ⟨by omega, by omega⟩
      refine G_lv (L' := [(0, .ref q667910), (1, .int p667912)]) [0, 1] rfl ?_
      exact jn667932 (Or.inr (Or.inl ⟨z668250, z668254, ez668250, r668253, hz668254, bz668254, r668256⟩))
    · have r668257 : 32 < z668254.toInt := gj_nle hc668255 (show Int32.toInt 32 = 32 by decide)
      have bz668254' : gB z668254 33 127 := ⟨by omega, by omega⟩
      refine G_iload_n 1 dr_cX14_symbol_29 rfl ?_
      refine G_bipush 32 dr_cX14_symbol_30 (by decide +kernel) ?_
      refine G_icmp_le 73 dr_cX14_symbol_32 (by decide +kernel) (fun hc668258 => ?_) (fun hc668258 => ?_)
      · have r668259 : p667912.toInt ≤ 32 := gj_le hc668258 (show Int32.toInt 32 = 32 by decide)
        have bp667912' : gB p667912 (-128) 32 := ⟨by omega, by omega⟩
        refine G_lv (L' := [(0, .ref q667910), (1, .int p667912)]) [0, 1] rfl ?_
        exact jn667932 (Or.inr (Or.inr (⟨z668250, z668254, ez668250, r668253, hz668254, bz668254, r668257, r668259⟩)))
      · have r668260 : 32 < p667912.toInt := gj_nle hc668258 (show Int32.toInt 32 = 32 by decide)
        have bp667912' : gB p667912 33 127 := ⟨by omega, by omega⟩
        refine G_new [.null, .int 0, .int 0, .int 0] dr_cX14_symbol_35 (gk_J4 D I) wr_7_235 wr_7_44 wr_1_20 (gfs_J4) (Nat.le_trans (show 0 + 1 ≤ 16 by decide) hMC) (Nat.le_trans (show 0 + 4 ≤ 160 by decide) hMS) (fun q668261 => Gp_in (fun P668262 F668263 hq668264 hP668265 e668266 n668267 => ?_))
        refine G_widen (cs' := 1) (sl' := 4) (by omega) (by omega) ?_
        have he668268 : F668263 q667910 = .inr (19, [.ref q667911, .int p667913, .int p667914, .int p667915, .int p667916, .int p667917, .int p667918, .ref qo667919, .int p667920, .int p667921, .int p667922, .ref qo667923, .ref qo667924, .int p667925]) := (n668267 q667910 (fun h => hq668264 (h ▸ hmq667910))).trans heq667910
        have he668269 : F668263 q667911 = .inl (I .byte, 8192, .inl f667926) := (n668267 q667911 (fun h => hq668264 (h ▸ hmq667911))).trans heq667911
        have he668270 : F668263 q668261 = .inr (1, [.null, .int 0, .int 0, .int 0]) := e668266
        have hm668271 : q667910 ∈ P668262 := (hP668265 q667910).mpr (Or.inl hmq667910)
        have hm668272 : q667911 ∈ P668262 := (hP668265 q667911).mpr (Or.inl hmq667911)
        have hm668273 : q668261 ∈ P668262 := (hP668265 q668261).mpr (Or.inr rfl)
        have hq668274 : q668261 ∉ P667908 := fun z => hq668264 ((rSub_rf (P := P667908)) q668261 z)
        have hfr668275 : rFr [] P667908 F667909 F668263 := rFr_new (rSub_rf (P := P667908)) hq668264 (rFr_rf (W := []) (P := P667908) (F := F667909)) n668267
        have hsb668276 : rSub P667908 P668262 := rSub_new (rSub_rf (P := P667908)) hP668265
        refine G_dup dr_cX14_symbol_38 rfl ?_
        refine Gw_callI (As := []) (gV_ok D I) (cp_658184_StringBuilder_init l hl0 D I P668262 F668263 q668261 0 0 hm668273 he668270 (gB_w (gBl (show Int32.toInt 0 = 0 by decide)) (by decide) (by decide)) (gB_w (gBl (show Int32.toInt 0 = 0 by decide)) (by decide) (by decide))) dr_cX14_symbol_39 ⟨wr_7_236, wr_1_20, wr_7_47, by decide, rfl, (Nat.le_of_ble_eq_true rfl), (Nat.le_of_ble_eq_true rfl)⟩ wr_7_46 rfl (Nat.le_trans (show 1 + 1 ≤ 16 by decide) hMC) (Nat.le_trans (show 4 + 16 ≤ 160 by decide) hMS) (Nat.le_of_ble_eq_true rfl) (fun r668280 w668281 dc668277 ds668278 hp668279 => ?_)
        obtain ⟨P668283, F668284, q668282, rfl, rfl, hsb668285, hfr668286, he668287, he668288, hm668289, hq668290, hdc, hds⟩ := hp668279
        have hm668291 : q667910 ∈ P668283 := hsb668285 q667910 hm668271
        have hm668292 : q667911 ∈ P668283 := hsb668285 q667911 hm668272
        have hm668293 : q668261 ∈ P668283 := hsb668285 q668261 hm668273
        have hq668294 : q668282 ∉ P667908 := fun z => hq668290 (hsb668276 q668282 z)
        have hsb668295 : rSub P667908 P668283 := rSub_tr hsb668276 hsb668285
        have he668296 : F668284 q667910 = .inr (19, [.ref q667911, .int p667913, .int p667914, .int p667915, .int p667916, .int p667917, .int p667918, .ref qo667919, .int p667920, .int p667921, .int p667922, .ref qo667923, .ref qo667924, .int p667925]) := (hfr668286 q667910 hm668271 (nm_c (fun h => hq668274 (h ▸ hmq667910)) nm_n)).trans he668268
        have he668297 : F668284 q667911 = .inl (I .byte, 8192, .inl f667926) := (hfr668286 q667911 hm668272 (nm_c (fun h => hq668274 (h ▸ hmq667911)) nm_n)).trans he668269
        have hfr668298 : rFr [] P667908 F667909 F668284 := rFr_call hsb668276 hfr668275 hfr668286 (fun b hb hn => ⟨nm_n, (nm_c (fun e => hq668274 (e ▸ hb)) nm_n)⟩)
        change G _ _ _ _ _ _ _ _ _ _ _
        refine G_widen (cs' := 2) (sl' := 20) (Nat.add_le_add_left hdc 1) (Nat.add_le_add_left hds 4) ?_
        refine G_ldcK (a := D.2 1000 32) dr_cX14_symbol_42 (fun _ _ _ h => gx_vk 32 rfl rfl h) ?_
        have hl32_668298 : (sb_32.length : Int) = 0 := rfl
        refine Gw_callV (As := [.ref (D.2 1000 32)]) (gV_ok D I) (cp_658486_StringBuilder_append l hl0 D I P668283 F668284 q668261 q668282 (D.2 1000 32) (D.2 1001 32) sb_32 0 0 (fun _ => 0) 16 hm668293 hm668289 he668287 he668288 (gx_sc 32 rfl rfl) (by omega) (by decide +kernel) (gB_w (gBl (show Int32.toInt 0 = 0 by decide)) (by decide) (by decide)) (gB_w (gBl (show Int32.toInt 0 = 0 by decide)) (by decide) (by decide)) (gF_w gF_0 (by decide) (by decide)) (by have qa0 : Int32.toInt 0 = 0 := (by decide); omega) (by have qa0 : Int32.toInt 0 = 0 := (by decide); omega)) dr_cX14_symbol_44 ⟨wr_8_195, wr_1_20, wr_8_143, by decide, rfl, (Nat.le_of_ble_eq_true rfl), (Nat.le_of_ble_eq_true rfl)⟩ wr_8_141 wr_8_142 hm668293 he668287 rfl (Nat.le_trans (show 2 + 0 ≤ 16 by decide) hMC) (Nat.le_trans (show 20 + 0 ≤ 160 by decide) hMS) (Nat.le_of_ble_eq_true rfl) (fun r668303 w668304 dc668300 ds668301 hp668302 => ?_) (fun _ _ _ _ _ z => z.elim)
        obtain ⟨F668311, o668305, f668306, rfl, rfl, hfr668313, he668314, he668315, hdc, hds, bo668305, bf668306, x668307, x668308, x668309, ht668310⟩ := hp668302
        have he668316 : F668311 q667910 = .inr (19, [.ref q667911, .int p667913, .int p667914, .int p667915, .int p667916, .int p667917, .int p667918, .ref qo667919, .int p667920, .int p667921, .int p667922, .ref qo667923, .ref qo667924, .int p667925]) := (hfr668313 q667910 hm668291 (nm_c (fun h => hq668274 (h ▸ hmq667910)) (nm_c (fun h => hq668294 (h ▸ hmq667910)) nm_n))).trans he668296
        have he668317 : F668311 q667911 = .inl (I .byte, 8192, .inl f667926) := (hfr668313 q667911 hm668292 (nm_c (fun h => hq668274 (h ▸ hmq667911)) (nm_c (fun h => hq668294 (h ▸ hmq667911)) nm_n))).trans he668297
        have hfr668318 : rFr [] P667908 F667909 F668311 := rFr_call hsb668295 hfr668298 hfr668313 (fun b hb hn => ⟨nm_n, (nm_c (fun e => hq668274 (e ▸ hb)) (nm_c (fun e => hq668294 (e ▸ hb)) nm_n))⟩)
        rw [show Int32.toInt 0 = 0 from by decide] at x668307
        have bo668305' : gB o668305 0 0 := ⟨by omega, by omega⟩
        rw [show Int32.toInt 0 = 0 from by decide] at x668308
        rw [show Int32.toInt 0 = 0 from by decide] at x668309
        change G _ _ _ _ _ _ _ (.ref q668261 :: _) _ _ _
        refine G_widen (cs' := 2) (sl' := 20) (Nat.add_le_add_left hdc 2) (Nat.add_le_add_left hds 20) ?_
        refine G_iload_n 1 dr_cX14_symbol_47 rfl ?_
        refine G_i2c dr_cX14_symbol_48 (G_nam fun z668319 hz668319 => ?_)
        have ez668319 : z668319.toInt = p667912.toInt := gI_i2c hz668319 (by omega) (by omega)
        have bz668319 : gB z668319 33 127 := ⟨by omega, by omega⟩
        refine Gw_callV (As := [.int z668319]) (gV_ok D I) (cp_657745_StringBuilder_append l hl0 D I P668283 F668311 q668261 q668282 z668319 0 o668305 f668306 16 hm668293 hm668289 he668314 he668315 (gB_w bz668319 (by decide) (by decide)) (gB_w (gBl (show Int32.toInt 0 = 0 by decide)) (by decide) (by decide)) (gB_w bo668305' (by decide) (by decide)) bf668306 (by have qa0 : Int32.toInt 0 = 0 := (by decide); omega) (by have qa0 : Int32.toInt 0 = 0 := (by decide); omega)) dr_cX14_symbol_49 ⟨wr_7_237, wr_1_20, wr_8_0, by decide, rfl, (Nat.le_of_ble_eq_true rfl), (Nat.le_of_ble_eq_true rfl)⟩ wr_7_238 wr_7_239 hm668293 he668314 rfl (Nat.le_trans (show 2 + 0 ≤ 16 by decide) hMC) (Nat.le_trans (show 20 + 0 ≤ 160 by decide) hMS) (Nat.le_of_ble_eq_true rfl) (fun r668323 w668324 dc668320 ds668321 hp668322 => ?_) (fun _ _ _ _ _ z => z.elim)
        obtain ⟨F668329, o668325, f668326, rfl, rfl, hfr668331, he668332, he668333, hdc, hds, bo668325, bf668326, x668327, ht668328⟩ := hp668322
        have he668334 : F668329 q667910 = .inr (19, [.ref q667911, .int p667913, .int p667914, .int p667915, .int p667916, .int p667917, .int p667918, .ref qo667919, .int p667920, .int p667921, .int p667922, .ref qo667923, .ref qo667924, .int p667925]) := (hfr668331 q667910 hm668291 (nm_c (fun h => hq668294 (h ▸ hmq667910)) (nm_c (fun h => hq668274 (h ▸ hmq667910)) nm_n))).trans he668316
        have he668335 : F668329 q667911 = .inl (I .byte, 8192, .inl f667926) := (hfr668331 q667911 hm668292 (nm_c (fun h => hq668294 (h ▸ hmq667911)) (nm_c (fun h => hq668274 (h ▸ hmq667911)) nm_n))).trans he668317
        have hfr668336 : rFr [] P667908 F667909 F668329 := rFr_call hsb668295 hfr668318 hfr668331 (fun b hb hn => ⟨nm_n, (nm_c (fun e => hq668294 (e ▸ hb)) (nm_c (fun e => hq668274 (e ▸ hb)) nm_n))⟩)
        have bo668325' : gB o668325 1 1 := ⟨by omega, by omega⟩
        change G _ _ _ _ _ _ _ (.ref q668261 :: _) _ _ _
        refine G_widen (cs' := 2) (sl' := 20) (Nat.add_le_add_left hdc 2) (Nat.add_le_add_left hds 20) ?_
        refine G_aload_n 0 dr_cX14_symbol_52 rfl ?_
        refine Gp_get 0 hm668291 he668334 dr_cX14_symbol_53 (gk_X14 D I) (Nat.le_of_ble_eq_true rfl) wr_9_36 rfl ?_
        refine G_aload_n 0 dr_cX14_symbol_56 rfl ?_
        refine Gp_get 2 hm668291 he668334 dr_cX14_symbol_57 (gk_X14 D I) (Nat.le_of_ble_eq_true rfl) wr_9_38 rfl ?_
        refine G_iconst 1 dr_cX14_symbol_60 (by decide +kernel) ?_
        refine G_iadd dr_cX14_symbol_61 (G_eqi (y := z668250) hz668250.symm ?_)
        refine Gp_bald 1 hm668292 he668335 dr_cX14_symbol_62 rfl (gB_in bz668250' (by decide) (by decide)) (G_eqi (y := z668254) hz668254.symm ?_)
        refine G_i2c dr_cX14_symbol_63 (G_nam fun z668337 hz668337 => ?_)
        have ez668337 : z668337.toInt = z668254.toInt := gI_i2c hz668337 (by omega) (by omega)
        have bz668337 : gB z668337 33 127 := ⟨by omega, by omega⟩
        refine Gw_callV (As := [.int z668337]) (gV_ok D I) (cp_657745_StringBuilder_append l hl0 D I P668283 F668329 q668261 q668282 z668337 0 o668325 f668326 16 hm668293 hm668289 he668332 he668333 (gB_w bz668337 (by decide) (by decide)) (gB_w (gBl (show Int32.toInt 0 = 0 by decide)) (by decide) (by decide)) (gB_w bo668325' (by decide) (by decide)) bf668326 (by have qa0 : Int32.toInt 0 = 0 := (by decide); omega) (by have qa0 : Int32.toInt 0 = 0 := (by decide); omega)) dr_cX14_symbol_64 ⟨wr_7_237, wr_1_20, wr_8_0, by decide, rfl, (Nat.le_of_ble_eq_true rfl), (Nat.le_of_ble_eq_true rfl)⟩ wr_7_238 wr_7_239 hm668293 he668332 rfl (Nat.le_trans (show 2 + 0 ≤ 16 by decide) hMC) (Nat.le_trans (show 20 + 0 ≤ 160 by decide) hMS) (Nat.le_of_ble_eq_true rfl) (fun r668341 w668342 dc668338 ds668339 hp668340 => ?_) (fun _ _ _ _ _ z => z.elim)
        obtain ⟨F668347, o668343, f668344, rfl, rfl, hfr668349, he668350, he668351, hdc, hds, bo668343, bf668344, x668345, ht668346⟩ := hp668340
        have he668352 : F668347 q667910 = .inr (19, [.ref q667911, .int p667913, .int p667914, .int p667915, .int p667916, .int p667917, .int p667918, .ref qo667919, .int p667920, .int p667921, .int p667922, .ref qo667923, .ref qo667924, .int p667925]) := (hfr668349 q667910 hm668291 (nm_c (fun h => hq668294 (h ▸ hmq667910)) (nm_c (fun h => hq668274 (h ▸ hmq667910)) nm_n))).trans he668334
        have he668353 : F668347 q667911 = .inl (I .byte, 8192, .inl f667926) := (hfr668349 q667911 hm668292 (nm_c (fun h => hq668294 (h ▸ hmq667911)) (nm_c (fun h => hq668274 (h ▸ hmq667911)) nm_n))).trans he668335
        have hfr668354 : rFr [] P667908 F667909 F668347 := rFr_call hsb668295 hfr668336 hfr668349 (fun b hb hn => ⟨nm_n, (nm_c (fun e => hq668294 (e ▸ hb)) (nm_c (fun e => hq668274 (e ▸ hb)) nm_n))⟩)
        have bo668343' : gB o668343 2 2 := ⟨by omega, by omega⟩
        change G _ _ _ _ _ _ _ (.ref q668261 :: _) _ _ _
        refine G_widen (cs' := 2) (sl' := 20) (Nat.add_le_add_left hdc 2) (Nat.add_le_add_left hds 20) ?_
        refine Gw_callV (As := []) (gV_ok D I) (cp_658959_StringBuilder_toString l hl0 D I P668283 F668347 q668261 q668282 0 o668343 f668344 16 hm668293 hm668289 he668350 he668351 (gB_w (gBl (show Int32.toInt 0 = 0 by decide)) (by decide) (by decide)) (gB_w bo668343' (by decide) (by decide)) bf668344 (by have qa0 : Int32.toInt 0 = 0 := (by decide); omega) (by have qa0 : Int32.toInt 0 = 0 := (by decide); omega)) dr_cX14_symbol_67 ⟨wr_8_66, wr_1_20, wr_8_69, by decide, rfl, (Nat.le_of_ble_eq_true rfl), (Nat.le_of_ble_eq_true rfl)⟩ wr_8_67 wr_8_68 hm668293 he668350 rfl (Nat.le_trans (show 2 + 2 ≤ 16 by decide) hMC) (show 20 + (o668343.toInt.toNat + 4) ≤ ((160 * (p667913.toInt - p667914.toInt)).toNat) by first | omega | decide) (Nat.le_of_ble_eq_true rfl) (fun r668358 w668359 dc668355 ds668356 hp668357 => ?_) (fun _ _ _ _ _ z => z.elim)
        obtain ⟨P668367, F668368, q668360, q668361, n668362, f668363, rfl, rfl, hsb668369, hfr668370, he668371, he668372, he668373, he668374, hm668375, hq668376, hm668377, hq668378, hdc, hds, bf668363, x668364, x668365, ht668366⟩ := hp668357
        have hm668379 : q667910 ∈ P668367 := hsb668369 q667910 hm668291
        have hm668380 : q667911 ∈ P668367 := hsb668369 q667911 hm668292
        have hm668381 : q668261 ∈ P668367 := hsb668369 q668261 hm668293
        have hm668382 : q668282 ∈ P668367 := hsb668369 q668282 hm668289
        have hq668383 : q668360 ∉ P667908 := fun z => hq668376 (hsb668295 q668360 z)
        have hq668384 : q668361 ∉ P667908 := fun z => hq668378 (hsb668295 q668361 z)
        have hsb668385 : rSub P667908 P668367 := rSub_tr hsb668295 hsb668369
        have he668386 : F668368 q667910 = .inr (19, [.ref q667911, .int p667913, .int p667914, .int p667915, .int p667916, .int p667917, .int p667918, .ref qo667919, .int p667920, .int p667921, .int p667922, .ref qo667923, .ref qo667924, .int p667925]) := (hfr668370 q667910 hm668291 nm_n).trans he668352
        have he668387 : F668368 q667911 = .inl (I .byte, 8192, .inl f667926) := (hfr668370 q667911 hm668292 nm_n).trans he668353
        have hfr668388 : rFr [] P667908 F667909 F668368 := rFr_call hsb668295 hfr668354 hfr668370 (fun b hb hn => ⟨nm_n, nm_n⟩)
        have hne668389 : q668282 ≠ q668361 := fun h => hq668378 (h ▸ hm668289)
        change G _ _ _ _ _ _ _ (.ref q668360 :: _) _ _ _
        refine G_widen (cs' := 4) (sl' := 20 + (o668343.toInt.toNat + 4)) (Nat.add_le_add_left hdc 2) (by omega) ?_
        refine G_goto 75 dr_cX14_symbol_70 (by decide +kernel) ?_
        refine G_astore_n (L' := [(2, .ref q668360), (0, .ref q667910), (1, .int p667912)]) dr_cX14_symbol_75 (Nat.le_of_ble_eq_true rfl) rfl ?_
        clear jn667932 bz668250 he668268 he668269 he668270 hm668271 hm668272 hm668273 hq668274 hfr668275 hsb668276 hsb668285 hfr668286 he668287 he668288 hm668289 hq668290 hm668291 hm668292 hm668293 hq668294 hsb668295 he668296 he668297 hfr668298 hfr668313 he668314 he668315 bf668306 he668316 he668317 hfr668318 ez668319 bz668319 hfr668331 he668332 he668333 bf668326 he668334 he668335 hfr668336 ez668337 bz668337 hfr668349 he668350 he668351 bf668344 he668352 he668353 hfr668354 hsb668369 hfr668370 he668372 he668373 hq668376 hq668378 hm668381 hm668382 hne668389; try clear r668280; try clear w668281; try clear dc668277; try clear ds668278; try clear hp668279; try clear r668303; try clear w668304; try clear dc668300; try clear ds668301; try clear hp668302; try clear x668308; try clear x668309; try clear r668323; try clear w668324; try clear dc668320; try clear ds668321; try clear hp668322; try clear r668341; try clear w668342; try clear dc668338; try clear ds668339; try clear hp668340; try clear r668358; try clear w668359; try clear dc668355; try clear ds668356; try clear hp668357; try clear x668365
        refine G_aload_n 0 dr_cX14_symbol_76 rfl ?_
        refine Gw_callV (As := []) (gV_ok D I) (cp_658286_String_length l hl0 D I P668367 F668368 q668360 q668361 0 0 f668363 n668362 hm668375 hm668377 he668371 he668374 (gB_w (gBl (show Int32.toInt 0 = 0 by decide)) (by decide) (by decide)) bf668363 (by have qa0 : Int32.toInt 0 = 0 := (by decide); omega)) dr_cX14_symbol_77 ⟨wr_8_227, wr_1_21, wr_3_60, by decide, rfl, (Nat.le_of_ble_eq_true rfl), (Nat.le_of_ble_eq_true rfl)⟩ wr_3_58 wr_3_59 hm668375 he668371 rfl (Nat.le_trans (show 4 + 0 ≤ 16 by decide) hMC) (show 20 + (o668343.toInt.toNat + 4) + 0 ≤ ((160 * (p667913.toInt - p667914.toInt)).toNat) by first | omega | decide) (Nat.le_of_ble_eq_true rfl) (fun r668393 w668394 dc668390 ds668391 hp668392 => ?_) (fun _ _ _ _ _ z => z.elim)
        obtain ⟨o668395, rfl, rfl, hdc, hds, bo668395, x668396, ht668397⟩ := hp668392
        have bo668395' : gB o668395 2 2 := ⟨by omega, by omega⟩
        change G _ _ _ _ _ _ _ (.int o668395 :: _) _ _ _
        refine G_widen (cs' := 4) (sl' := 20 + (o668343.toInt.toNat + 4) + 0) (Nat.add_le_add_left hdc 4) (by omega) ?_
        refine G_iconst 2 dr_cX14_symbol_80 (by decide +kernel) ?_
        refine G_icmp_ne 120 dr_cX14_symbol_81 (by decide +kernel) (fun hc => absurd (show False by have := gj_neq hc (show Int32.toInt 2 = 2 by decide); omega) not_false) (fun _ => ?_)
        try clear r668393; try clear w668394; try clear dc668390; try clear ds668391; try clear hp668392
        refine G_ldcK (a := D.2 1000 36) dr_cX14_symbol_84 (fun _ _ _ h => gx_vk 36 rfl rfl h) ?_
        have hl36_668397 : (sb_36.length : Int) = 16 := rfl
        refine G_new [.null, .int 0, .int 0, .int 0] dr_cX14_symbol_86 (gk_J4 D I) wr_7_235 wr_7_44 wr_1_20 (gfs_J4) (Nat.le_trans (show 4 + 1 ≤ 16 by decide) hMC) (show 20 + (o668343.toInt.toNat + 4) + 0 + 4 ≤ ((160 * (p667913.toInt - p667914.toInt)).toNat) by first | omega | decide) (fun q668399 => Gp_in (fun P668400 F668401 hq668402 hP668403 e668404 n668405 => ?_))
        refine G_widen (cs' := 5) (sl' := 20 + (o668343.toInt.toNat + 4) + 0 + 4) (by omega) (by omega) ?_
        have he668406 : F668401 q667910 = .inr (19, [.ref q667911, .int p667913, .int p667914, .int p667915, .int p667916, .int p667917, .int p667918, .ref qo667919, .int p667920, .int p667921, .int p667922, .ref qo667923, .ref qo667924, .int p667925]) := (n668405 q667910 (fun h => hq668402 (h ▸ hm668379))).trans he668386
        have he668407 : F668401 q667911 = .inl (I .byte, 8192, .inl f667926) := (n668405 q667911 (fun h => hq668402 (h ▸ hm668380))).trans he668387
        have he668408 : F668401 q668360 = .inr (0, [.ref q668361, .int 0, .int 0, .int 0]) := (n668405 q668360 (fun h => hq668402 (h ▸ hm668375))).trans he668371
        have he668409 : F668401 q668361 = .inl (I .byte, n668362, .inl f668363) := (n668405 q668361 (fun h => hq668402 (h ▸ hm668377))).trans he668374
        have he668410 : F668401 q668399 = .inr (1, [.null, .int 0, .int 0, .int 0]) := e668404
        have hm668411 : q667910 ∈ P668400 := (hP668403 q667910).mpr (Or.inl hm668379)
        have hm668412 : q667911 ∈ P668400 := (hP668403 q667911).mpr (Or.inl hm668380)
        have hm668413 : q668360 ∈ P668400 := (hP668403 q668360).mpr (Or.inl hm668375)
        have hm668414 : q668361 ∈ P668400 := (hP668403 q668361).mpr (Or.inl hm668377)
        have hm668415 : q668399 ∈ P668400 := (hP668403 q668399).mpr (Or.inr rfl)
        have hq668416 : q668399 ∉ P667908 := fun z => hq668402 (hsb668385 q668399 z)
        have hfr668417 : rFr [] P667908 F667909 F668401 := rFr_new hsb668385 hq668402 hfr668388 n668405
        have hsb668418 : rSub P667908 P668400 := rSub_new hsb668385 hP668403
        refine G_dup dr_cX14_symbol_89 rfl ?_
        refine Gw_callI (As := []) (gV_ok D I) (cp_658184_StringBuilder_init l hl0 D I P668400 F668401 q668399 0 0 hm668415 he668410 (gB_w (gBl (show Int32.toInt 0 = 0 by decide)) (by decide) (by decide)) (gB_w (gBl (show Int32.toInt 0 = 0 by decide)) (by decide) (by decide))) dr_cX14_symbol_90 ⟨wr_7_236, wr_1_20, wr_7_47, by decide, rfl, (Nat.le_of_ble_eq_true rfl), (Nat.le_of_ble_eq_true rfl)⟩ wr_7_46 rfl (Nat.le_trans (show 5 + 1 ≤ 16 by decide) hMC) (show 20 + (o668343.toInt.toNat + 4) + 0 + 4 + 16 ≤ ((160 * (p667913.toInt - p667914.toInt)).toNat) by first | omega | decide) (Nat.le_of_ble_eq_true rfl) (fun r668422 w668423 dc668419 ds668420 hp668421 => ?_)
        obtain ⟨P668425, F668426, q668424, rfl, rfl, hsb668427, hfr668428, he668429, he668430, hm668431, hq668432, hdc, hds⟩ := hp668421
        have hm668433 : q667910 ∈ P668425 := hsb668427 q667910 hm668411
        have hm668434 : q667911 ∈ P668425 := hsb668427 q667911 hm668412
        have hm668435 : q668360 ∈ P668425 := hsb668427 q668360 hm668413
        have hm668436 : q668361 ∈ P668425 := hsb668427 q668361 hm668414
        have hm668437 : q668399 ∈ P668425 := hsb668427 q668399 hm668415
        have hq668438 : q668424 ∉ P667908 := fun z => hq668432 (hsb668418 q668424 z)
        have hsb668439 : rSub P667908 P668425 := rSub_tr hsb668418 hsb668427
        have he668440 : F668426 q667910 = .inr (19, [.ref q667911, .int p667913, .int p667914, .int p667915, .int p667916, .int p667917, .int p667918, .ref qo667919, .int p667920, .int p667921, .int p667922, .ref qo667923, .ref qo667924, .int p667925]) := (hfr668428 q667910 hm668411 (nm_c (fun h => hq668416 (h ▸ hmq667910)) nm_n)).trans he668406
        have he668441 : F668426 q667911 = .inl (I .byte, 8192, .inl f667926) := (hfr668428 q667911 hm668412 (nm_c (fun h => hq668416 (h ▸ hmq667911)) nm_n)).trans he668407
        have he668442 : F668426 q668360 = .inr (0, [.ref q668361, .int 0, .int 0, .int 0]) := (hfr668428 q668360 hm668413 (nm_c (rn_oo he668408 he668410 (by decide)) nm_n)).trans he668408
        have he668443 : F668426 q668361 = .inl (I .byte, n668362, .inl f668363) := (hfr668428 q668361 hm668414 (nm_c (rn_ao he668409 he668410) nm_n)).trans he668409
        have hfr668444 : rFr [] P667908 F667909 F668426 := rFr_call hsb668418 hfr668417 hfr668428 (fun b hb hn => ⟨nm_n, (nm_c (fun e => hq668416 (e ▸ hb)) nm_n)⟩)
        have hne668445 : q668361 ≠ q668424 := fun h => hq668432 (h ▸ hm668414)
        change G _ _ _ _ _ _ _ _ _ _ _
        refine G_widen (cs' := 6) (sl' := 20 + (o668343.toInt.toNat + 4) + 0 + 4 + 16) (Nat.add_le_add_left hdc 5) (by omega) ?_
        refine G_ldcK (a := D.2 1000 35) dr_cX14_symbol_93 (fun _ _ _ h => gx_vk 35 rfl rfl h) ?_
        have hl35_668445 : (sb_35.length : Int) = 1 := rfl
        refine Gw_callV (As := [.ref (D.2 1000 35)]) (gV_ok D I) (cp_658486_StringBuilder_append l hl0 D I P668425 F668426 q668399 q668424 (D.2 1000 35) (D.2 1001 35) sb_35 0 0 (fun _ => 0) 16 hm668437 hm668431 he668429 he668430 (gx_sc 35 rfl rfl) (by omega) (by decide +kernel) (gB_w (gBl (show Int32.toInt 0 = 0 by decide)) (by decide) (by decide)) (gB_w (gBl (show Int32.toInt 0 = 0 by decide)) (by decide) (by decide)) (gF_w gF_0 (by decide) (by decide)) (by have qa0 : Int32.toInt 0 = 0 := (by decide); omega) (by have qa0 : Int32.toInt 0 = 0 := (by decide); omega)) dr_cX14_symbol_95 ⟨wr_8_195, wr_1_20, wr_8_143, by decide, rfl, (Nat.le_of_ble_eq_true rfl), (Nat.le_of_ble_eq_true rfl)⟩ wr_8_141 wr_8_142 hm668437 he668429 rfl (Nat.le_trans (show 6 + 0 ≤ 16 by decide) hMC) (show 20 + (o668343.toInt.toNat + 4) + 0 + 4 + 16 + 0 ≤ ((160 * (p667913.toInt - p667914.toInt)).toNat) by first | omega | decide) (Nat.le_of_ble_eq_true rfl) (fun r668450 w668451 dc668447 ds668448 hp668449 => ?_) (fun _ _ _ _ _ z => z.elim)
        obtain ⟨F668458, o668452, f668453, rfl, rfl, hfr668460, he668461, he668462, hdc, hds, bo668452, bf668453, x668454, x668455, x668456, ht668457⟩ := hp668449
        have he668463 : F668458 q667910 = .inr (19, [.ref q667911, .int p667913, .int p667914, .int p667915, .int p667916, .int p667917, .int p667918, .ref qo667919, .int p667920, .int p667921, .int p667922, .ref qo667923, .ref qo667924, .int p667925]) := (hfr668460 q667910 hm668433 (nm_c (fun h => hq668416 (h ▸ hmq667910)) (nm_c (fun h => hq668438 (h ▸ hmq667910)) nm_n))).trans he668440
        have he668464 : F668458 q667911 = .inl (I .byte, 8192, .inl f667926) := (hfr668460 q667911 hm668434 (nm_c (fun h => hq668416 (h ▸ hmq667911)) (nm_c (fun h => hq668438 (h ▸ hmq667911)) nm_n))).trans he668441
        have he668465 : F668458 q668360 = .inr (0, [.ref q668361, .int 0, .int 0, .int 0]) := (hfr668460 q668360 hm668435 (nm_c (rn_oo he668442 he668429 (by decide)) (nm_c (rn_oa he668442 he668430) nm_n))).trans he668442
        have he668466 : F668458 q668361 = .inl (I .byte, n668362, .inl f668363) := (hfr668460 q668361 hm668436 (nm_c (rn_ao he668443 he668429) (nm_c hne668445 nm_n))).trans he668443
        have hfr668467 : rFr [] P667908 F667909 F668458 := rFr_call hsb668439 hfr668444 hfr668460 (fun b hb hn => ⟨nm_n, (nm_c (fun e => hq668416 (e ▸ hb)) (nm_c (fun e => hq668438 (e ▸ hb)) nm_n))⟩)
        rw [show Int32.toInt 0 = 0 from by decide] at x668454
        have bo668452' : gB o668452 1 1 := ⟨by omega, by omega⟩
        rw [show Int32.toInt 0 = 0 from by decide] at x668455
        rw [show Int32.toInt 0 = 0 from by decide] at x668456
        change G _ _ _ _ _ _ _ (.ref q668399 :: _) _ _ _
        refine G_widen (cs' := 6) (sl' := 20 + (o668343.toInt.toNat + 4) + 0 + 4 + 16 + 0) (Nat.add_le_add_left hdc 6) (by omega) ?_
        refine G_aload_n 0 dr_cX14_symbol_98 rfl ?_
        refine Gw_callV (As := [.ref q668360]) (gV_ok D I) (cp_658258_StringBuilder_append l hl0 D I P668425 F668458 q668399 q668360 q668424 q668361 0 o668452 0 0 f668453 16 f668363 n668362 hm668437 hm668435 hm668431 hm668436 he668461 he668465 he668462 he668466 (Ne.symm hne668445) (gB_w (gBl (show Int32.toInt 0 = 0 by decide)) (by decide) (by decide)) (gB_w bo668452' (by decide) (by decide)) (gB_w (gBl (show Int32.toInt 0 = 0 by decide)) (by decide) (by decide)) bf668453 bf668363 (by have qa0 : Int32.toInt 0 = 0 := (by decide); omega) (by have qa0 : Int32.toInt 0 = 0 := (by decide); omega) (by have qa0 : Int32.toInt 0 = 0 := (by decide); omega)) dr_cX14_symbol_99 ⟨wr_8_195, wr_1_20, wr_8_143, by decide, rfl, (Nat.le_of_ble_eq_true rfl), (Nat.le_of_ble_eq_true rfl)⟩ wr_8_141 wr_8_142 hm668437 he668461 rfl (Nat.le_trans (show 6 + 0 ≤ 16 by decide) hMC) (show 20 + (o668343.toInt.toNat + 4) + 0 + 4 + 16 + 0 + 0 ≤ ((160 * (p667913.toInt - p667914.toInt)).toNat) by first | omega | decide) (Nat.le_of_ble_eq_true rfl) (fun r668471 w668472 dc668468 ds668469 hp668470 => ?_) (fun _ _ _ _ _ z => z.elim)
        obtain ⟨F668479, o668473, f668474, rfl, rfl, hfr668481, he668482, he668483, he668484, he668485, hdc, hds, bo668473, bf668474, x668475, x668476, x668477, ht668478⟩ := hp668470
        have he668486 : F668479 q667910 = .inr (19, [.ref q667911, .int p667913, .int p667914, .int p667915, .int p667916, .int p667917, .int p667918, .ref qo667919, .int p667920, .int p667921, .int p667922, .ref qo667923, .ref qo667924, .int p667925]) := (hfr668481 q667910 hm668433 (nm_c (fun h => hq668416 (h ▸ hmq667910)) (nm_c (fun h => hq668438 (h ▸ hmq667910)) nm_n))).trans he668463
        have he668487 : F668479 q667911 = .inl (I .byte, 8192, .inl f667926) := (hfr668481 q667911 hm668434 (nm_c (fun h => hq668416 (h ▸ hmq667911)) (nm_c (fun h => hq668438 (h ▸ hmq667911)) nm_n))).trans he668464
        have hfr668488 : rFr [] P667908 F667909 F668479 := rFr_call hsb668439 hfr668467 hfr668481 (fun b hb hn => ⟨nm_n, (nm_c (fun e => hq668416 (e ▸ hb)) (nm_c (fun e => hq668438 (e ▸ hb)) nm_n))⟩)
        have bo668473' : gB o668473 3 3 := ⟨by omega, by omega⟩
        change G _ _ _ _ _ _ _ (.ref q668399 :: _) _ _ _
        refine G_widen (cs' := 6) (sl' := 20 + (o668343.toInt.toNat + 4) + 0 + 4 + 16 + 0 + 0) (Nat.add_le_add_left hdc 6) (by omega) ?_
        refine G_ldcK (a := D.2 1000 35) dr_cX14_symbol_102 (fun _ _ _ h => gx_vk 35 rfl rfl h) ?_
        have hl35_668488 : (sb_35.length : Int) = 1 := rfl
        refine Gw_callV (As := [.ref (D.2 1000 35)]) (gV_ok D I) (cp_658486_StringBuilder_append l hl0 D I P668425 F668479 q668399 q668424 (D.2 1000 35) (D.2 1001 35) sb_35 0 o668473 f668474 16 hm668437 hm668431 he668482 he668484 (gx_sc 35 rfl rfl) (by omega) (by decide +kernel) (gB_w (gBl (show Int32.toInt 0 = 0 by decide)) (by decide) (by decide)) (gB_w bo668473' (by decide) (by decide)) bf668474 (by have qa0 : Int32.toInt 0 = 0 := (by decide); omega) (by have qa0 : Int32.toInt 0 = 0 := (by decide); omega)) dr_cX14_symbol_104 ⟨wr_8_195, wr_1_20, wr_8_143, by decide, rfl, (Nat.le_of_ble_eq_true rfl), (Nat.le_of_ble_eq_true rfl)⟩ wr_8_141 wr_8_142 hm668437 he668482 rfl (Nat.le_trans (show 6 + 0 ≤ 16 by decide) hMC) (show 20 + (o668343.toInt.toNat + 4) + 0 + 4 + 16 + 0 + 0 + 0 ≤ ((160 * (p667913.toInt - p667914.toInt)).toNat) by first | omega | decide) (Nat.le_of_ble_eq_true rfl) (fun r668493 w668494 dc668490 ds668491 hp668492 => ?_) (fun _ _ _ _ _ z => z.elim)
        obtain ⟨F668501, o668495, f668496, rfl, rfl, hfr668503, he668504, he668505, hdc, hds, bo668495, bf668496, x668497, x668498, x668499, ht668500⟩ := hp668492
        have he668506 : F668501 q667910 = .inr (19, [.ref q667911, .int p667913, .int p667914, .int p667915, .int p667916, .int p667917, .int p667918, .ref qo667919, .int p667920, .int p667921, .int p667922, .ref qo667923, .ref qo667924, .int p667925]) := (hfr668503 q667910 hm668433 (nm_c (fun h => hq668416 (h ▸ hmq667910)) (nm_c (fun h => hq668438 (h ▸ hmq667910)) nm_n))).trans he668486
        have he668507 : F668501 q667911 = .inl (I .byte, 8192, .inl f667926) := (hfr668503 q667911 hm668434 (nm_c (fun h => hq668416 (h ▸ hmq667911)) (nm_c (fun h => hq668438 (h ▸ hmq667911)) nm_n))).trans he668487
        have he668508 : F668501 q668360 = .inr (0, [.ref q668361, .int 0, .int 0, .int 0]) := (hfr668503 q668360 hm668435 (nm_c (rn_oo he668483 he668482 (by decide)) (nm_c (rn_oa he668483 he668484) nm_n))).trans he668483
        have he668509 : F668501 q668361 = .inl (I .byte, n668362, .inl f668363) := (hfr668503 q668361 hm668436 (nm_c (rn_ao he668485 he668482) (nm_c hne668445 nm_n))).trans he668485
        have hfr668510 : rFr [] P667908 F667909 F668501 := rFr_call hsb668439 hfr668488 hfr668503 (fun b hb hn => ⟨nm_n, (nm_c (fun e => hq668416 (e ▸ hb)) (nm_c (fun e => hq668438 (e ▸ hb)) nm_n))⟩)
        have bo668495' : gB o668495 4 4 := ⟨by omega, by omega⟩
        change G _ _ _ _ _ _ _ (.ref q668399 :: _) _ _ _
        refine G_widen (cs' := 6) (sl' := 20 + (o668343.toInt.toNat + 4) + 0 + 4 + 16 + 0 + 0 + 0) (Nat.add_le_add_left hdc 6) (by omega) ?_
        refine Gw_callV (As := []) (gV_ok D I) (cp_658959_StringBuilder_toString l hl0 D I P668425 F668501 q668399 q668424 0 o668495 f668496 16 hm668437 hm668431 he668504 he668505 (gB_w (gBl (show Int32.toInt 0 = 0 by decide)) (by decide) (by decide)) (gB_w bo668495' (by decide) (by decide)) bf668496 (by have qa0 : Int32.toInt 0 = 0 := (by decide); omega) (by have qa0 : Int32.toInt 0 = 0 := (by decide); omega)) dr_cX14_symbol_107 ⟨wr_8_66, wr_1_20, wr_8_69, by decide, rfl, (Nat.le_of_ble_eq_true rfl), (Nat.le_of_ble_eq_true rfl)⟩ wr_8_67 wr_8_68 hm668437 he668504 rfl (Nat.le_trans (show 6 + 2 ≤ 16 by decide) hMC) (show 20 + (o668343.toInt.toNat + 4) + 0 + 4 + 16 + 0 + 0 + 0 + (o668495.toInt.toNat + 4) ≤ ((160 * (p667913.toInt - p667914.toInt)).toNat) by first | omega | decide) (Nat.le_of_ble_eq_true rfl) (fun r668514 w668515 dc668511 ds668512 hp668513 => ?_) (fun _ _ _ _ _ z => z.elim)
        obtain ⟨P668523, F668524, q668516, q668517, n668518, f668519, rfl, rfl, hsb668525, hfr668526, he668527, he668528, he668529, he668530, hm668531, hq668532, hm668533, hq668534, hdc, hds, bf668519, x668520, x668521, ht668522⟩ := hp668513
        have hm668535 : q667910 ∈ P668523 := hsb668525 q667910 hm668433
        have hm668536 : q667911 ∈ P668523 := hsb668525 q667911 hm668434
        have hm668537 : q668360 ∈ P668523 := hsb668525 q668360 hm668435
        have hm668538 : q668361 ∈ P668523 := hsb668525 q668361 hm668436
        have hm668539 : q668399 ∈ P668523 := hsb668525 q668399 hm668437
        have hm668540 : q668424 ∈ P668523 := hsb668525 q668424 hm668431
        have hq668541 : q668516 ∉ P667908 := fun z => hq668532 (hsb668439 q668516 z)
        have hq668542 : q668517 ∉ P667908 := fun z => hq668534 (hsb668439 q668517 z)
        have hsb668543 : rSub P667908 P668523 := rSub_tr hsb668439 hsb668525
        have he668544 : F668524 q667910 = .inr (19, [.ref q667911, .int p667913, .int p667914, .int p667915, .int p667916, .int p667917, .int p667918, .ref qo667919, .int p667920, .int p667921, .int p667922, .ref qo667923, .ref qo667924, .int p667925]) := (hfr668526 q667910 hm668433 nm_n).trans he668506
        have he668545 : F668524 q667911 = .inl (I .byte, 8192, .inl f667926) := (hfr668526 q667911 hm668434 nm_n).trans he668507
        have he668546 : F668524 q668360 = .inr (0, [.ref q668361, .int 0, .int 0, .int 0]) := (hfr668526 q668360 hm668435 nm_n).trans he668508
        have he668547 : F668524 q668361 = .inl (I .byte, n668362, .inl f668363) := (hfr668526 q668361 hm668436 nm_n).trans he668509
        have hfr668548 : rFr [] P667908 F667909 F668524 := rFr_call hsb668439 hfr668510 hfr668526 (fun b hb hn => ⟨nm_n, nm_n⟩)
        have hne668549 : q668360 ≠ q668516 := fun h => hq668532 (h ▸ hm668435)
        have hne668550 : q668361 ≠ q668517 := fun h => hq668534 (h ▸ hm668436)
        have hne668551 : q668424 ≠ q668517 := fun h => hq668534 (h ▸ hm668431)
        change G _ _ _ _ _ _ _ (.ref q668516 :: _) _ _ _
        refine G_widen (cs' := 8) (sl' := 20 + (o668343.toInt.toNat + 4) + 0 + 4 + 16 + 0 + 0 + 0 + (o668495.toInt.toNat + 4)) (Nat.add_le_add_left hdc 6) (by omega) ?_
        refine Gw_callVk (As := [.ref q668516]) (gV_ok D I) (cp_659418_String_indexOf l hl0 D I P668523 F668524 q668516 q668517 (D.2 1000 36) (D.2 1001 36) sb_36 0 0 f668519 n668518 hm668531 hm668533 he668527 he668530 (gx_sc 36 rfl rfl) (by omega) (by decide +kernel) (gB_w (gBl (show Int32.toInt 0 = 0 by decide)) (by decide) (by decide)) bf668519 (by have qa0 : Int32.toInt 0 = 0 := (by decide); omega) (by have qa0 : Int32.toInt 0 = 0 := (by decide); omega)) dr_cX14_symbol_110 ⟨wr_8_196, wr_1_21, wr_8_199, by decide, rfl, (Nat.le_of_ble_eq_true rfl), (Nat.le_of_ble_eq_true rfl)⟩ wr_8_197 wr_8_198 (fun _ _ _ h => ((gx_sc 36 rfl rfl) _ _ _ h).1) (Nat.le_trans (show 8 + 0 ≤ 16 by decide) hMC) (show 20 + (o668343.toInt.toNat + 4) + 0 + 4 + 16 + 0 + 0 + 0 + (o668495.toInt.toNat + 4) + 0 ≤ ((160 * (p667913.toInt - p667914.toInt)).toNat) by first | omega | decide) (Nat.le_of_ble_eq_true rfl) (fun r668555 w668556 dc668552 ds668553 hp668554 => ?_) (fun _ _ _ _ _ z => z.elim)
        obtain ⟨o668557, rfl, rfl, hdc, hds, bo668557, x668558, x668559, ht668560⟩ := hp668554
        change G _ _ _ _ _ _ _ (.int o668557 :: _) _ _ _
        refine G_widen (cs' := 8) (sl' := 20 + (o668343.toInt.toNat + 4) + 0 + 4 + 16 + 0 + 0 + 0 + (o668495.toInt.toNat + 4) + 0) (Nat.add_le_add_left hdc 8) (by omega) ?_
        refine G_if_lt 120 dr_cX14_symbol_113 (by decide +kernel) (fun hc668561 => ?_) (fun hc668561 => ?_)
        · have r668562 : o668557.toInt < 0 := gj_lt hc668561 (show Int32.toInt 0 = 0 by decide)
          have bo668557' : gB o668557 (-2147483646) (-1) := ⟨by omega, by omega⟩
          refine G_iconst 0 dr_cX14_symbol_120 (by decide +kernel) ?_
          refine G_istore_n (L' := [(3, .int 0), (2, .ref q668360), (0, .ref q667910), (1, .int p667912)]) dr_cX14_symbol_121 (Nat.le_of_ble_eq_true rfl) rfl ?_
          clear he668371 he668374 hm668375 hm668377 hm668379 hm668380 hsb668385 he668386 he668387 hfr668388 he668406 he668407 he668408 he668409 he668410 hm668411 hm668412 hm668413 hm668414 hm668415 hq668416 hfr668417 hsb668418 hsb668427 hfr668428 he668429 he668430 hm668431 hq668432 hm668433 hm668434 hm668435 hm668436 hm668437 hq668438 hsb668439 he668440 he668441 he668442 he668443 hfr668444 hne668445 hfr668460 he668461 he668462 bf668453 he668463 he668464 he668465 he668466 hfr668467 hfr668481 he668482 he668483 he668484 he668485 bf668474 he668486 he668487 hfr668488 hfr668503 he668504 he668505 bf668496 he668506 he668507 he668508 he668509 hfr668510 hsb668525 hfr668526 he668527 he668528 he668529 he668530 hm668531 hq668532 hm668533 hq668534 bf668519 hm668539 hm668540 hq668541 hq668542 hne668549 hne668550 hne668551; try clear r668422; try clear w668423; try clear dc668419; try clear ds668420; try clear hp668421; try clear r668450; try clear w668451; try clear dc668447; try clear ds668448; try clear hp668449; try clear x668455; try clear x668456; try clear r668471; try clear w668472; try clear dc668468; try clear ds668469; try clear hp668470; try clear x668476; try clear x668477; try clear r668493; try clear w668494; try clear dc668490; try clear ds668491; try clear hp668492; try clear x668498; try clear x668499; try clear r668514; try clear w668515; try clear dc668511; try clear ds668512; try clear hp668513; try clear x668521; try clear r668555; try clear w668556; try clear dc668552; try clear ds668553; try clear hp668554; try clear x668559
          refine G_aload_n 2 dr_cX14_symbol_122 rfl ?_
          refine G_iload_n 0 dr_cX14_symbol_123 rfl ?_
          refine G_if_ne 143 dr_cX14_symbol_124 (by decide +kernel) (fun hc => absurd hc (by decide)) (fun _ => ?_)
          refine G_iload_n 3 dr_cX14_symbol_127 rfl ?_
          refine G_bipush 32 dr_cX14_symbol_128 (by decide +kernel) ?_
          refine G_icmp_le 147 dr_cX14_symbol_130 (by decide +kernel) (fun hc => absurd (show False by have := gj_le hc (show Int32.toInt 32 = 32 by decide); omega) not_false) (fun _ => ?_)
          refine G_ldcK (a := D.2 1000 37) dr_cX14_symbol_133 (fun _ _ _ h => gx_vk 37 rfl rfl h) ?_
          have hl37_668562 : (sb_37.length : Int) = 14 := rfl
          refine G_iload_n 3 dr_cX14_symbol_135 rfl ?_
          refine G_i2c dr_cX14_symbol_136 (G_nam fun z668564 hz668564 => ?_)
          have ez668564 : z668564.toInt = p667912.toInt := gI_i2c hz668564 (by omega) (by omega)
          have bz668564 : gB z668564 33 127 := ⟨by omega, by omega⟩
          refine Gw_callVk (As := [.int z668564]) (gV_ok D I) (cp_666493_String_indexOf l hl0 D I P668523 F668524 (D.2 1000 37) (D.2 1001 37) sb_37 z668564 (gx_sc 37 rfl rfl) (by omega) (by decide +kernel) (gB_w bz668564 (by decide) (by decide))) dr_cX14_symbol_137 ⟨wr_8_230, wr_1_21, wr_8_233, by decide, rfl, (Nat.le_of_ble_eq_true rfl), (Nat.le_of_ble_eq_true rfl)⟩ wr_8_231 wr_8_232 (fun _ _ _ h => ((gx_sc 37 rfl rfl) _ _ _ h).1) (Nat.le_trans (show 8 + 0 ≤ 16 by decide) hMC) (show 20 + (o668343.toInt.toNat + 4) + 0 + 4 + 16 + 0 + 0 + 0 + (o668495.toInt.toNat + 4) + 0 + 0 ≤ ((160 * (p667913.toInt - p667914.toInt)).toNat) by first | omega | decide) (Nat.le_of_ble_eq_true rfl) (fun r668568 w668569 dc668565 ds668566 hp668567 => ?_) (fun _ _ _ _ _ z => z.elim)
          obtain ⟨o668570, rfl, rfl, hdc, hds, bo668570, ht668571⟩ := hp668567
          change G _ _ _ _ _ _ _ (.int o668570 :: _) _ _ _
          refine G_widen (cs' := 8) (sl' := 20 + (o668343.toInt.toNat + 4) + 0 + 4 + 16 + 0 + 0 + 0 + (o668495.toInt.toNat + 4) + 0 + 0) (Nat.add_le_add_left hdc 8) (by omega) ?_
          refine G_if_lt 147 dr_cX14_symbol_140 (by decide +kernel) (fun hc668572 => ?_) (fun hc668572 => ?_)
          · have r668573 : o668570.toInt < 0 := gj_lt hc668572 (show Int32.toInt 0 = 0 by decide)
            have bo668570' : gB o668570 (-1) (-1) := ⟨by omega, by omega⟩
            refine G_bipush 6 dr_cX14_symbol_147 (by decide +kernel) ?_
            refine Gp_put 3 hm668535 he668544 dr_cX14_symbol_149 (gk_X14 D I) (Nat.le_of_ble_eq_true rfl) wr_9_39 rfl rfl rfl (Nat.le_of_ble_eq_true rfl) (fun F668574 e668575 n668576 => ?_)
            have he668577 : F668574 q667911 = .inl (I .byte, 8192, .inl f667926) := (n668576 q667911 (rn_ao he668545 he668544)).trans he668545
            have he668578 : F668574 q668360 = .inr (0, [.ref q668361, .int 0, .int 0, .int 0]) := (n668576 q668360 (fun h => hq668383 (h ▸ hmq667910))).trans he668546
            have he668579 : F668574 q668361 = .inl (I .byte, n668362, .inl f668363) := (n668576 q668361 (fun h => hq668384 (h ▸ hmq667910))).trans he668547
            have he668580 : F668574 q667910 = .inr (19, [.ref q667911, .int p667913, .int p667914, .int 6, .int p667916, .int p667917, .int p667918, .ref qo667919, .int p667920, .int p667921, .int p667922, .ref qo667923, .ref qo667924, .int p667925]) := e668575
            have hfr668581 : rFr [q667910] P667908 F667909 F668574 := rFr_put hfr668548 n668576
            clear he668544 he668545 he668546 he668547 hfr668548 ez668564 bz668564 bo668570'; try clear r668568; try clear w668569; try clear dc668565; try clear ds668566; try clear hp668567
            refine G_aload_n 2 dr_cX14_symbol_152 rfl ?_
            refine G_iload_n 0 dr_cX14_symbol_153 rfl ?_
            refine G_if_eq 161 dr_cX14_symbol_154 (by decide +kernel) (fun _ => ?_) (fun hc => absurd hc (by decide))
            refine G_iload_n 3 dr_cX14_symbol_161 rfl ?_
            refine G_bipush 32 dr_cX14_symbol_162 (by decide +kernel) ?_
            refine G_icmp_le 190 dr_cX14_symbol_164 (by decide +kernel) (fun hc => absurd (show False by have := gj_le hc (show Int32.toInt 32 = 32 by decide); omega) not_false) (fun _ => ?_)
            refine G_new [.null, .int 0, .int 0, .int 0] dr_cX14_symbol_167 (gk_J4 D I) wr_7_235 wr_7_44 wr_1_20 (gfs_J4) (Nat.le_trans (show 8 + 1 ≤ 16 by decide) hMC) (show 20 + (o668343.toInt.toNat + 4) + 0 + 4 + 16 + 0 + 0 + 0 + (o668495.toInt.toNat + 4) + 0 + 0 + 4 ≤ ((160 * (p667913.toInt - p667914.toInt)).toNat) by first | omega | decide) (fun q668582 => Gp_in (fun P668583 F668584 hq668585 hP668586 e668587 n668588 => ?_))
            refine G_widen (cs' := 9) (sl' := 20 + (o668343.toInt.toNat + 4) + 0 + 4 + 16 + 0 + 0 + 0 + (o668495.toInt.toNat + 4) + 0 + 0 + 4) (by omega) (by omega) ?_
            have he668589 : F668584 q667910 = .inr (19, [.ref q667911, .int p667913, .int p667914, .int 6, .int p667916, .int p667917, .int p667918, .ref qo667919, .int p667920, .int p667921, .int p667922, .ref qo667923, .ref qo667924, .int p667925]) := (n668588 q667910 (fun h => hq668585 (h ▸ hm668535))).trans he668580
            have he668590 : F668584 q667911 = .inl (I .byte, 8192, .inl f667926) := (n668588 q667911 (fun h => hq668585 (h ▸ hm668536))).trans he668577
            have he668591 : F668584 q668360 = .inr (0, [.ref q668361, .int 0, .int 0, .int 0]) := (n668588 q668360 (fun h => hq668585 (h ▸ hm668537))).trans he668578
            have he668592 : F668584 q668361 = .inl (I .byte, n668362, .inl f668363) := (n668588 q668361 (fun h => hq668585 (h ▸ hm668538))).trans he668579
            have he668593 : F668584 q668582 = .inr (1, [.null, .int 0, .int 0, .int 0]) := e668587
            have hm668594 : q667910 ∈ P668583 := (hP668586 q667910).mpr (Or.inl hm668535)
            have hm668595 : q667911 ∈ P668583 := (hP668586 q667911).mpr (Or.inl hm668536)
            have hm668596 : q668360 ∈ P668583 := (hP668586 q668360).mpr (Or.inl hm668537)
            have hm668597 : q668361 ∈ P668583 := (hP668586 q668361).mpr (Or.inl hm668538)
            have hm668598 : q668582 ∈ P668583 := (hP668586 q668582).mpr (Or.inr rfl)
            have hq668599 : q668582 ∉ P667908 := fun z => hq668585 (hsb668543 q668582 z)
            have hfr668600 : rFr [q667910] P667908 F667909 F668584 := rFr_new hsb668543 hq668585 hfr668581 n668588
            have hsb668601 : rSub P667908 P668583 := rSub_new hsb668543 hP668586
            refine G_dup dr_cX14_symbol_170 rfl ?_
            refine Gw_callI (As := []) (gV_ok D I) (cp_658184_StringBuilder_init l hl0 D I P668583 F668584 q668582 0 0 hm668598 he668593 (gB_w (gBl (show Int32.toInt 0 = 0 by decide)) (by decide) (by decide)) (gB_w (gBl (show Int32.toInt 0 = 0 by decide)) (by decide) (by decide))) dr_cX14_symbol_171 ⟨wr_7_236, wr_1_20, wr_7_47, by decide, rfl, (Nat.le_of_ble_eq_true rfl), (Nat.le_of_ble_eq_true rfl)⟩ wr_7_46 rfl (Nat.le_trans (show 9 + 1 ≤ 16 by decide) hMC) (show 20 + (o668343.toInt.toNat + 4) + 0 + 4 + 16 + 0 + 0 + 0 + (o668495.toInt.toNat + 4) + 0 + 0 + 4 + 16 ≤ ((160 * (p667913.toInt - p667914.toInt)).toNat) by first | omega | decide) (Nat.le_of_ble_eq_true rfl) (fun r668605 w668606 dc668602 ds668603 hp668604 => ?_)
            obtain ⟨P668608, F668609, q668607, rfl, rfl, hsb668610, hfr668611, he668612, he668613, hm668614, hq668615, hdc, hds⟩ := hp668604
            have hm668616 : q667910 ∈ P668608 := hsb668610 q667910 hm668594
            have hm668617 : q667911 ∈ P668608 := hsb668610 q667911 hm668595
            have hm668618 : q668360 ∈ P668608 := hsb668610 q668360 hm668596
            have hm668619 : q668361 ∈ P668608 := hsb668610 q668361 hm668597
            have hm668620 : q668582 ∈ P668608 := hsb668610 q668582 hm668598
            have hq668621 : q668607 ∉ P667908 := fun z => hq668615 (hsb668601 q668607 z)
            have hsb668622 : rSub P667908 P668608 := rSub_tr hsb668601 hsb668610
            have he668623 : F668609 q667910 = .inr (19, [.ref q667911, .int p667913, .int p667914, .int 6, .int p667916, .int p667917, .int p667918, .ref qo667919, .int p667920, .int p667921, .int p667922, .ref qo667923, .ref qo667924, .int p667925]) := (hfr668611 q667910 hm668594 (nm_c (fun h => hq668599 (h ▸ hmq667910)) nm_n)).trans he668589
            have he668624 : F668609 q667911 = .inl (I .byte, 8192, .inl f667926) := (hfr668611 q667911 hm668595 (nm_c (fun h => hq668599 (h ▸ hmq667911)) nm_n)).trans he668590
            have he668625 : F668609 q668360 = .inr (0, [.ref q668361, .int 0, .int 0, .int 0]) := (hfr668611 q668360 hm668596 (nm_c (rn_oo he668591 he668593 (by decide)) nm_n)).trans he668591
            have he668626 : F668609 q668361 = .inl (I .byte, n668362, .inl f668363) := (hfr668611 q668361 hm668597 (nm_c (rn_ao he668592 he668593) nm_n)).trans he668592
            have hfr668627 : rFr [q667910] P667908 F667909 F668609 := rFr_call hsb668601 hfr668600 hfr668611 (fun b hb hn => ⟨(nm_c (fun e => hn (e ▸ List.mem_cons_self)) nm_n), (nm_c (fun e => hq668599 (e ▸ hb)) nm_n)⟩)
            have hne668628 : q668361 ≠ q668607 := fun h => hq668615 (h ▸ hm668597)
            change G _ _ _ _ _ _ _ _ _ _ _
            refine G_widen (cs' := 10) (sl' := 20 + (o668343.toInt.toNat + 4) + 0 + 4 + 16 + 0 + 0 + 0 + (o668495.toInt.toNat + 4) + 0 + 0 + 4 + 16) (Nat.add_le_add_left hdc 9) (by omega) ?_
            refine G_ldcK (a := D.2 1000 32) dr_cX14_symbol_174 (fun _ _ _ h => gx_vk 32 rfl rfl h) ?_
            have hl32_668628 : (sb_32.length : Int) = 0 := rfl
            refine Gw_callV (As := [.ref (D.2 1000 32)]) (gV_ok D I) (cp_658486_StringBuilder_append l hl0 D I P668608 F668609 q668582 q668607 (D.2 1000 32) (D.2 1001 32) sb_32 0 0 (fun _ => 0) 16 hm668620 hm668614 he668612 he668613 (gx_sc 32 rfl rfl) (by omega) (by decide +kernel) (gB_w (gBl (show Int32.toInt 0 = 0 by decide)) (by decide) (by decide)) (gB_w (gBl (show Int32.toInt 0 = 0 by decide)) (by decide) (by decide)) (gF_w gF_0 (by decide) (by decide)) (by have qa0 : Int32.toInt 0 = 0 := (by decide); have qa1 : Int32.toInt 6 = 6 := (by decide); omega) (by have qa0 : Int32.toInt 0 = 0 := (by decide); have qa1 : Int32.toInt 6 = 6 := (by decide); omega)) dr_cX14_symbol_176 ⟨wr_8_195, wr_1_20, wr_8_143, by decide, rfl, (Nat.le_of_ble_eq_true rfl), (Nat.le_of_ble_eq_true rfl)⟩ wr_8_141 wr_8_142 hm668620 he668612 rfl (Nat.le_trans (show 10 + 0 ≤ 16 by decide) hMC) (show 20 + (o668343.toInt.toNat + 4) + 0 + 4 + 16 + 0 + 0 + 0 + (o668495.toInt.toNat + 4) + 0 + 0 + 4 + 16 + 0 ≤ ((160 * (p667913.toInt - p667914.toInt)).toNat) by first | omega | decide) (Nat.le_of_ble_eq_true rfl) (fun r668633 w668634 dc668630 ds668631 hp668632 => ?_) (fun _ _ _ _ _ z => z.elim)
            obtain ⟨F668641, o668635, f668636, rfl, rfl, hfr668643, he668644, he668645, hdc, hds, bo668635, bf668636, x668637, x668638, x668639, ht668640⟩ := hp668632
            have he668646 : F668641 q667910 = .inr (19, [.ref q667911, .int p667913, .int p667914, .int 6, .int p667916, .int p667917, .int p667918, .ref qo667919, .int p667920, .int p667921, .int p667922, .ref qo667923, .ref qo667924, .int p667925]) := (hfr668643 q667910 hm668616 (nm_c (fun h => hq668599 (h ▸ hmq667910)) (nm_c (fun h => hq668621 (h ▸ hmq667910)) nm_n))).trans he668623
            have he668647 : F668641 q667911 = .inl (I .byte, 8192, .inl f667926) := (hfr668643 q667911 hm668617 (nm_c (fun h => hq668599 (h ▸ hmq667911)) (nm_c (fun h => hq668621 (h ▸ hmq667911)) nm_n))).trans he668624
            have he668648 : F668641 q668360 = .inr (0, [.ref q668361, .int 0, .int 0, .int 0]) := (hfr668643 q668360 hm668618 (nm_c (rn_oo he668625 he668612 (by decide)) (nm_c (rn_oa he668625 he668613) nm_n))).trans he668625
            have he668649 : F668641 q668361 = .inl (I .byte, n668362, .inl f668363) := (hfr668643 q668361 hm668619 (nm_c (rn_ao he668626 he668612) (nm_c hne668628 nm_n))).trans he668626
            have hfr668650 : rFr [q667910] P667908 F667909 F668641 := rFr_call hsb668622 hfr668627 hfr668643 (fun b hb hn => ⟨(nm_c (fun e => hn (e ▸ List.mem_cons_self)) nm_n), (nm_c (fun e => hq668599 (e ▸ hb)) (nm_c (fun e => hq668621 (e ▸ hb)) nm_n))⟩)
            rw [show Int32.toInt 0 = 0 from by decide] at x668637
            have bo668635' : gB o668635 0 0 := ⟨by omega, by omega⟩
            rw [show Int32.toInt 0 = 0 from by decide] at x668638
            rw [show Int32.toInt 0 = 0 from by decide] at x668639
            change G _ _ _ _ _ _ _ (.ref q668582 :: _) _ _ _
            refine G_widen (cs' := 10) (sl' := 20 + (o668343.toInt.toNat + 4) + 0 + 4 + 16 + 0 + 0 + 0 + (o668495.toInt.toNat + 4) + 0 + 0 + 4 + 16 + 0) (Nat.add_le_add_left hdc 10) (by omega) ?_
            refine G_iload_n 3 dr_cX14_symbol_179 rfl ?_
            refine G_i2c dr_cX14_symbol_180 (G_nam fun z668651 hz668651 => ?_)
            have ez668651 : z668651.toInt = p667912.toInt := gI_i2c hz668651 (by omega) (by omega)
            have bz668651 : gB z668651 33 127 := ⟨by omega, by omega⟩
            refine Gw_callV (As := [.int z668651]) (gV_ok D I) (cp_657745_StringBuilder_append l hl0 D I P668608 F668641 q668582 q668607 z668651 0 o668635 f668636 16 hm668620 hm668614 he668644 he668645 (gB_w bz668651 (by decide) (by decide)) (gB_w (gBl (show Int32.toInt 0 = 0 by decide)) (by decide) (by decide)) (gB_w bo668635' (by decide) (by decide)) bf668636 (by have qa0 : Int32.toInt 0 = 0 := (by decide); have qa1 : Int32.toInt 6 = 6 := (by decide); omega) (by have qa0 : Int32.toInt 0 = 0 := (by decide); have qa1 : Int32.toInt 6 = 6 := (by decide); omega)) dr_cX14_symbol_181 ⟨wr_7_237, wr_1_20, wr_8_0, by decide, rfl, (Nat.le_of_ble_eq_true rfl), (Nat.le_of_ble_eq_true rfl)⟩ wr_7_238 wr_7_239 hm668620 he668644 rfl (Nat.le_trans (show 10 + 0 ≤ 16 by decide) hMC) (show 20 + (o668343.toInt.toNat + 4) + 0 + 4 + 16 + 0 + 0 + 0 + (o668495.toInt.toNat + 4) + 0 + 0 + 4 + 16 + 0 + 0 ≤ ((160 * (p667913.toInt - p667914.toInt)).toNat) by first | omega | decide) (Nat.le_of_ble_eq_true rfl) (fun r668655 w668656 dc668652 ds668653 hp668654 => ?_) (fun _ _ _ _ _ z => z.elim)
            obtain ⟨F668661, o668657, f668658, rfl, rfl, hfr668663, he668664, he668665, hdc, hds, bo668657, bf668658, x668659, ht668660⟩ := hp668654
            have he668666 : F668661 q667910 = .inr (19, [.ref q667911, .int p667913, .int p667914, .int 6, .int p667916, .int p667917, .int p667918, .ref qo667919, .int p667920, .int p667921, .int p667922, .ref qo667923, .ref qo667924, .int p667925]) := (hfr668663 q667910 hm668616 (nm_c (fun h => hq668621 (h ▸ hmq667910)) (nm_c (fun h => hq668599 (h ▸ hmq667910)) nm_n))).trans he668646
            have he668667 : F668661 q667911 = .inl (I .byte, 8192, .inl f667926) := (hfr668663 q667911 hm668617 (nm_c (fun h => hq668621 (h ▸ hmq667911)) (nm_c (fun h => hq668599 (h ▸ hmq667911)) nm_n))).trans he668647
            have he668668 : F668661 q668360 = .inr (0, [.ref q668361, .int 0, .int 0, .int 0]) := (hfr668663 q668360 hm668618 (nm_c (rn_oa he668648 he668645) (nm_c (rn_oo he668648 he668644 (by decide)) nm_n))).trans he668648
            have he668669 : F668661 q668361 = .inl (I .byte, n668362, .inl f668363) := (hfr668663 q668361 hm668619 (nm_c hne668628 (nm_c (rn_ao he668649 he668644) nm_n))).trans he668649
            have hfr668670 : rFr [q667910] P667908 F667909 F668661 := rFr_call hsb668622 hfr668650 hfr668663 (fun b hb hn => ⟨(nm_c (fun e => hn (e ▸ List.mem_cons_self)) nm_n), (nm_c (fun e => hq668621 (e ▸ hb)) (nm_c (fun e => hq668599 (e ▸ hb)) nm_n))⟩)
            have bo668657' : gB o668657 1 1 := ⟨by omega, by omega⟩
            change G _ _ _ _ _ _ _ (.ref q668582 :: _) _ _ _
            refine G_widen (cs' := 10) (sl' := 20 + (o668343.toInt.toNat + 4) + 0 + 4 + 16 + 0 + 0 + 0 + (o668495.toInt.toNat + 4) + 0 + 0 + 4 + 16 + 0 + 0) (Nat.add_le_add_left hdc 10) (by omega) ?_
            refine Gw_callV (As := []) (gV_ok D I) (cp_658959_StringBuilder_toString l hl0 D I P668608 F668661 q668582 q668607 0 o668657 f668658 16 hm668620 hm668614 he668664 he668665 (gB_w (gBl (show Int32.toInt 0 = 0 by decide)) (by decide) (by decide)) (gB_w bo668657' (by decide) (by decide)) bf668658 (by have qa0 : Int32.toInt 0 = 0 := (by decide); have qa1 : Int32.toInt 6 = 6 := (by decide); omega) (by have qa0 : Int32.toInt 0 = 0 := (by decide); have qa1 : Int32.toInt 6 = 6 := (by decide); omega)) dr_cX14_symbol_184 ⟨wr_8_66, wr_1_20, wr_8_69, by decide, rfl, (Nat.le_of_ble_eq_true rfl), (Nat.le_of_ble_eq_true rfl)⟩ wr_8_67 wr_8_68 hm668620 he668664 rfl (Nat.le_trans (show 10 + 2 ≤ 16 by decide) hMC) (show 20 + (o668343.toInt.toNat + 4) + 0 + 4 + 16 + 0 + 0 + 0 + (o668495.toInt.toNat + 4) + 0 + 0 + 4 + 16 + 0 + 0 + (o668657.toInt.toNat + 4) ≤ ((160 * (p667913.toInt - p667914.toInt)).toNat) by first | omega | decide) (Nat.le_of_ble_eq_true rfl) (fun r668674 w668675 dc668671 ds668672 hp668673 => ?_) (fun _ _ _ _ _ z => z.elim)
            obtain ⟨P668683, F668684, q668676, q668677, n668678, f668679, rfl, rfl, hsb668685, hfr668686, he668687, he668688, he668689, he668690, hm668691, hq668692, hm668693, hq668694, hdc, hds, bf668679, x668680, x668681, ht668682⟩ := hp668673
            have hm668695 : q667910 ∈ P668683 := hsb668685 q667910 hm668616
            have hm668696 : q667911 ∈ P668683 := hsb668685 q667911 hm668617
            have hm668697 : q668360 ∈ P668683 := hsb668685 q668360 hm668618
            have hm668698 : q668361 ∈ P668683 := hsb668685 q668361 hm668619
            have hm668699 : q668582 ∈ P668683 := hsb668685 q668582 hm668620
            have hm668700 : q668607 ∈ P668683 := hsb668685 q668607 hm668614
            have hq668701 : q668676 ∉ P667908 := fun z => hq668692 (hsb668622 q668676 z)
            have hq668702 : q668677 ∉ P667908 := fun z => hq668694 (hsb668622 q668677 z)
            have hsb668703 : rSub P667908 P668683 := rSub_tr hsb668622 hsb668685
            have he668704 : F668684 q667910 = .inr (19, [.ref q667911, .int p667913, .int p667914, .int 6, .int p667916, .int p667917, .int p667918, .ref qo667919, .int p667920, .int p667921, .int p667922, .ref qo667923, .ref qo667924, .int p667925]) := (hfr668686 q667910 hm668616 nm_n).trans he668666
            have he668705 : F668684 q667911 = .inl (I .byte, 8192, .inl f667926) := (hfr668686 q667911 hm668617 nm_n).trans he668667
            have he668706 : F668684 q668360 = .inr (0, [.ref q668361, .int 0, .int 0, .int 0]) := (hfr668686 q668360 hm668618 nm_n).trans he668668
            have he668707 : F668684 q668361 = .inl (I .byte, n668362, .inl f668363) := (hfr668686 q668361 hm668619 nm_n).trans he668669
            have hfr668708 : rFr [q667910] P667908 F667909 F668684 := rFr_call hsb668622 hfr668670 hfr668686 (fun b hb hn => ⟨(nm_c (fun e => hn (e ▸ List.mem_cons_self)) nm_n), nm_n⟩)
            have hne668709 : q668360 ≠ q668676 := fun h => hq668692 (h ▸ hm668618)
            have hne668710 : q668361 ≠ q668677 := fun h => hq668694 (h ▸ hm668619)
            have hne668711 : q668607 ≠ q668677 := fun h => hq668694 (h ▸ hm668614)
            change G _ _ _ _ _ _ _ (.ref q668676 :: _) _ _ _
            refine G_widen (cs' := 12) (sl' := 20 + (o668343.toInt.toNat + 4) + 0 + 4 + 16 + 0 + 0 + 0 + (o668495.toInt.toNat + 4) + 0 + 0 + 4 + 16 + 0 + 0 + (o668657.toInt.toNat + 4)) (Nat.add_le_add_left hdc 10) (by omega) ?_
            refine G_goto 192 dr_cX14_symbol_187 (by decide +kernel) ?_
            refine Gp_put 7 hm668695 he668704 dr_cX14_symbol_192 (gk_X14 D I) (Nat.le_of_ble_eq_true rfl) wr_9_43 rfl rfl rfl (Nat.le_of_ble_eq_true rfl) (fun F668712 e668713 n668714 => ?_)
            have he668715 : F668712 q667911 = .inl (I .byte, 8192, .inl f667926) := (n668714 q667911 (rn_ao he668705 he668704)).trans he668705
            have he668716 : F668712 q668360 = .inr (0, [.ref q668361, .int 0, .int 0, .int 0]) := (n668714 q668360 (fun h => hq668383 (h ▸ hmq667910))).trans he668706
            have he668717 : F668712 q668361 = .inl (I .byte, n668362, .inl f668363) := (n668714 q668361 (fun h => hq668384 (h ▸ hmq667910))).trans he668707
            have he668718 : F668712 q668676 = .inr (0, [.ref q668677, .int 0, .int 0, .int 0]) := (n668714 q668676 (fun h => hq668701 (h ▸ hmq667910))).trans he668687
            have he668719 : F668712 q668582 = .inr (1, [.ref q668607, .int 0, .int 0, .int o668657]) := (n668714 q668582 (fun h => hq668599 (h ▸ hmq667910))).trans he668688
            have he668720 : F668712 q668607 = .inl (I .byte, 16, .inl f668658) := (n668714 q668607 (fun h => hq668621 (h ▸ hmq667910))).trans he668689
            have he668721 : F668712 q668677 = .inl (I .byte, n668678, .inl f668679) := (n668714 q668677 (fun h => hq668702 (h ▸ hmq667910))).trans he668690
            have he668722 : F668712 q667910 = .inr (19, [.ref q667911, .int p667913, .int p667914, .int 6, .int p667916, .int p667917, .int p667918, .ref q668676, .int p667920, .int p667921, .int p667922, .ref qo667923, .ref qo667924, .int p667925]) := e668713
            have hfr668723 : rFr [q667910] P667908 F667909 F668712 := rFr_put' List.mem_cons_self hfr668708 n668714
            clear hm668535 hm668536 hm668537 hm668538 hsb668543 he668577 he668578 he668579 he668580 hfr668581 he668589 he668590 he668591 he668592 he668593 hm668594 hm668595 hm668596 hm668597 hm668598 hq668599 hfr668600 hsb668601 hsb668610 hfr668611 he668612 he668613 hm668614 hq668615 hm668616 hm668617 hm668618 hm668619 hm668620 hq668621 hsb668622 he668623 he668624 he668625 he668626 hfr668627 hne668628 hfr668643 he668644 he668645 bf668636 he668646 he668647 he668648 he668649 hfr668650 ez668651 bz668651 hfr668663 he668664 he668665 bf668658 he668666 he668667 he668668 he668669 hfr668670 hsb668685 hfr668686 he668687 he668688 he668689 he668690 hq668692 hq668694 hm668699 hm668700 he668704 he668705 he668706 he668707 hfr668708 hne668711 he668719 he668720; try clear r668605; try clear w668606; try clear dc668602; try clear ds668603; try clear hp668604; try clear r668633; try clear w668634; try clear dc668630; try clear ds668631; try clear hp668632; try clear x668638; try clear x668639; try clear r668655; try clear w668656; try clear dc668652; try clear ds668653; try clear hp668654; try clear r668674; try clear w668675; try clear dc668671; try clear ds668672; try clear hp668673; try clear x668681
            refine G_aload_n 2 dr_cX14_symbol_195 rfl ?_
            refine G_dup dr_cX14_symbol_196 rfl ?_
            refine Gp_get 2 hm668695 he668722 dr_cX14_symbol_197 (gk_X14 D I) (Nat.le_of_ble_eq_true rfl) wr_9_38 rfl ?_
            refine G_iload_n 0 dr_cX14_symbol_200 rfl ?_
            refine G_if_eq 208 dr_cX14_symbol_201 (by decide +kernel) (fun _ => ?_) (fun hc => absurd hc (by decide))
            refine G_iconst 1 dr_cX14_symbol_208 (by decide +kernel) ?_
            refine G_iadd dr_cX14_symbol_209 (G_eqi (y := z668250) hz668250.symm ?_)
            refine Gp_put 2 hm668695 he668722 dr_cX14_symbol_210 (gk_X14 D I) (Nat.le_of_ble_eq_true rfl) wr_9_38 rfl rfl rfl (Nat.le_of_ble_eq_true rfl) (fun F668724 e668725 n668726 => ?_)
            have he668727 : F668724 q667911 = .inl (I .byte, 8192, .inl f667926) := (n668726 q667911 (rn_ao he668715 he668722)).trans he668715
            have he668728 : F668724 q668360 = .inr (0, [.ref q668361, .int 0, .int 0, .int 0]) := (n668726 q668360 (fun h => hq668383 (h ▸ hmq667910))).trans he668716
            have he668729 : F668724 q668361 = .inl (I .byte, n668362, .inl f668363) := (n668726 q668361 (fun h => hq668384 (h ▸ hmq667910))).trans he668717
            have he668730 : F668724 q668676 = .inr (0, [.ref q668677, .int 0, .int 0, .int 0]) := (n668726 q668676 (fun h => hq668701 (h ▸ hmq667910))).trans he668718
            have he668731 : F668724 q668677 = .inl (I .byte, n668678, .inl f668679) := (n668726 q668677 (fun h => hq668702 (h ▸ hmq667910))).trans he668721
            have he668732 : F668724 q667910 = .inr (19, [.ref q667911, .int p667913, .int z668250, .int 6, .int p667916, .int p667917, .int p667918, .ref q668676, .int p667920, .int p667921, .int p667922, .ref qo667923, .ref qo667924, .int p667925]) := e668725
            have hfr668733 : rFr [q667910] P667908 F667909 F668724 := rFr_put' List.mem_cons_self hfr668723 n668726
            exact G_vretA dr_cX14_symbol_213 rfl (show 12 ≤ ((16 * (p667913.toInt - p667914.toInt)).toNat) by omega) (show 20 + (o668343.toInt.toNat + 4) + 0 + 4 + 16 + 0 + 0 + 0 + (o668495.toInt.toNat + 4) + 0 + 0 + 4 + 16 + 0 + 0 + (o668657.toInt.toNat + 4) ≤ ((160 * (p667913.toInt - p667914.toInt)).toNat) by omega) ⟨P668683, F668724, z668250, 6, q668676, (0, fun _ => 0), rfl, rfl, hsb668703, hfr668733, he668732, he668727, (by omega), (by omega), (gB_w bz668250' (by decide) (by decide)), (gB_w (gBl (show Int32.toInt 6 = 6 by decide)) (by decide) (by decide)), (by have qa0 : Int32.toInt 0 = 0 := (by decide); have qa1 : Int32.toInt 6 = 6 := (by decide); omega), (by have qa0 : Int32.toInt 0 = 0 := (by decide); have qa1 : Int32.toInt 6 = 6 := (by decide); omega), (tP_no (by decide) (by decide)), (vP_no (by decide) (by decide)), (fun R c1 c2 c3 c4 c5 c6 => c4 z668250 z668254 o668305 f668306 z668319 o668325 f668326 z668337 o668343 f668344 n668362 f668363 o668395 o668452 f668453 o668473 f668474 o668495 f668496 n668518 f668519 o668557 z668564 o668570 o668635 f668636 z668651 o668657 f668658 n668678 f668679 ez668250 r668253 hz668254 bz668254 r668257 r668260 bo668305 ht668310 hz668319 bo668325 ht668328 hz668337 bo668343 ht668346 ht668366 bo668395 ht668397 bo668452 ht668457 bo668473 ht668478 bo668495 ht668500 ht668522 bo668557 ht668560 r668562 hz668564 bo668570 ht668571 r668573 bo668635 ht668640 hz668651 bo668657 ht668660 ht668682)⟩
          · have r668734 : 0 ≤ o668570.toInt := gj_nlt hc668572 (show Int32.toInt 0 = 0 by decide)
            have bo668570' : gB o668570 0 65534 := ⟨by omega, by omega⟩
            refine G_iconst 5 dr_cX14_symbol_143 (by decide +kernel) ?_
            refine G_goto 149 dr_cX14_symbol_144 (by decide +kernel) ?_
            refine Gp_put 3 hm668535 he668544 dr_cX14_symbol_149 (gk_X14 D I) (Nat.le_of_ble_eq_true rfl) wr_9_39 rfl rfl rfl (Nat.le_of_ble_eq_true rfl) (fun F668735 e668736 n668737 => ?_)
            have he668738 : F668735 q667911 = .inl (I .byte, 8192, .inl f667926) := (n668737 q667911 (rn_ao he668545 he668544)).trans he668545
            have he668739 : F668735 q668360 = .inr (0, [.ref q668361, .int 0, .int 0, .int 0]) := (n668737 q668360 (fun h => hq668383 (h ▸ hmq667910))).trans he668546
            have he668740 : F668735 q668361 = .inl (I .byte, n668362, .inl f668363) := (n668737 q668361 (fun h => hq668384 (h ▸ hmq667910))).trans he668547
            have he668741 : F668735 q667910 = .inr (19, [.ref q667911, .int p667913, .int p667914, .int 5, .int p667916, .int p667917, .int p667918, .ref qo667919, .int p667920, .int p667921, .int p667922, .ref qo667923, .ref qo667924, .int p667925]) := e668736
            have hfr668742 : rFr [q667910] P667908 F667909 F668735 := rFr_put hfr668548 n668737
            clear he668544 he668545 he668546 he668547 hfr668548 ez668564 bz668564 bo668570'; try clear r668568; try clear w668569; try clear dc668565; try clear ds668566; try clear hp668567
            refine G_aload_n 2 dr_cX14_symbol_152 rfl ?_
            refine G_iload_n 0 dr_cX14_symbol_153 rfl ?_
            refine G_if_eq 161 dr_cX14_symbol_154 (by decide +kernel) (fun _ => ?_) (fun hc => absurd hc (by decide))
            refine G_iload_n 3 dr_cX14_symbol_161 rfl ?_
            refine G_bipush 32 dr_cX14_symbol_162 (by decide +kernel) ?_
            refine G_icmp_le 190 dr_cX14_symbol_164 (by decide +kernel) (fun hc => absurd (show False by have := gj_le hc (show Int32.toInt 32 = 32 by decide); omega) not_false) (fun _ => ?_)
            refine G_new [.null, .int 0, .int 0, .int 0] dr_cX14_symbol_167 (gk_J4 D I) wr_7_235 wr_7_44 wr_1_20 (gfs_J4) (Nat.le_trans (show 8 + 1 ≤ 16 by decide) hMC) (show 20 + (o668343.toInt.toNat + 4) + 0 + 4 + 16 + 0 + 0 + 0 + (o668495.toInt.toNat + 4) + 0 + 0 + 4 ≤ ((160 * (p667913.toInt - p667914.toInt)).toNat) by first | omega | decide) (fun q668743 => Gp_in (fun P668744 F668745 hq668746 hP668747 e668748 n668749 => ?_))
            refine G_widen (cs' := 9) (sl' := 20 + (o668343.toInt.toNat + 4) + 0 + 4 + 16 + 0 + 0 + 0 + (o668495.toInt.toNat + 4) + 0 + 0 + 4) (by omega) (by omega) ?_
            have he668750 : F668745 q667910 = .inr (19, [.ref q667911, .int p667913, .int p667914, .int 5, .int p667916, .int p667917, .int p667918, .ref qo667919, .int p667920, .int p667921, .int p667922, .ref qo667923, .ref qo667924, .int p667925]) := (n668749 q667910 (fun h => hq668746 (h ▸ hm668535))).trans he668741
            have he668751 : F668745 q667911 = .inl (I .byte, 8192, .inl f667926) := (n668749 q667911 (fun h => hq668746 (h ▸ hm668536))).trans he668738
            have he668752 : F668745 q668360 = .inr (0, [.ref q668361, .int 0, .int 0, .int 0]) := (n668749 q668360 (fun h => hq668746 (h ▸ hm668537))).trans he668739
            have he668753 : F668745 q668361 = .inl (I .byte, n668362, .inl f668363) := (n668749 q668361 (fun h => hq668746 (h ▸ hm668538))).trans he668740
            have he668754 : F668745 q668743 = .inr (1, [.null, .int 0, .int 0, .int 0]) := e668748
            have hm668755 : q667910 ∈ P668744 := (hP668747 q667910).mpr (Or.inl hm668535)
            have hm668756 : q667911 ∈ P668744 := (hP668747 q667911).mpr (Or.inl hm668536)
            have hm668757 : q668360 ∈ P668744 := (hP668747 q668360).mpr (Or.inl hm668537)
            have hm668758 : q668361 ∈ P668744 := (hP668747 q668361).mpr (Or.inl hm668538)
            have hm668759 : q668743 ∈ P668744 := (hP668747 q668743).mpr (Or.inr rfl)
            have hq668760 : q668743 ∉ P667908 := fun z => hq668746 (hsb668543 q668743 z)
            have hfr668761 : rFr [q667910] P667908 F667909 F668745 := rFr_new hsb668543 hq668746 hfr668742 n668749
            have hsb668762 : rSub P667908 P668744 := rSub_new hsb668543 hP668747
            refine G_dup dr_cX14_symbol_170 rfl ?_
            refine Gw_callI (As := []) (gV_ok D I) (cp_658184_StringBuilder_init l hl0 D I P668744 F668745 q668743 0 0 hm668759 he668754 (gB_w (gBl (show Int32.toInt 0 = 0 by decide)) (by decide) (by decide)) (gB_w (gBl (show Int32.toInt 0 = 0 by decide)) (by decide) (by decide))) dr_cX14_symbol_171 ⟨wr_7_236, wr_1_20, wr_7_47, by decide, rfl, (Nat.le_of_ble_eq_true rfl), (Nat.le_of_ble_eq_true rfl)⟩ wr_7_46 rfl (Nat.le_trans (show 9 + 1 ≤ 16 by decide) hMC) (show 20 + (o668343.toInt.toNat + 4) + 0 + 4 + 16 + 0 + 0 + 0 + (o668495.toInt.toNat + 4) + 0 + 0 + 4 + 16 ≤ ((160 * (p667913.toInt - p667914.toInt)).toNat) by first | omega | decide) (Nat.le_of_ble_eq_true rfl) (fun r668766 w668767 dc668763 ds668764 hp668765 => ?_)
            obtain ⟨P668769, F668770, q668768, rfl, rfl, hsb668771, hfr668772, he668773, he668774, hm668775, hq668776, hdc, hds⟩ := hp668765
            have hm668777 : q667910 ∈ P668769 := hsb668771 q667910 hm668755
            have hm668778 : q667911 ∈ P668769 := hsb668771 q667911 hm668756
            have hm668779 : q668360 ∈ P668769 := hsb668771 q668360 hm668757
            have hm668780 : q668361 ∈ P668769 := hsb668771 q668361 hm668758
            have hm668781 : q668743 ∈ P668769 := hsb668771 q668743 hm668759
            have hq668782 : q668768 ∉ P667908 := fun z => hq668776 (hsb668762 q668768 z)
            have hsb668783 : rSub P667908 P668769 := rSub_tr hsb668762 hsb668771
            have he668784 : F668770 q667910 = .inr (19, [.ref q667911, .int p667913, .int p667914, .int 5, .int p667916, .int p667917, .int p667918, .ref qo667919, .int p667920, .int p667921, .int p667922, .ref qo667923, .ref qo667924, .int p667925]) := (hfr668772 q667910 hm668755 (nm_c (fun h => hq668760 (h ▸ hmq667910)) nm_n)).trans he668750
            have he668785 : F668770 q667911 = .inl (I .byte, 8192, .inl f667926) := (hfr668772 q667911 hm668756 (nm_c (fun h => hq668760 (h ▸ hmq667911)) nm_n)).trans he668751
            have he668786 : F668770 q668360 = .inr (0, [.ref q668361, .int 0, .int 0, .int 0]) := (hfr668772 q668360 hm668757 (nm_c (rn_oo he668752 he668754 (by decide)) nm_n)).trans he668752
            have he668787 : F668770 q668361 = .inl (I .byte, n668362, .inl f668363) := (hfr668772 q668361 hm668758 (nm_c (rn_ao he668753 he668754) nm_n)).trans he668753
            have hfr668788 : rFr [q667910] P667908 F667909 F668770 := rFr_call hsb668762 hfr668761 hfr668772 (fun b hb hn => ⟨(nm_c (fun e => hn (e ▸ List.mem_cons_self)) nm_n), (nm_c (fun e => hq668760 (e ▸ hb)) nm_n)⟩)
            have hne668789 : q668361 ≠ q668768 := fun h => hq668776 (h ▸ hm668758)
            change G _ _ _ _ _ _ _ _ _ _ _
            refine G_widen (cs' := 10) (sl' := 20 + (o668343.toInt.toNat + 4) + 0 + 4 + 16 + 0 + 0 + 0 + (o668495.toInt.toNat + 4) + 0 + 0 + 4 + 16) (Nat.add_le_add_left hdc 9) (by omega) ?_
            refine G_ldcK (a := D.2 1000 32) dr_cX14_symbol_174 (fun _ _ _ h => gx_vk 32 rfl rfl h) ?_
            have hl32_668789 : (sb_32.length : Int) = 0 := rfl
            refine Gw_callV (As := [.ref (D.2 1000 32)]) (gV_ok D I) (cp_658486_StringBuilder_append l hl0 D I P668769 F668770 q668743 q668768 (D.2 1000 32) (D.2 1001 32) sb_32 0 0 (fun _ => 0) 16 hm668781 hm668775 he668773 he668774 (gx_sc 32 rfl rfl) (by omega) (by decide +kernel) (gB_w (gBl (show Int32.toInt 0 = 0 by decide)) (by decide) (by decide)) (gB_w (gBl (show Int32.toInt 0 = 0 by decide)) (by decide) (by decide)) (gF_w gF_0 (by decide) (by decide)) (by have qa0 : Int32.toInt 0 = 0 := (by decide); have qa1 : Int32.toInt 5 = 5 := (by decide); omega) (by have qa0 : Int32.toInt 0 = 0 := (by decide); have qa1 : Int32.toInt 5 = 5 := (by decide); omega)) dr_cX14_symbol_176 ⟨wr_8_195, wr_1_20, wr_8_143, by decide, rfl, (Nat.le_of_ble_eq_true rfl), (Nat.le_of_ble_eq_true rfl)⟩ wr_8_141 wr_8_142 hm668781 he668773 rfl (Nat.le_trans (show 10 + 0 ≤ 16 by decide) hMC) (show 20 + (o668343.toInt.toNat + 4) + 0 + 4 + 16 + 0 + 0 + 0 + (o668495.toInt.toNat + 4) + 0 + 0 + 4 + 16 + 0 ≤ ((160 * (p667913.toInt - p667914.toInt)).toNat) by first | omega | decide) (Nat.le_of_ble_eq_true rfl) (fun r668794 w668795 dc668791 ds668792 hp668793 => ?_) (fun _ _ _ _ _ z => z.elim)
            obtain ⟨F668802, o668796, f668797, rfl, rfl, hfr668804, he668805, he668806, hdc, hds, bo668796, bf668797, x668798, x668799, x668800, ht668801⟩ := hp668793
            have he668807 : F668802 q667910 = .inr (19, [.ref q667911, .int p667913, .int p667914, .int 5, .int p667916, .int p667917, .int p667918, .ref qo667919, .int p667920, .int p667921, .int p667922, .ref qo667923, .ref qo667924, .int p667925]) := (hfr668804 q667910 hm668777 (nm_c (fun h => hq668760 (h ▸ hmq667910)) (nm_c (fun h => hq668782 (h ▸ hmq667910)) nm_n))).trans he668784
            have he668808 : F668802 q667911 = .inl (I .byte, 8192, .inl f667926) := (hfr668804 q667911 hm668778 (nm_c (fun h => hq668760 (h ▸ hmq667911)) (nm_c (fun h => hq668782 (h ▸ hmq667911)) nm_n))).trans he668785
            have he668809 : F668802 q668360 = .inr (0, [.ref q668361, .int 0, .int 0, .int 0]) := (hfr668804 q668360 hm668779 (nm_c (rn_oo he668786 he668773 (by decide)) (nm_c (rn_oa he668786 he668774) nm_n))).trans he668786
            have he668810 : F668802 q668361 = .inl (I .byte, n668362, .inl f668363) := (hfr668804 q668361 hm668780 (nm_c (rn_ao he668787 he668773) (nm_c hne668789 nm_n))).trans he668787
            have hfr668811 : rFr [q667910] P667908 F667909 F668802 := rFr_call hsb668783 hfr668788 hfr668804 (fun b hb hn => ⟨(nm_c (fun e => hn (e ▸ List.mem_cons_self)) nm_n), (nm_c (fun e => hq668760 (e ▸ hb)) (nm_c (fun e => hq668782 (e ▸ hb)) nm_n))⟩)
            rw [show Int32.toInt 0 = 0 from by decide] at x668798
            have bo668796' : gB o668796 0 0 := ⟨by omega, by omega⟩
            rw [show Int32.toInt 0 = 0 from by decide] at x668799
            rw [show Int32.toInt 0 = 0 from by decide] at x668800
            change G _ _ _ _ _ _ _ (.ref q668743 :: _) _ _ _
            refine G_widen (cs' := 10) (sl' := 20 + (o668343.toInt.toNat + 4) + 0 + 4 + 16 + 0 + 0 + 0 + (o668495.toInt.toNat + 4) + 0 + 0 + 4 + 16 + 0) (Nat.add_le_add_left hdc 10) (by omega) ?_
            refine G_iload_n 3 dr_cX14_symbol_179 rfl ?_
            refine G_i2c dr_cX14_symbol_180 (G_nam fun z668812 hz668812 => ?_)
            have ez668812 : z668812.toInt = p667912.toInt := gI_i2c hz668812 (by omega) (by omega)
            have bz668812 : gB z668812 33 127 := ⟨by omega, by omega⟩
            refine Gw_callV (As := [.int z668812]) (gV_ok D I) (cp_657745_StringBuilder_append l hl0 D I P668769 F668802 q668743 q668768 z668812 0 o668796 f668797 16 hm668781 hm668775 he668805 he668806 (gB_w bz668812 (by decide) (by decide)) (gB_w (gBl (show Int32.toInt 0 = 0 by decide)) (by decide) (by decide)) (gB_w bo668796' (by decide) (by decide)) bf668797 (by have qa0 : Int32.toInt 0 = 0 := (by decide); have qa1 : Int32.toInt 5 = 5 := (by decide); omega) (by have qa0 : Int32.toInt 0 = 0 := (by decide); have qa1 : Int32.toInt 5 = 5 := (by decide); omega)) dr_cX14_symbol_181 ⟨wr_7_237, wr_1_20, wr_8_0, by decide, rfl, (Nat.le_of_ble_eq_true rfl), (Nat.le_of_ble_eq_true rfl)⟩ wr_7_238 wr_7_239 hm668781 he668805 rfl (Nat.le_trans (show 10 + 0 ≤ 16 by decide) hMC) (show 20 + (o668343.toInt.toNat + 4) + 0 + 4 + 16 + 0 + 0 + 0 + (o668495.toInt.toNat + 4) + 0 + 0 + 4 + 16 + 0 + 0 ≤ ((160 * (p667913.toInt - p667914.toInt)).toNat) by first | omega | decide) (Nat.le_of_ble_eq_true rfl) (fun r668816 w668817 dc668813 ds668814 hp668815 => ?_) (fun _ _ _ _ _ z => z.elim)
            obtain ⟨F668822, o668818, f668819, rfl, rfl, hfr668824, he668825, he668826, hdc, hds, bo668818, bf668819, x668820, ht668821⟩ := hp668815
            have he668827 : F668822 q667910 = .inr (19, [.ref q667911, .int p667913, .int p667914, .int 5, .int p667916, .int p667917, .int p667918, .ref qo667919, .int p667920, .int p667921, .int p667922, .ref qo667923, .ref qo667924, .int p667925]) := (hfr668824 q667910 hm668777 (nm_c (fun h => hq668782 (h ▸ hmq667910)) (nm_c (fun h => hq668760 (h ▸ hmq667910)) nm_n))).trans he668807
            have he668828 : F668822 q667911 = .inl (I .byte, 8192, .inl f667926) := (hfr668824 q667911 hm668778 (nm_c (fun h => hq668782 (h ▸ hmq667911)) (nm_c (fun h => hq668760 (h ▸ hmq667911)) nm_n))).trans he668808
            have he668829 : F668822 q668360 = .inr (0, [.ref q668361, .int 0, .int 0, .int 0]) := (hfr668824 q668360 hm668779 (nm_c (rn_oa he668809 he668806) (nm_c (rn_oo he668809 he668805 (by decide)) nm_n))).trans he668809
            have he668830 : F668822 q668361 = .inl (I .byte, n668362, .inl f668363) := (hfr668824 q668361 hm668780 (nm_c hne668789 (nm_c (rn_ao he668810 he668805) nm_n))).trans he668810
            have hfr668831 : rFr [q667910] P667908 F667909 F668822 := rFr_call hsb668783 hfr668811 hfr668824 (fun b hb hn => ⟨(nm_c (fun e => hn (e ▸ List.mem_cons_self)) nm_n), (nm_c (fun e => hq668782 (e ▸ hb)) (nm_c (fun e => hq668760 (e ▸ hb)) nm_n))⟩)
            have bo668818' : gB o668818 1 1 := ⟨by omega, by omega⟩
            change G _ _ _ _ _ _ _ (.ref q668743 :: _) _ _ _
            refine G_widen (cs' := 10) (sl' := 20 + (o668343.toInt.toNat + 4) + 0 + 4 + 16 + 0 + 0 + 0 + (o668495.toInt.toNat + 4) + 0 + 0 + 4 + 16 + 0 + 0) (Nat.add_le_add_left hdc 10) (by omega) ?_
            refine Gw_callV (As := []) (gV_ok D I) (cp_658959_StringBuilder_toString l hl0 D I P668769 F668822 q668743 q668768 0 o668818 f668819 16 hm668781 hm668775 he668825 he668826 (gB_w (gBl (show Int32.toInt 0 = 0 by decide)) (by decide) (by decide)) (gB_w bo668818' (by decide) (by decide)) bf668819 (by have qa0 : Int32.toInt 0 = 0 := (by decide); have qa1 : Int32.toInt 5 = 5 := (by decide); omega) (by have qa0 : Int32.toInt 0 = 0 := (by decide); have qa1 : Int32.toInt 5 = 5 := (by decide); omega)) dr_cX14_symbol_184 ⟨wr_8_66, wr_1_20, wr_8_69, by decide, rfl, (Nat.le_of_ble_eq_true rfl), (Nat.le_of_ble_eq_true rfl)⟩ wr_8_67 wr_8_68 hm668781 he668825 rfl (Nat.le_trans (show 10 + 2 ≤ 16 by decide) hMC) (show 20 + (o668343.toInt.toNat + 4) + 0 + 4 + 16 + 0 + 0 + 0 + (o668495.toInt.toNat + 4) + 0 + 0 + 4 + 16 + 0 + 0 + (o668818.toInt.toNat + 4) ≤ ((160 * (p667913.toInt - p667914.toInt)).toNat) by first | omega | decide) (Nat.le_of_ble_eq_true rfl) (fun r668835 w668836 dc668832 ds668833 hp668834 => ?_) (fun _ _ _ _ _ z => z.elim)
            obtain ⟨P668844, F668845, q668837, q668838, n668839, f668840, rfl, rfl, hsb668846, hfr668847, he668848, he668849, he668850, he668851, hm668852, hq668853, hm668854, hq668855, hdc, hds, bf668840, x668841, x668842, ht668843⟩ := hp668834
            have hm668856 : q667910 ∈ P668844 := hsb668846 q667910 hm668777
            have hm668857 : q667911 ∈ P668844 := hsb668846 q667911 hm668778
            have hm668858 : q668360 ∈ P668844 := hsb668846 q668360 hm668779
            have hm668859 : q668361 ∈ P668844 := hsb668846 q668361 hm668780
            have hm668860 : q668743 ∈ P668844 := hsb668846 q668743 hm668781
            have hm668861 : q668768 ∈ P668844 := hsb668846 q668768 hm668775
            have hq668862 : q668837 ∉ P667908 := fun z => hq668853 (hsb668783 q668837 z)
            have hq668863 : q668838 ∉ P667908 := fun z => hq668855 (hsb668783 q668838 z)
            have hsb668864 : rSub P667908 P668844 := rSub_tr hsb668783 hsb668846
            have he668865 : F668845 q667910 = .inr (19, [.ref q667911, .int p667913, .int p667914, .int 5, .int p667916, .int p667917, .int p667918, .ref qo667919, .int p667920, .int p667921, .int p667922, .ref qo667923, .ref qo667924, .int p667925]) := (hfr668847 q667910 hm668777 nm_n).trans he668827
            have he668866 : F668845 q667911 = .inl (I .byte, 8192, .inl f667926) := (hfr668847 q667911 hm668778 nm_n).trans he668828
            have he668867 : F668845 q668360 = .inr (0, [.ref q668361, .int 0, .int 0, .int 0]) := (hfr668847 q668360 hm668779 nm_n).trans he668829
            have he668868 : F668845 q668361 = .inl (I .byte, n668362, .inl f668363) := (hfr668847 q668361 hm668780 nm_n).trans he668830
            have hfr668869 : rFr [q667910] P667908 F667909 F668845 := rFr_call hsb668783 hfr668831 hfr668847 (fun b hb hn => ⟨(nm_c (fun e => hn (e ▸ List.mem_cons_self)) nm_n), nm_n⟩)
            have hne668870 : q668360 ≠ q668837 := fun h => hq668853 (h ▸ hm668779)
            have hne668871 : q668361 ≠ q668838 := fun h => hq668855 (h ▸ hm668780)
            have hne668872 : q668768 ≠ q668838 := fun h => hq668855 (h ▸ hm668775)
            change G _ _ _ _ _ _ _ (.ref q668837 :: _) _ _ _
            refine G_widen (cs' := 12) (sl' := 20 + (o668343.toInt.toNat + 4) + 0 + 4 + 16 + 0 + 0 + 0 + (o668495.toInt.toNat + 4) + 0 + 0 + 4 + 16 + 0 + 0 + (o668818.toInt.toNat + 4)) (Nat.add_le_add_left hdc 10) (by omega) ?_
            refine G_goto 192 dr_cX14_symbol_187 (by decide +kernel) ?_
            refine Gp_put 7 hm668856 he668865 dr_cX14_symbol_192 (gk_X14 D I) (Nat.le_of_ble_eq_true rfl) wr_9_43 rfl rfl rfl (Nat.le_of_ble_eq_true rfl) (fun F668873 e668874 n668875 => ?_)
            have he668876 : F668873 q667911 = .inl (I .byte, 8192, .inl f667926) := (n668875 q667911 (rn_ao he668866 he668865)).trans he668866
            have he668877 : F668873 q668360 = .inr (0, [.ref q668361, .int 0, .int 0, .int 0]) := (n668875 q668360 (fun h => hq668383 (h ▸ hmq667910))).trans he668867
            have he668878 : F668873 q668361 = .inl (I .byte, n668362, .inl f668363) := (n668875 q668361 (fun h => hq668384 (h ▸ hmq667910))).trans he668868
            have he668879 : F668873 q668837 = .inr (0, [.ref q668838, .int 0, .int 0, .int 0]) := (n668875 q668837 (fun h => hq668862 (h ▸ hmq667910))).trans he668848
            have he668880 : F668873 q668743 = .inr (1, [.ref q668768, .int 0, .int 0, .int o668818]) := (n668875 q668743 (fun h => hq668760 (h ▸ hmq667910))).trans he668849
            have he668881 : F668873 q668768 = .inl (I .byte, 16, .inl f668819) := (n668875 q668768 (fun h => hq668782 (h ▸ hmq667910))).trans he668850
            have he668882 : F668873 q668838 = .inl (I .byte, n668839, .inl f668840) := (n668875 q668838 (fun h => hq668863 (h ▸ hmq667910))).trans he668851
            have he668883 : F668873 q667910 = .inr (19, [.ref q667911, .int p667913, .int p667914, .int 5, .int p667916, .int p667917, .int p667918, .ref q668837, .int p667920, .int p667921, .int p667922, .ref qo667923, .ref qo667924, .int p667925]) := e668874
            have hfr668884 : rFr [q667910] P667908 F667909 F668873 := rFr_put' List.mem_cons_self hfr668869 n668875
            clear hm668535 hm668536 hm668537 hm668538 hsb668543 he668738 he668739 he668740 he668741 hfr668742 he668750 he668751 he668752 he668753 he668754 hm668755 hm668756 hm668757 hm668758 hm668759 hq668760 hfr668761 hsb668762 hsb668771 hfr668772 he668773 he668774 hm668775 hq668776 hm668777 hm668778 hm668779 hm668780 hm668781 hq668782 hsb668783 he668784 he668785 he668786 he668787 hfr668788 hne668789 hfr668804 he668805 he668806 bf668797 he668807 he668808 he668809 he668810 hfr668811 ez668812 bz668812 hfr668824 he668825 he668826 bf668819 he668827 he668828 he668829 he668830 hfr668831 hsb668846 hfr668847 he668848 he668849 he668850 he668851 hq668853 hq668855 hm668860 hm668861 he668865 he668866 he668867 he668868 hfr668869 hne668872 he668880 he668881; try clear r668766; try clear w668767; try clear dc668763; try clear ds668764; try clear hp668765; try clear r668794; try clear w668795; try clear dc668791; try clear ds668792; try clear hp668793; try clear x668799; try clear x668800; try clear r668816; try clear w668817; try clear dc668813; try clear ds668814; try clear hp668815; try clear r668835; try clear w668836; try clear dc668832; try clear ds668833; try clear hp668834; try clear x668842
            refine G_aload_n 2 dr_cX14_symbol_195 rfl ?_
            refine G_dup dr_cX14_symbol_196 rfl ?_
            refine Gp_get 2 hm668856 he668883 dr_cX14_symbol_197 (gk_X14 D I) (Nat.le_of_ble_eq_true rfl) wr_9_38 rfl ?_
            refine G_iload_n 0 dr_cX14_symbol_200 rfl ?_
            refine G_if_eq 208 dr_cX14_symbol_201 (by decide +kernel) (fun _ => ?_) (fun hc => absurd hc (by decide))
            refine G_iconst 1 dr_cX14_symbol_208 (by decide +kernel) ?_
            refine G_iadd dr_cX14_symbol_209 (G_eqi (y := z668250) hz668250.symm ?_)
            refine Gp_put 2 hm668856 he668883 dr_cX14_symbol_210 (gk_X14 D I) (Nat.le_of_ble_eq_true rfl) wr_9_38 rfl rfl rfl (Nat.le_of_ble_eq_true rfl) (fun F668885 e668886 n668887 => ?_)
            have he668888 : F668885 q667911 = .inl (I .byte, 8192, .inl f667926) := (n668887 q667911 (rn_ao he668876 he668883)).trans he668876
            have he668889 : F668885 q668360 = .inr (0, [.ref q668361, .int 0, .int 0, .int 0]) := (n668887 q668360 (fun h => hq668383 (h ▸ hmq667910))).trans he668877
            have he668890 : F668885 q668361 = .inl (I .byte, n668362, .inl f668363) := (n668887 q668361 (fun h => hq668384 (h ▸ hmq667910))).trans he668878
            have he668891 : F668885 q668837 = .inr (0, [.ref q668838, .int 0, .int 0, .int 0]) := (n668887 q668837 (fun h => hq668862 (h ▸ hmq667910))).trans he668879
            have he668892 : F668885 q668838 = .inl (I .byte, n668839, .inl f668840) := (n668887 q668838 (fun h => hq668863 (h ▸ hmq667910))).trans he668882
            have he668893 : F668885 q667910 = .inr (19, [.ref q667911, .int p667913, .int z668250, .int 5, .int p667916, .int p667917, .int p667918, .ref q668837, .int p667920, .int p667921, .int p667922, .ref qo667923, .ref qo667924, .int p667925]) := e668886
            have hfr668894 : rFr [q667910] P667908 F667909 F668885 := rFr_put' List.mem_cons_self hfr668884 n668887
            exact G_vretA dr_cX14_symbol_213 rfl (show 12 ≤ ((16 * (p667913.toInt - p667914.toInt)).toNat) by omega) (show 20 + (o668343.toInt.toNat + 4) + 0 + 4 + 16 + 0 + 0 + 0 + (o668495.toInt.toNat + 4) + 0 + 0 + 4 + 16 + 0 + 0 + (o668818.toInt.toNat + 4) ≤ ((160 * (p667913.toInt - p667914.toInt)).toNat) by omega) ⟨P668844, F668885, z668250, 5, q668837, (n668839, f668840), rfl, rfl, hsb668864, hfr668894, he668893, he668888, (by omega), (by omega), (gB_w bz668250' (by decide) (by decide)), (gB_w (gBl (show Int32.toInt 5 = 5 by decide)) (by decide) (by decide)), (by have qa0 : Int32.toInt 0 = 0 := (by decide); have qa1 : Int32.toInt 5 = 5 := (by decide); omega), (by have qa0 : Int32.toInt 0 = 0 := (by decide); have qa1 : Int32.toInt 5 = 5 := (by decide); omega), (tP_5 hm668852 he668891 hm668854 he668892 bf668840 (by omega) (gB_w (gBl (show Int32.toInt 0 = 0 by decide)) (by decide) (by decide)) (fun e => hq668863 (e ▸ x667929)) (fun e => hq668863 (e ▸ x667930))), (vP_no (by decide) (by decide)), (fun R c1 c2 c3 c4 c5 c6 => c5 z668250 z668254 o668305 f668306 z668319 o668325 f668326 z668337 o668343 f668344 n668362 f668363 o668395 o668452 f668453 o668473 f668474 o668495 f668496 n668518 f668519 o668557 z668564 o668570 o668796 f668797 z668812 o668818 f668819 n668839 f668840 ez668250 r668253 hz668254 bz668254 r668257 r668260 bo668305 ht668310 hz668319 bo668325 ht668328 hz668337 bo668343 ht668346 ht668366 bo668395 ht668397 bo668452 ht668457 bo668473 ht668478 bo668495 ht668500 ht668522 bo668557 ht668560 r668562 hz668564 bo668570 ht668571 r668734 bo668796 ht668801 hz668812 bo668818 ht668821 ht668843)⟩
        · have r668895 : 0 ≤ o668557.toInt := gj_nlt hc668561 (show Int32.toInt 0 = 0 by decide)
          have bo668557' : gB o668557 0 16777215 := ⟨by omega, by omega⟩
          refine G_iconst 1 dr_cX14_symbol_116 (by decide +kernel) ?_
          refine G_goto 121 dr_cX14_symbol_117 (by decide +kernel) ?_
          refine G_istore_n (L' := [(3, .int 1), (2, .ref q668360), (0, .ref q667910), (1, .int p667912)]) dr_cX14_symbol_121 (Nat.le_of_ble_eq_true rfl) rfl ?_
          clear he668371 he668374 hm668375 hm668377 hm668379 hm668380 hsb668385 he668386 he668387 hfr668388 he668406 he668407 he668408 he668409 he668410 hm668411 hm668412 hm668413 hm668414 hm668415 hq668416 hfr668417 hsb668418 hsb668427 hfr668428 he668429 he668430 hm668431 hq668432 hm668433 hm668434 hm668435 hm668436 hm668437 hq668438 hsb668439 he668440 he668441 he668442 he668443 hfr668444 hne668445 hfr668460 he668461 he668462 bf668453 he668463 he668464 he668465 he668466 hfr668467 hfr668481 he668482 he668483 he668484 he668485 bf668474 he668486 he668487 hfr668488 hfr668503 he668504 he668505 bf668496 he668506 he668507 he668508 he668509 hfr668510 hsb668525 hfr668526 he668527 he668528 he668529 he668530 hm668531 hq668532 hm668533 hq668534 bf668519 hm668539 hm668540 hq668541 hq668542 hne668549 hne668550 hne668551; try clear r668422; try clear w668423; try clear dc668419; try clear ds668420; try clear hp668421; try clear r668450; try clear w668451; try clear dc668447; try clear ds668448; try clear hp668449; try clear x668455; try clear x668456; try clear r668471; try clear w668472; try clear dc668468; try clear ds668469; try clear hp668470; try clear x668476; try clear x668477; try clear r668493; try clear w668494; try clear dc668490; try clear ds668491; try clear hp668492; try clear x668498; try clear x668499; try clear r668514; try clear w668515; try clear dc668511; try clear ds668512; try clear hp668513; try clear x668521; try clear r668555; try clear w668556; try clear dc668552; try clear ds668553; try clear hp668554; try clear x668559
          refine G_aload_n 2 dr_cX14_symbol_122 rfl ?_
          refine G_iload_n 0 dr_cX14_symbol_123 rfl ?_
          refine G_if_ne 143 dr_cX14_symbol_124 (by decide +kernel) (fun _ => ?_) (fun hc => absurd hc (by decide))
          refine G_iconst 5 dr_cX14_symbol_143 (by decide +kernel) ?_
          refine G_goto 149 dr_cX14_symbol_144 (by decide +kernel) ?_
          refine Gp_put 3 hm668535 he668544 dr_cX14_symbol_149 (gk_X14 D I) (Nat.le_of_ble_eq_true rfl) wr_9_39 rfl rfl rfl (Nat.le_of_ble_eq_true rfl) (fun F668896 e668897 n668898 => ?_)
          have he668899 : F668896 q667911 = .inl (I .byte, 8192, .inl f667926) := (n668898 q667911 (rn_ao he668545 he668544)).trans he668545
          have he668900 : F668896 q668360 = .inr (0, [.ref q668361, .int 0, .int 0, .int 0]) := (n668898 q668360 (fun h => hq668383 (h ▸ hmq667910))).trans he668546
          have he668901 : F668896 q668361 = .inl (I .byte, n668362, .inl f668363) := (n668898 q668361 (fun h => hq668384 (h ▸ hmq667910))).trans he668547
          have he668902 : F668896 q667910 = .inr (19, [.ref q667911, .int p667913, .int p667914, .int 5, .int p667916, .int p667917, .int p667918, .ref qo667919, .int p667920, .int p667921, .int p667922, .ref qo667923, .ref qo667924, .int p667925]) := e668897
          have hfr668903 : rFr [q667910] P667908 F667909 F668896 := rFr_put hfr668548 n668898
          clear he668544 he668545 he668546 he668547 hfr668548
          refine G_aload_n 2 dr_cX14_symbol_152 rfl ?_
          refine G_iload_n 0 dr_cX14_symbol_153 rfl ?_
          refine G_if_eq 161 dr_cX14_symbol_154 (by decide +kernel) (fun hc => absurd hc (by decide)) (fun _ => ?_)
          refine G_aload_n 1 dr_cX14_symbol_157 rfl ?_
          refine G_goto 192 dr_cX14_symbol_158 (by decide +kernel) ?_
          refine Gp_put 7 hm668535 he668902 dr_cX14_symbol_192 (gk_X14 D I) (Nat.le_of_ble_eq_true rfl) wr_9_43 rfl rfl rfl (Nat.le_of_ble_eq_true rfl) (fun F668904 e668905 n668906 => ?_)
          have he668907 : F668904 q667911 = .inl (I .byte, 8192, .inl f667926) := (n668906 q667911 (rn_ao he668899 he668902)).trans he668899
          have he668908 : F668904 q668360 = .inr (0, [.ref q668361, .int 0, .int 0, .int 0]) := (n668906 q668360 (fun h => hq668383 (h ▸ hmq667910))).trans he668900
          have he668909 : F668904 q668361 = .inl (I .byte, n668362, .inl f668363) := (n668906 q668361 (fun h => hq668384 (h ▸ hmq667910))).trans he668901
          have he668910 : F668904 q667910 = .inr (19, [.ref q667911, .int p667913, .int p667914, .int 5, .int p667916, .int p667917, .int p667918, .ref q668360, .int p667920, .int p667921, .int p667922, .ref qo667923, .ref qo667924, .int p667925]) := e668905
          have hfr668911 : rFr [q667910] P667908 F667909 F668904 := rFr_put' List.mem_cons_self hfr668903 n668906
          clear he668899 he668900 he668901 he668902 hfr668903
          refine G_aload_n 2 dr_cX14_symbol_195 rfl ?_
          refine G_dup dr_cX14_symbol_196 rfl ?_
          refine Gp_get 2 hm668535 he668910 dr_cX14_symbol_197 (gk_X14 D I) (Nat.le_of_ble_eq_true rfl) wr_9_38 rfl ?_
          refine G_iload_n 0 dr_cX14_symbol_200 rfl ?_
          refine G_if_eq 208 dr_cX14_symbol_201 (by decide +kernel) (fun hc => absurd hc (by decide)) (fun _ => ?_)
          refine G_iconst 2 dr_cX14_symbol_204 (by decide +kernel) ?_
          refine G_goto 209 dr_cX14_symbol_205 (by decide +kernel) ?_
          refine G_iadd dr_cX14_symbol_209 (G_nam fun z668912 hz668912 => ?_)
          have ez668912 : z668912.toInt = p667914.toInt + 2 := by rw [gI_add hz668912 bp667914 (gBl (show Int32.toInt 2 = 2 by decide)) (by decide) (by decide), show Int32.toInt 2 = 2 from by decide]
          have bz668912 : gB z668912 2 8194 := gB_add (gI_add hz668912 bp667914 (gBl (show Int32.toInt 2 = 2 by decide)) (by decide) (by decide)) bp667914 (gBl (show Int32.toInt 2 = 2 by decide)) (by decide) (by decide)
          refine Gp_put 2 hm668535 he668910 dr_cX14_symbol_210 (gk_X14 D I) (Nat.le_of_ble_eq_true rfl) wr_9_38 rfl rfl rfl (Nat.le_of_ble_eq_true rfl) (fun F668913 e668914 n668915 => ?_)
          have he668916 : F668913 q667911 = .inl (I .byte, 8192, .inl f667926) := (n668915 q667911 (rn_ao he668907 he668910)).trans he668907
          have he668917 : F668913 q668360 = .inr (0, [.ref q668361, .int 0, .int 0, .int 0]) := (n668915 q668360 (fun h => hq668383 (h ▸ hmq667910))).trans he668908
          have he668918 : F668913 q668361 = .inl (I .byte, n668362, .inl f668363) := (n668915 q668361 (fun h => hq668384 (h ▸ hmq667910))).trans he668909
          have he668919 : F668913 q667910 = .inr (19, [.ref q667911, .int p667913, .int z668912, .int 5, .int p667916, .int p667917, .int p667918, .ref q668360, .int p667920, .int p667921, .int p667922, .ref qo667923, .ref qo667924, .int p667925]) := e668914
          have hfr668920 : rFr [q667910] P667908 F667909 F668913 := rFr_put' List.mem_cons_self hfr668911 n668915
          exact G_vretA dr_cX14_symbol_213 rfl (show 8 ≤ ((16 * (p667913.toInt - p667914.toInt)).toNat) by omega) (show 20 + (o668343.toInt.toNat + 4) + 0 + 4 + 16 + 0 + 0 + 0 + (o668495.toInt.toNat + 4) + 0 ≤ ((160 * (p667913.toInt - p667914.toInt)).toNat) by omega) ⟨P668523, F668913, z668912, 5, q668360, (n668362, f668363), rfl, rfl, hsb668543, hfr668920, he668919, he668916, (by omega), (by omega), ⟨by omega, by omega⟩, (gB_w (gBl (show Int32.toInt 5 = 5 by decide)) (by decide) (by decide)), (by have qa0 : Int32.toInt 0 = 0 := (by decide); have qa1 : Int32.toInt 1 = 1 := (by decide); have qa2 : Int32.toInt 5 = 5 := (by decide); omega), (by have qa0 : Int32.toInt 0 = 0 := (by decide); have qa1 : Int32.toInt 1 = 1 := (by decide); have qa2 : Int32.toInt 5 = 5 := (by decide); omega), (tP_5 hm668537 he668917 hm668538 he668918 bf668363 (by omega) (gB_w (gBl (show Int32.toInt 0 = 0 by decide)) (by decide) (by decide)) (fun e => hq668384 (e ▸ x667929)) (fun e => hq668384 (e ▸ x667930))), (vP_no (by decide) (by decide)), (fun R c1 c2 c3 c4 c5 c6 => c6 z668250 z668254 o668305 f668306 z668319 o668325 f668326 z668337 o668343 f668344 n668362 f668363 o668395 o668452 f668453 o668473 f668474 o668495 f668496 n668518 f668519 o668557 z668912 ez668250 r668253 hz668254 bz668254 r668257 r668260 bo668305 ht668310 hz668319 bo668325 ht668328 hz668337 bo668343 ht668346 ht668366 bo668395 ht668397 bo668452 ht668457 bo668473 ht668478 bo668495 ht668500 ht668522 bo668557 ht668560 r668895 ez668912)⟩
/- tr_RReader_isLetter2: result -/
def tr_RReader_isLetter2 (a0 : Int32) (o1 : Int32) : Prop := ∀ R : (Int32) → Prop,
  (a0.toInt < 97 → R (0 : Int32)) →
  (97 ≤ a0.toInt → 122 < a0.toInt → R (0 : Int32)) →
  (97 ≤ a0.toInt → a0.toInt ≤ 122 → R (1 : Int32)) →
  R o1
