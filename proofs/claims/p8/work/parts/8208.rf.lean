theorem dr_cX14_number_0 : decode cX14_number 0 = .ok (.iload_n 1, 1) := by decide +kernel
theorem dr_cX14_number_1 : decode cX14_number 1 = .ok (.ifCond .eq 13, 3) := by decide +kernel
theorem dr_cX14_number_14 : decode cX14_number 14 = .ok (.lconst 0, 1) := by decide +kernel
theorem dr_cX14_number_15 : decode cX14_number 15 = .ok (.lstore_n 2, 1) := by decide +kernel
theorem dr_cX14_number_16 : decode cX14_number 16 = .ok (.aload_n 0, 1) := by decide +kernel
theorem dr_cX14_number_17 : decode cX14_number 17 = .ok (.getfield 44, 3) := by decide +kernel
theorem wr_9_38 : (Jvm.Cond.fieldLink "SpillForgeModel$Reader" (44 : Nat) "SpillForgeModel$Reader" "at" "I") ∈ gw := gw_9 38 rfl rfl
theorem dr_cX14_number_20 : decode cX14_number 20 = .ok (.aload_n 0, 1) := by decide +kernel
theorem dr_cX14_number_21 : decode cX14_number 21 = .ok (.getfield 32, 3) := by decide +kernel
theorem wr_9_37 : (Jvm.Cond.fieldLink "SpillForgeModel$Reader" (32 : Nat) "SpillForgeModel$Reader" "n" "I") ∈ gw := gw_9 37 rfl rfl
theorem dr_cX14_number_24 : decode cX14_number 24 = .ok (.if_icmp .ge 58, 3) := by decide +kernel
theorem dr_cX14_number_82 : decode cX14_number 82 = .ok (.iload_n 1, 1) := by decide +kernel
theorem dr_cX14_number_83 : decode cX14_number 83 = .ok (.ifCond .eq 6, 3) := by decide +kernel
theorem dr_cX14_number_89 : decode cX14_number 89 = .ok (.aload_n 0, 1) := by decide +kernel
theorem dr_cX14_number_90 : decode cX14_number 90 = .ok (.lload_n 2, 1) := by decide +kernel
theorem dr_cX14_number_91 : decode cX14_number 91 = .ok (.l2i, 1) := by decide +kernel
theorem dr_cX14_number_92 : decode cX14_number 92 = .ok (.putfield 80, 3) := by decide +kernel
theorem wr_9_41 : (Jvm.Cond.fieldLink "SpillForgeModel$Reader" (80 : Nat) "SpillForgeModel$Reader" "value" "I") ∈ gw := gw_9 41 rfl rfl
theorem dr_cX14_number_95 : decode cX14_number 95 = .ok (.aload_n 0, 1) := by decide +kernel
theorem dr_cX14_number_96 : decode cX14_number 96 = .ok (.lload_n 2, 1) := by decide +kernel
theorem dr_cX14_number_97 : decode cX14_number 97 = .ok (.lload_n 2, 1) := by decide +kernel
theorem dr_cX14_number_98 : decode cX14_number 98 = .ok (.l2i, 1) := by decide +kernel
theorem dr_cX14_number_99 : decode cX14_number 99 = .ok (.i2l, 1) := by decide +kernel
theorem dr_cX14_number_100 : decode cX14_number 100 = .ok (.lcmp, 1) := by decide +kernel
theorem dr_cX14_number_101 : decode cX14_number 101 = .ok (.ifCond .ne 7, 3) := by decide +kernel
theorem dr_cX14_number_108 : decode cX14_number 108 = .ok (.bipush 6, 2) := by decide +kernel
theorem dr_cX14_number_110 : decode cX14_number 110 = .ok (.putfield 38, 3) := by decide +kernel
theorem wr_9_39 : (Jvm.Cond.fieldLink "SpillForgeModel$Reader" (38 : Nat) "SpillForgeModel$Reader" "kind" "I") ∈ gw := gw_9 39 rfl rfl
theorem dr_cX14_number_113 : decode cX14_number 113 = .ok (.return_, 1) := by decide +kernel
theorem dr_cX14_number_104 : decode cX14_number 104 = .ok (.iconst 4, 1) := by decide +kernel
theorem dr_cX14_number_105 : decode cX14_number 105 = .ok (.goto 5, 3) := by decide +kernel
theorem dr_cX14_number_27 : decode cX14_number 27 = .ok (.aload_n 0, 1) := by decide +kernel
theorem dr_cX14_number_28 : decode cX14_number 28 = .ok (.getfield 28, 3) := by decide +kernel
theorem wr_9_36 : (Jvm.Cond.fieldLink "SpillForgeModel$Reader" (28 : Nat) "SpillForgeModel$Reader" "t" "[B") ∈ gw := gw_9 36 rfl rfl
theorem dr_cX14_number_31 : decode cX14_number 31 = .ok (.aload_n 0, 1) := by decide +kernel
theorem dr_cX14_number_32 : decode cX14_number 32 = .ok (.getfield 44, 3) := by decide +kernel
theorem dr_cX14_number_35 : decode cX14_number 35 = .ok (.baload, 1) := by decide +kernel
theorem dr_cX14_number_36 : decode cX14_number 36 = .ok (.invokestatic 50, 3) := by decide +kernel
theorem wr_7_219 : (Jvm.Cond.methodLink "SpillForgeModel$Reader" (50 : Nat) ({ cls := "SpillForgeModel$Reader", name := "isDigit", desc := "(I)Z" } : Jvm.MethodName)) ∈ gw := gw_7 219 rfl rfl
theorem wr_1_32 : (Jvm.Cond.initialized "SpillForgeModel$Reader") ∈ gw := gw_1 32 rfl rfl
theorem wr_7_221 : (Jvm.Cond.code ({ cls := "SpillForgeModel$Reader", name := "isDigit", desc := "(I)Z" } : Jvm.MethodName) prog_17_method_2_code (1 : Nat) (Option.some Jvm.ClassFile.FieldType.boolean)) ∈ gw := gw_7 221 rfl rfl
theorem wr_7_220 : (Jvm.Cond.static ({ cls := "SpillForgeModel$Reader", name := "isDigit", desc := "(I)Z" } : Jvm.MethodName)) ∈ gw := gw_7 220 rfl rfl
theorem dr_cX14_number_39 : decode cX14_number 39 = .ok (.ifCond .eq 43, 3) := by decide +kernel
theorem dr_cX14_number_42 : decode cX14_number 42 = .ok (.lload_n 2, 1) := by decide +kernel
theorem dr_cX14_number_43 : decode cX14_number 43 = .ok (.ldc2_w 68, 3) := by decide +kernel
theorem wr_7_229 : (Jvm.Cond.constantLong "SpillForgeModel$Reader" (68 : Nat) (10 : Int64)) ∈ gw := gw_7 229 rfl rfl
theorem dr_cX14_number_46 : decode cX14_number 46 = .ok (.lmul, 1) := by decide +kernel
theorem dr_cX14_number_47 : decode cX14_number 47 = .ok (.aload_n 0, 1) := by decide +kernel
theorem dr_cX14_number_48 : decode cX14_number 48 = .ok (.getfield 28, 3) := by decide +kernel
theorem dr_cX14_number_51 : decode cX14_number 51 = .ok (.aload_n 0, 1) := by decide +kernel
theorem dr_cX14_number_52 : decode cX14_number 52 = .ok (.getfield 44, 3) := by decide +kernel
theorem dr_cX14_number_55 : decode cX14_number 55 = .ok (.baload, 1) := by decide +kernel
theorem dr_cX14_number_56 : decode cX14_number 56 = .ok (.i2l, 1) := by decide +kernel
theorem dr_cX14_number_57 : decode cX14_number 57 = .ok (.ladd, 1) := by decide +kernel
theorem dr_cX14_number_58 : decode cX14_number 58 = .ok (.ldc2_w 70, 3) := by decide +kernel
theorem wr_7_230 : (Jvm.Cond.constantLong "SpillForgeModel$Reader" (70 : Nat) (48 : Int64)) ∈ gw := gw_7 230 rfl rfl
theorem dr_cX14_number_61 : decode cX14_number 61 = .ok (.lsub, 1) := by decide +kernel
theorem dr_cX14_number_62 : decode cX14_number 62 = .ok (.ldc2_w 111, 3) := by decide +kernel
theorem wr_8_222 : (Jvm.Cond.constantLong "SpillForgeModel$Reader" (111 : Nat) (1099511627776 : Int64)) ∈ gw := gw_8 222 rfl rfl
theorem dr_cX14_number_65 : decode cX14_number 65 = .ok (.invokestatic 74, 3) := by decide +kernel
theorem wr_7_232 : (Jvm.Cond.methodLink "SpillForgeModel$Reader" (74 : Nat) ({ cls := "java/lang/Math", name := "min", desc := "(JJ)J" } : Jvm.MethodName)) ∈ gw := gw_7 232 rfl rfl
theorem wr_3_40 : (Jvm.Cond.code ({ cls := "java/lang/Math", name := "min", desc := "(JJ)J" } : Jvm.MethodName) prog_32_method_70_code (4 : Nat) (Option.some Jvm.ClassFile.FieldType.long)) ∈ gw := gw_3 40 rfl rfl
theorem wr_3_39 : (Jvm.Cond.static ({ cls := "java/lang/Math", name := "min", desc := "(JJ)J" } : Jvm.MethodName)) ∈ gw := gw_3 39 rfl rfl
theorem dr_cX14_number_68 : decode cX14_number 68 = .ok (.lstore_n 2, 1) := by decide +kernel
theorem dr_cX14_number_69 : decode cX14_number 69 = .ok (.aload_n 0, 1) := by decide +kernel
theorem dr_cX14_number_70 : decode cX14_number 70 = .ok (.dup, 1) := by decide +kernel
theorem dr_cX14_number_71 : decode cX14_number 71 = .ok (.getfield 44, 3) := by decide +kernel
theorem dr_cX14_number_74 : decode cX14_number 74 = .ok (.iconst 1, 1) := by decide +kernel
theorem dr_cX14_number_75 : decode cX14_number 75 = .ok (.iadd, 1) := by decide +kernel
theorem dr_cX14_number_76 : decode cX14_number 76 = .ok (.putfield 44, 3) := by decide +kernel
theorem dr_cX14_number_79 : decode cX14_number 79 = .ok (.goto (-63), 3) := by decide +kernel
theorem dr_cX14_number_4 : decode cX14_number 4 = .ok (.aload_n 0, 1) := by decide +kernel
theorem dr_cX14_number_5 : decode cX14_number 5 = .ok (.dup, 1) := by decide +kernel
theorem dr_cX14_number_6 : decode cX14_number 6 = .ok (.getfield 44, 3) := by decide +kernel
theorem dr_cX14_number_9 : decode cX14_number 9 = .ok (.iconst 1, 1) := by decide +kernel
theorem dr_cX14_number_10 : decode cX14_number 10 = .ok (.iadd, 1) := by decide +kernel
theorem dr_cX14_number_11 : decode cX14_number 11 = .ok (.putfield 44, 3) := by decide +kernel
theorem dr_cX14_number_86 : decode cX14_number 86 = .ok (.lload_n 2, 1) := by decide +kernel
theorem dr_cX14_number_87 : decode cX14_number 87 = .ok (.lneg, 1) := by decide +kernel
theorem dr_cX14_number_88 : decode cX14_number 88 = .ok (.lstore_n 2, 1) := by decide +kernel
theorem dr_cX14_symbol_73 : decode cX14_symbol 73 = .ok (.ldc 9, 2) := by decide +kernel
theorem dr_cX14_symbol_75 : decode cX14_symbol 75 = .ok (.astore_n 2, 1) := by decide +kernel
theorem dr_cX14_symbol_76 : decode cX14_symbol 76 = .ok (.aload_n 2, 1) := by decide +kernel
theorem dr_cX14_symbol_77 : decode cX14_symbol 77 = .ok (.invokevirtual 113, 3) := by decide +kernel
theorem wr_8_227 : (Jvm.Cond.methodLink "SpillForgeModel$Reader" (113 : Nat) ({ cls := "java/lang/String", name := "length", desc := "()I" } : Jvm.MethodName)) ∈ gw := gw_8 227 rfl rfl
theorem dr_cX14_symbol_80 : decode cX14_symbol 80 = .ok (.iconst 2, 1) := by decide +kernel
theorem dr_cX14_symbol_81 : decode cX14_symbol 81 = .ok (.if_icmp .ne 39, 3) := by decide +kernel
theorem dr_cX14_symbol_120 : decode cX14_symbol 120 = .ok (.iconst 0, 1) := by decide +kernel
theorem dr_cX14_symbol_121 : decode cX14_symbol 121 = .ok (.istore_n 3, 1) := by decide +kernel
theorem dr_cX14_symbol_122 : decode cX14_symbol 122 = .ok (.aload_n 0, 1) := by decide +kernel
theorem dr_cX14_symbol_123 : decode cX14_symbol 123 = .ok (.iload_n 3, 1) := by decide +kernel
theorem dr_cX14_symbol_124 : decode cX14_symbol 124 = .ok (.ifCond .ne 19, 3) := by decide +kernel
theorem dr_cX14_symbol_127 : decode cX14_symbol 127 = .ok (.iload_n 1, 1) := by decide +kernel
theorem dr_cX14_symbol_128 : decode cX14_symbol 128 = .ok (.bipush 32, 2) := by decide +kernel
theorem dr_cX14_symbol_130 : decode cX14_symbol 130 = .ok (.if_icmp .le 17, 3) := by decide +kernel
theorem dr_cX14_symbol_147 : decode cX14_symbol 147 = .ok (.bipush 6, 2) := by decide +kernel
theorem dr_cX14_symbol_149 : decode cX14_symbol 149 = .ok (.putfield 38, 3) := by decide +kernel
theorem dr_cX14_symbol_152 : decode cX14_symbol 152 = .ok (.aload_n 0, 1) := by decide +kernel
theorem dr_cX14_symbol_153 : decode cX14_symbol 153 = .ok (.iload_n 3, 1) := by decide +kernel
theorem dr_cX14_symbol_154 : decode cX14_symbol 154 = .ok (.ifCond .eq 7, 3) := by decide +kernel
theorem dr_cX14_symbol_161 : decode cX14_symbol 161 = .ok (.iload_n 1, 1) := by decide +kernel
theorem dr_cX14_symbol_162 : decode cX14_symbol 162 = .ok (.bipush 32, 2) := by decide +kernel
theorem dr_cX14_symbol_164 : decode cX14_symbol 164 = .ok (.if_icmp .le 26, 3) := by decide +kernel
theorem dr_cX14_symbol_190 : decode cX14_symbol 190 = .ok (.ldc 9, 2) := by decide +kernel
theorem dr_cX14_symbol_192 : decode cX14_symbol 192 = .ok (.putfield 11, 3) := by decide +kernel
theorem wr_9_43 : (Jvm.Cond.fieldLink "SpillForgeModel$Reader" (11 : Nat) "SpillForgeModel$Reader" "text" "Ljava/lang/String;") ∈ gw := gw_9 43 rfl rfl
theorem dr_cX14_symbol_195 : decode cX14_symbol 195 = .ok (.aload_n 0, 1) := by decide +kernel
theorem dr_cX14_symbol_196 : decode cX14_symbol 196 = .ok (.dup, 1) := by decide +kernel
theorem dr_cX14_symbol_197 : decode cX14_symbol 197 = .ok (.getfield 44, 3) := by decide +kernel
theorem dr_cX14_symbol_200 : decode cX14_symbol 200 = .ok (.iload_n 3, 1) := by decide +kernel
theorem dr_cX14_symbol_201 : decode cX14_symbol 201 = .ok (.ifCond .eq 7, 3) := by decide +kernel
theorem dr_cX14_symbol_208 : decode cX14_symbol 208 = .ok (.iconst 1, 1) := by decide +kernel
theorem dr_cX14_symbol_209 : decode cX14_symbol 209 = .ok (.iadd, 1) := by decide +kernel
theorem dr_cX14_symbol_210 : decode cX14_symbol 210 = .ok (.putfield 44, 3) := by decide +kernel
theorem dr_cX14_symbol_213 : decode cX14_symbol 213 = .ok (.return_, 1) := by decide +kernel
theorem dr_cX14_symbol_133 : decode cX14_symbol 133 = .ok (.ldc 119, 2) := by decide +kernel
theorem dr_cX14_symbol_135 : decode cX14_symbol 135 = .ok (.iload_n 1, 1) := by decide +kernel
theorem dr_cX14_symbol_136 : decode cX14_symbol 136 = .ok (.i2c, 1) := by decide +kernel
theorem dr_cX14_symbol_137 : decode cX14_symbol 137 = .ok (.invokevirtual 121, 3) := by decide +kernel
theorem wr_8_230 : (Jvm.Cond.methodLink "SpillForgeModel$Reader" (121 : Nat) ({ cls := "java/lang/String", name := "indexOf", desc := "(I)I" } : Jvm.MethodName)) ∈ gw := gw_8 230 rfl rfl
theorem wr_8_233 : (Jvm.Cond.code ({ cls := "java/lang/String", name := "indexOf", desc := "(I)I" } : Jvm.MethodName) prog_34_method_79_code (2 : Nat) (Option.some Jvm.ClassFile.FieldType.int)) ∈ gw := gw_8 233 rfl rfl
theorem wr_8_231 : (Jvm.Cond.instanceMethod ({ cls := "java/lang/String", name := "indexOf", desc := "(I)I" } : Jvm.MethodName)) ∈ gw := gw_8 231 rfl rfl
theorem wr_8_232 : (Jvm.Cond.selects "java/lang/String" ({ cls := "java/lang/String", name := "indexOf", desc := "(I)I" } : Jvm.MethodName) ({ cls := "java/lang/String", name := "indexOf", desc := "(I)I" } : Jvm.MethodName)) ∈ gw := gw_8 232 rfl rfl
theorem dr_cX14_symbol_140 : decode cX14_symbol 140 = .ok (.ifCond .lt 7, 3) := by decide +kernel
theorem dr_cX14_symbol_167 : decode cX14_symbol 167 = .ok (.new 87, 3) := by decide +kernel
theorem wr_7_235 : (Jvm.Cond.classLink "SpillForgeModel$Reader" (87 : Nat) "java/lang/StringBuilder") ∈ gw := gw_7 235 rfl rfl
theorem dr_cX14_symbol_170 : decode cX14_symbol 170 = .ok (.dup, 1) := by decide +kernel
theorem dr_cX14_symbol_171 : decode cX14_symbol 171 = .ok (.invokespecial 89, 3) := by decide +kernel
theorem wr_7_236 : (Jvm.Cond.methodLink "SpillForgeModel$Reader" (89 : Nat) ({ cls := "java/lang/StringBuilder", name := "<init>", desc := "()V" } : Jvm.MethodName)) ∈ gw := gw_7 236 rfl rfl
theorem wr_7_47 : (Jvm.Cond.code ({ cls := "java/lang/StringBuilder", name := "<init>", desc := "()V" } : Jvm.MethodName) prog_35_method_1_code (1 : Nat) (Option.none : Option Jvm.ClassFile.FieldType)) ∈ gw := gw_7 47 rfl rfl
theorem wr_7_46 : (Jvm.Cond.instanceMethod ({ cls := "java/lang/StringBuilder", name := "<init>", desc := "()V" } : Jvm.MethodName)) ∈ gw := gw_7 46 rfl rfl
theorem dr_cX14_symbol_174 : decode cX14_symbol 174 = .ok (.ldc 9, 2) := by decide +kernel
theorem dr_cX14_symbol_176 : decode cX14_symbol 176 = .ok (.invokevirtual 102, 3) := by decide +kernel
theorem wr_8_195 : (Jvm.Cond.methodLink "SpillForgeModel$Reader" (102 : Nat) ({ cls := "java/lang/StringBuilder", name := "append", desc := "(Ljava/lang/String;)Ljava/lang/StringBuilder;" } : Jvm.MethodName)) ∈ gw := gw_8 195 rfl rfl
theorem wr_8_143 : (Jvm.Cond.code ({ cls := "java/lang/StringBuilder", name := "append", desc := "(Ljava/lang/String;)Ljava/lang/StringBuilder;" } : Jvm.MethodName) prog_35_method_7_code (2 : Nat) (Option.some (Jvm.ClassFile.FieldType.object "java/lang/StringBuilder"))) ∈ gw := gw_8 143 rfl rfl
theorem wr_8_141 : (Jvm.Cond.instanceMethod ({ cls := "java/lang/StringBuilder", name := "append", desc := "(Ljava/lang/String;)Ljava/lang/StringBuilder;" } : Jvm.MethodName)) ∈ gw := gw_8 141 rfl rfl
theorem wr_8_142 : (Jvm.Cond.selects "java/lang/StringBuilder" ({ cls := "java/lang/StringBuilder", name := "append", desc := "(Ljava/lang/String;)Ljava/lang/StringBuilder;" } : Jvm.MethodName) ({ cls := "java/lang/StringBuilder", name := "append", desc := "(Ljava/lang/String;)Ljava/lang/StringBuilder;" } : Jvm.MethodName)) ∈ gw := gw_8 142 rfl rfl
theorem dr_cX14_symbol_179 : decode cX14_symbol 179 = .ok (.iload_n 1, 1) := by decide +kernel
theorem dr_cX14_symbol_180 : decode cX14_symbol 180 = .ok (.i2c, 1) := by decide +kernel
theorem dr_cX14_symbol_181 : decode cX14_symbol 181 = .ok (.invokevirtual 90, 3) := by decide +kernel
theorem wr_7_237 : (Jvm.Cond.methodLink "SpillForgeModel$Reader" (90 : Nat) ({ cls := "java/lang/StringBuilder", name := "append", desc := "(C)Ljava/lang/StringBuilder;" } : Jvm.MethodName)) ∈ gw := gw_7 237 rfl rfl
theorem wr_8_0 : (Jvm.Cond.code ({ cls := "java/lang/StringBuilder", name := "append", desc := "(C)Ljava/lang/StringBuilder;" } : Jvm.MethodName) prog_35_method_14_code (2 : Nat) (Option.some (Jvm.ClassFile.FieldType.object "java/lang/StringBuilder"))) ∈ gw := gw_8 0 rfl rfl
theorem wr_7_238 : (Jvm.Cond.instanceMethod ({ cls := "java/lang/StringBuilder", name := "append", desc := "(C)Ljava/lang/StringBuilder;" } : Jvm.MethodName)) ∈ gw := gw_7 238 rfl rfl
theorem wr_7_239 : (Jvm.Cond.selects "java/lang/StringBuilder" ({ cls := "java/lang/StringBuilder", name := "append", desc := "(C)Ljava/lang/StringBuilder;" } : Jvm.MethodName) ({ cls := "java/lang/StringBuilder", name := "append", desc := "(C)Ljava/lang/StringBuilder;" } : Jvm.MethodName)) ∈ gw := gw_7 239 rfl rfl
theorem dr_cX14_symbol_184 : decode cX14_symbol 184 = .ok (.invokevirtual 94, 3) := by decide +kernel
theorem wr_8_66 : (Jvm.Cond.methodLink "SpillForgeModel$Reader" (94 : Nat) ({ cls := "java/lang/StringBuilder", name := "toString", desc := "()Ljava/lang/String;" } : Jvm.MethodName)) ∈ gw := gw_8 66 rfl rfl
theorem wr_8_69 : (Jvm.Cond.code ({ cls := "java/lang/StringBuilder", name := "toString", desc := "()Ljava/lang/String;" } : Jvm.MethodName) prog_35_method_42_code (1 : Nat) (Option.some (Jvm.ClassFile.FieldType.object "java/lang/String"))) ∈ gw := gw_8 69 rfl rfl
theorem wr_8_67 : (Jvm.Cond.instanceMethod ({ cls := "java/lang/StringBuilder", name := "toString", desc := "()Ljava/lang/String;" } : Jvm.MethodName)) ∈ gw := gw_8 67 rfl rfl
theorem wr_8_68 : (Jvm.Cond.selects "java/lang/StringBuilder" ({ cls := "java/lang/StringBuilder", name := "toString", desc := "()Ljava/lang/String;" } : Jvm.MethodName) ({ cls := "java/lang/StringBuilder", name := "toString", desc := "()Ljava/lang/String;" } : Jvm.MethodName)) ∈ gw := gw_8 68 rfl rfl
theorem dr_cX14_symbol_187 : decode cX14_symbol 187 = .ok (.goto 5, 3) := by decide +kernel
theorem dr_cX14_symbol_143 : decode cX14_symbol 143 = .ok (.iconst 5, 1) := by decide +kernel
theorem dr_cX14_symbol_144 : decode cX14_symbol 144 = .ok (.goto 5, 3) := by decide +kernel
theorem dr_cX14_symbol_0 : decode cX14_symbol 0 = .ok (.aload_n 0, 1) := by decide +kernel
theorem dr_cX14_symbol_1 : decode cX14_symbol 1 = .ok (.getfield 44, 3) := by decide +kernel
theorem dr_cX14_symbol_4 : decode cX14_symbol 4 = .ok (.iconst 1, 1) := by decide +kernel
theorem dr_cX14_symbol_5 : decode cX14_symbol 5 = .ok (.iadd, 1) := by decide +kernel
theorem dr_cX14_symbol_6 : decode cX14_symbol 6 = .ok (.aload_n 0, 1) := by decide +kernel
theorem dr_cX14_symbol_7 : decode cX14_symbol 7 = .ok (.getfield 32, 3) := by decide +kernel
theorem dr_cX14_symbol_10 : decode cX14_symbol 10 = .ok (.if_icmp .ge 63, 3) := by decide +kernel
theorem dr_cX14_symbol_13 : decode cX14_symbol 13 = .ok (.aload_n 0, 1) := by decide +kernel
theorem dr_cX14_symbol_14 : decode cX14_symbol 14 = .ok (.getfield 28, 3) := by decide +kernel
theorem dr_cX14_symbol_17 : decode cX14_symbol 17 = .ok (.aload_n 0, 1) := by decide +kernel
theorem dr_cX14_symbol_18 : decode cX14_symbol 18 = .ok (.getfield 44, 3) := by decide +kernel
theorem dr_cX14_symbol_21 : decode cX14_symbol 21 = .ok (.iconst 1, 1) := by decide +kernel
theorem dr_cX14_symbol_22 : decode cX14_symbol 22 = .ok (.iadd, 1) := by decide +kernel
theorem dr_cX14_symbol_23 : decode cX14_symbol 23 = .ok (.baload, 1) := by decide +kernel
theorem dr_cX14_symbol_24 : decode cX14_symbol 24 = .ok (.bipush 32, 2) := by decide +kernel
theorem dr_cX14_symbol_26 : decode cX14_symbol 26 = .ok (.if_icmp .le 47, 3) := by decide +kernel
theorem dr_cX14_symbol_29 : decode cX14_symbol 29 = .ok (.iload_n 1, 1) := by decide +kernel
theorem dr_cX14_symbol_30 : decode cX14_symbol 30 = .ok (.bipush 32, 2) := by decide +kernel
theorem dr_cX14_symbol_32 : decode cX14_symbol 32 = .ok (.if_icmp .le 41, 3) := by decide +kernel
theorem dr_cX14_symbol_35 : decode cX14_symbol 35 = .ok (.new 87, 3) := by decide +kernel
theorem dr_cX14_symbol_38 : decode cX14_symbol 38 = .ok (.dup, 1) := by decide +kernel
theorem dr_cX14_symbol_39 : decode cX14_symbol 39 = .ok (.invokespecial 89, 3) := by decide +kernel
theorem dr_cX14_symbol_42 : decode cX14_symbol 42 = .ok (.ldc 9, 2) := by decide +kernel
theorem dr_cX14_symbol_44 : decode cX14_symbol 44 = .ok (.invokevirtual 102, 3) := by decide +kernel
theorem dr_cX14_symbol_47 : decode cX14_symbol 47 = .ok (.iload_n 1, 1) := by decide +kernel
theorem dr_cX14_symbol_48 : decode cX14_symbol 48 = .ok (.i2c, 1) := by decide +kernel
theorem dr_cX14_symbol_49 : decode cX14_symbol 49 = .ok (.invokevirtual 90, 3) := by decide +kernel
theorem dr_cX14_symbol_52 : decode cX14_symbol 52 = .ok (.aload_n 0, 1) := by decide +kernel
theorem dr_cX14_symbol_53 : decode cX14_symbol 53 = .ok (.getfield 28, 3) := by decide +kernel
theorem dr_cX14_symbol_56 : decode cX14_symbol 56 = .ok (.aload_n 0, 1) := by decide +kernel
theorem dr_cX14_symbol_57 : decode cX14_symbol 57 = .ok (.getfield 44, 3) := by decide +kernel
theorem dr_cX14_symbol_60 : decode cX14_symbol 60 = .ok (.iconst 1, 1) := by decide +kernel
theorem dr_cX14_symbol_61 : decode cX14_symbol 61 = .ok (.iadd, 1) := by decide +kernel
theorem dr_cX14_symbol_62 : decode cX14_symbol 62 = .ok (.baload, 1) := by decide +kernel
theorem dr_cX14_symbol_63 : decode cX14_symbol 63 = .ok (.i2c, 1) := by decide +kernel
theorem dr_cX14_symbol_64 : decode cX14_symbol 64 = .ok (.invokevirtual 90, 3) := by decide +kernel
theorem dr_cX14_symbol_67 : decode cX14_symbol 67 = .ok (.invokevirtual 94, 3) := by decide +kernel
theorem dr_cX14_symbol_70 : decode cX14_symbol 70 = .ok (.goto 5, 3) := by decide +kernel
theorem dr_cX14_symbol_84 : decode cX14_symbol 84 = .ok (.ldc 117, 2) := by decide +kernel
theorem dr_cX14_symbol_86 : decode cX14_symbol 86 = .ok (.new 87, 3) := by decide +kernel
theorem dr_cX14_symbol_89 : decode cX14_symbol 89 = .ok (.dup, 1) := by decide +kernel
theorem dr_cX14_symbol_90 : decode cX14_symbol 90 = .ok (.invokespecial 89, 3) := by decide +kernel
theorem dr_cX14_symbol_93 : decode cX14_symbol 93 = .ok (.ldc 100, 2) := by decide +kernel
theorem dr_cX14_symbol_95 : decode cX14_symbol 95 = .ok (.invokevirtual 102, 3) := by decide +kernel
theorem dr_cX14_symbol_98 : decode cX14_symbol 98 = .ok (.aload_n 2, 1) := by decide +kernel
theorem dr_cX14_symbol_99 : decode cX14_symbol 99 = .ok (.invokevirtual 102, 3) := by decide +kernel
theorem dr_cX14_symbol_102 : decode cX14_symbol 102 = .ok (.ldc 100, 2) := by decide +kernel
theorem dr_cX14_symbol_104 : decode cX14_symbol 104 = .ok (.invokevirtual 102, 3) := by decide +kernel
theorem dr_cX14_symbol_107 : decode cX14_symbol 107 = .ok (.invokevirtual 94, 3) := by decide +kernel
theorem dr_cX14_symbol_110 : decode cX14_symbol 110 = .ok (.invokevirtual 105, 3) := by decide +kernel
theorem wr_8_196 : (Jvm.Cond.methodLink "SpillForgeModel$Reader" (105 : Nat) ({ cls := "java/lang/String", name := "indexOf", desc := "(Ljava/lang/String;)I" } : Jvm.MethodName)) ∈ gw := gw_8 196 rfl rfl
theorem wr_8_199 : (Jvm.Cond.code ({ cls := "java/lang/String", name := "indexOf", desc := "(Ljava/lang/String;)I" } : Jvm.MethodName) prog_34_method_84_code (3 : Nat) (Option.some Jvm.ClassFile.FieldType.int)) ∈ gw := gw_8 199 rfl rfl
theorem wr_8_197 : (Jvm.Cond.instanceMethod ({ cls := "java/lang/String", name := "indexOf", desc := "(Ljava/lang/String;)I" } : Jvm.MethodName)) ∈ gw := gw_8 197 rfl rfl
theorem wr_8_198 : (Jvm.Cond.selects "java/lang/String" ({ cls := "java/lang/String", name := "indexOf", desc := "(Ljava/lang/String;)I" } : Jvm.MethodName) ({ cls := "java/lang/String", name := "indexOf", desc := "(Ljava/lang/String;)I" } : Jvm.MethodName)) ∈ gw := gw_8 198 rfl rfl
theorem dr_cX14_symbol_113 : decode cX14_symbol 113 = .ok (.ifCond .lt 7, 3) := by decide +kernel
theorem dr_cX14_symbol_116 : decode cX14_symbol 116 = .ok (.iconst 1, 1) := by decide +kernel
theorem dr_cX14_symbol_117 : decode cX14_symbol 117 = .ok (.goto 4, 3) := by decide +kernel
theorem dr_cX14_symbol_157 : decode cX14_symbol 157 = .ok (.aload_n 2, 1) := by decide +kernel
theorem dr_cX14_symbol_158 : decode cX14_symbol 158 = .ok (.goto 34, 3) := by decide +kernel
theorem dr_cX14_symbol_204 : decode cX14_symbol 204 = .ok (.iconst 2, 1) := by decide +kernel
theorem dr_cX14_symbol_205 : decode cX14_symbol 205 = .ok (.goto 4, 3) := by decide +kernel
abbrev ky_665005_Reader_number : gKey := (cX14_number, 4, "SpillForgeModel$Reader", none, [], "number", fun _ _ => True)
def pp_665005_Reader_number (D : va_G) (I : FieldType → ClassId) (P664981 : List Nat) (F664982 : Nat → va_E) (q664983 : Nat) (q664984 : Nat) (p664985 : Int32) (p664986 : Int32) (p664987 : Int32) (p664988 : Int32) (p664989 : Int32) (p664990 : Int32) (p664991 : Int32) (qo664992 : Nat) (p664993 : Int32) (p664994 : Int32) (p664995 : Int32) (qo664996 : Nat) (qo664997 : Nat) (p664998 : Int32) (f664999 : Nat → Int32) : Option Value → va_W → Nat → Nat → Prop := fun r w dc ds => ∃ (F665603 : Nat → va_E) (o665599 : Int32) (o665600 : Int32) (o665601 : Int32) (xt665604 : gTx), r = none ∧ w = va_pl P664981 F665603 ∧ rFr [q664983] P664981 F664982 F665603 ∧ F665603 q664983 = .inr (19, [.ref q664984, .int p664986, .int o665599, .int o665600, .int p664989, .int o665601, .int p664991, .ref qo664992, .int p664993, .int p664994, .int p664995, .ref qo664996, .ref qo664997, .int p664998]) ∧ F665603 q664984 = .inl (I .byte, 8192, .inl f664999) ∧ dc ≤ (16 * (o665599.toInt - p664987.toInt)).toNat ∧ ds ≤ (160 * (o665599.toInt - p664987.toInt)).toNat ∧ gB o665599 0 8192 ∧ gB o665600 4 6 ∧ p664987.toInt < o665599.toInt ∧ o665599.toInt ≤ p664986.toInt ∧ tP I P664981 F665603 o665600 qo664992 qo664997 qo664996 xt665604 ∧ vP o665600 o665601 ∧ tr_RReader_number p664985 p664986 p664987 f664999 o665599 o665600 o665601 xt665604
set_option maxRecDepth 100000 in
set_option maxHeartbeats 4000000 in
theorem cp_665005_Reader_number (l : Launch) (hl0 : l.stackTraces = false) (D : va_G) (I : FieldType → ClassId) (P664981 : List Nat) (F664982 : Nat → va_E) (q664983 : Nat) (q664984 : Nat) (p664985 : Int32) (p664986 : Int32) (p664987 : Int32) (p664988 : Int32) (p664989 : Int32) (p664990 : Int32) (p664991 : Int32) (qo664992 : Nat) (p664993 : Int32) (p664994 : Int32) (p664995 : Int32) (qo664996 : Nat) (qo664997 : Nat) (p664998 : Int32) (f664999 : Nat → Int32) (hmq664983 : q664983 ∈ P664981) (hmq664984 : q664984 ∈ P664981) (heq664983 : F664982 q664983 = .inr (19, [.ref q664984, .int p664986, .int p664987, .int p664988, .int p664989, .int p664990, .int p664991, .ref qo664992, .int p664993, .int p664994, .int p664995, .ref qo664996, .ref qo664997, .int p664998])) (heq664984 : F664982 q664984 = .inl (I .byte, 8192, .inl f664999)) (bp664985 : gB p664985 0 1) (bp664986 : gB p664986 0 8192) (bp664987 : gB p664987 0 8192) (bp664988 : gB p664988 0 6) (bp664989 : gB p664989 0 8192) (bp664991 : gB p664991 0 6) (bp664993 : gB p664993 (-1) 8192) (bp664994 : gB p664994 0 4) (bp664995 : gB p664995 0 1000000) (bp664998 : gB p664998 0 1000000) (bf664999 : gF f664999 (-128) 127) (x665000 : p664987.toInt ≤ p664986.toInt) (x665001 : p664987.toInt < p664986.toInt) (x665002 : cDg f664999 p664987 p664985) (x665003 : qo664997 ∈ P664981) (x665004 : qo664996 ∈ P664981) : CtA (gV D I) l yX14_number cX14_number 4 none 1 23 ((16 * (p664986.toInt - p664987.toInt)).toNat) ((160 * (p664986.toInt - p664987.toInt)).toNat) [.ref q664983, .int p664985] (va_pl P664981 F664982) (pp_665005_Reader_number D I P664981 F664982 q664983 q664984 p664985 p664986 p664987 p664988 p664989 p664990 p664991 qo664992 p664993 p664994 p664995 qo664996 qo664997 p664998 f664999) gNA := by
  refine CtA_of hl0 (by decide) (Nat.le_of_ble_eq_true rfl) ?_
  have bp664990 := gB_any p664990
  refine G_iload_n 1 dr_cX14_number_0 rfl ?_
  refine G_if_eq 14 dr_cX14_number_1 (by decide +kernel) (fun hc665006 => ?_) (fun hc665006 => ?_)
  · have r665007 : p664985.toInt = 0 := gj_eq hc665006 (show Int32.toInt 0 = 0 by decide)
    have bp664985' : gB p664985 0 0 := ⟨by omega, by omega⟩
    refine G_lconst 0 dr_cX14_number_14 rfl ?_
    refine G_lstore_n (L' := [(2, .long 0), (0, .ref q664983), (1, .int p664985)]) dr_cX14_number_15 (Nat.le_of_ble_eq_true rfl) rfl ?_
    have hlp16_665217 : ∀ (n16_665217 : Nat) (F665211 : Nat → va_E) (gl665209 : Int64) (g665210 : Int32), gB g665210 0 8192 → rFr [q664983] P664981 F664982 F665211 → F665211 q664983 = .inr (19, [.ref q664984, .int p664986, .int g665210, .int p664988, .int p664989, .int p664990, .int p664991, .ref qo664992, .int p664993, .int p664994, .int p664995, .ref qo664996, .ref qo664997, .int p664998]) → F665211 q664984 = .inl (I .byte, 8192, .inl f664999) → p664987.toInt ≤ g665210.toInt → g665210.toInt ≤ p664986.toInt → (p664985.toInt = 0 ∨ p664987.toInt < g665210.toInt) → (∀ (k : Nat) (e1 : Int64) (e2 : Int32), tl_RReader_number_16 p664986 f664999 gl665209 g665210 k e1 e2 → tl_RReader_number_16 p664986 f664999 (0 : Int64) p664987 k e1 e2) → ((8193 : Int) - g665210.toInt).toNat < n16_665217 → G (gV D I) l (gRm 1 23 ((16 * (p664986.toInt - p664987.toInt)).toNat) ((160 * (p664986.toInt - p664987.toInt)).toNat)) (gMA (gV D I) (pp_665005_Reader_number D I P664981 F664982 q664983 q664984 p664985 p664986 p664987 p664988 p664989 p664990 p664991 qo664992 p664993 p664994 p664995 qo664996 qo664997 p664998 f664999) gNA ((16 * (p664986.toInt - p664987.toInt)).toNat) ((160 * (p664986.toInt - p664987.toInt)).toNat)) ky_665005_Reader_number 16 [(2, .long gl665209), (0, .ref q664983), (1, .int p664985)] [] (va_pl P664981 F665211) 0 0 := by
      intro n16_665217
      induction n16_665217 with
      | zero => intro F665211 gl665209 g665210 bg665210 hfr665214 he665212 he665213 x665215 x665216 x665217 kt16_665217 hm16_665217; exact absurd hm16_665217 (Nat.not_lt_zero _)
      | succ n16_665217 ih16_665217 =>
        intro F665211 gl665209 g665210 bg665210 hfr665214 he665212 he665213 x665215 x665216 x665217 kt16_665217 hm16_665217
        refine G_aload_n 1 dr_cX14_number_16 rfl ?_
        refine Gp_get 2 hmq664983 he665212 dr_cX14_number_17 (gk_X14 D I) (Nat.le_of_ble_eq_true rfl) wr_9_38 rfl ?_
        refine G_aload_n 1 dr_cX14_number_20 rfl ?_
        refine Gp_get 1 hmq664983 he665212 dr_cX14_number_21 (gk_X14 D I) (Nat.le_of_ble_eq_true rfl) wr_9_37 rfl ?_
        refine G_icmp_ge 82 dr_cX14_number_24 (by decide +kernel) (fun hc665218 => ?_) (fun hc665218 => ?_)
        · have r665219 : p664986.toInt ≤ g665210.toInt := gC_le hc665218
          have hx665220 : tl_RReader_number_16 p664986 f664999 (0 : Int64) p664987 82 gl665209 g665210 := kt16_665217 82 gl665209 g665210 (fun R c1 c2 c3 => c1 gl665209 g665210 bg665210 r665219)
          have x665221 : p664987.toInt < g665210.toInt := by first | omega | exact cDg_lt x665002 (by omega) (by assumption) (isP_0 (by assumption) (by omega)) (by omega)
          refine G_iload_n 2 dr_cX14_number_82 rfl ?_
          refine G_if_eq 89 dr_cX14_number_83 (by decide +kernel) (fun _ => ?_) (fun hc => absurd (show False by have := gj_neq hc (show Int32.toInt 0 = 0 by decide); omega) not_false)
          refine G_aload_n 1 dr_cX14_number_89 rfl ?_
          refine G_lload_n 0 dr_cX14_number_90 rfl ?_
          refine G_l2i dr_cX14_number_91 (G_nam fun z665222 hz665222 => ?_)
          have bz665222 : gB z665222 (-2147483648) 2147483647 := gB_any z665222
          refine Gp_put 5 hmq664983 he665212 dr_cX14_number_92 (gk_X14 D I) (Nat.le_of_ble_eq_true rfl) wr_9_41 rfl rfl rfl (Nat.le_of_ble_eq_true rfl) (fun F665223 e665224 n665225 => ?_)
          have he665226 : F665223 q664984 = .inl (I .byte, 8192, .inl f664999) := (n665225 q664984 (rn_ao he665213 he665212)).trans he665213
          have he665227 : F665223 q664983 = .inr (19, [.ref q664984, .int p664986, .int g665210, .int p664988, .int p664989, .int z665222, .int p664991, .ref qo664992, .int p664993, .int p664994, .int p664995, .ref qo664996, .ref qo664997, .int p664998]) := e665224
          have hfr665228 : rFr [q664983] P664981 F664982 F665223 := rFr_put' List.mem_cons_self hfr665214 n665225
          refine G_aload_n 1 dr_cX14_number_95 rfl ?_
          refine G_lload_n 0 dr_cX14_number_96 rfl ?_
          refine G_lload_n 0 dr_cX14_number_97 rfl ?_
          refine G_l2i dr_cX14_number_98 (G_nam fun z665229 hz665229 => ?_)
          have bz665229 : gB z665229 (-2147483648) 2147483647 := gB_any z665229
          refine G_i2l dr_cX14_number_99 (G_namL fun u665230 hu665230 => ?_)
          refine G_lcmp dr_cX14_number_100 (G_nam fun z665231 hz665231 => ?_)
          have bz665231 : gB z665231 (-1) 1 := gB_cmp hz665231
          refine G_if_ne 108 dr_cX14_number_101 (by decide +kernel) (fun hc665232 => ?_) (fun hc665232 => ?_)
          · have r665233 : z665231.toInt ≠ 0 := gj_neq hc665232 (show Int32.toInt 0 = 0 by decide)
            have lhc665232 := gC_cmpN hz665231 hc665232
            refine G_bipush 6 dr_cX14_number_108 (by decide +kernel) ?_
            refine Gp_put 3 hmq664983 he665227 dr_cX14_number_110 (gk_X14 D I) (Nat.le_of_ble_eq_true rfl) wr_9_39 rfl rfl rfl (Nat.le_of_ble_eq_true rfl) (fun F665234 e665235 n665236 => ?_)
            have he665237 : F665234 q664984 = .inl (I .byte, 8192, .inl f664999) := (n665236 q664984 (rn_ao he665226 he665227)).trans he665226
            have he665238 : F665234 q664983 = .inr (19, [.ref q664984, .int p664986, .int g665210, .int 6, .int p664989, .int z665222, .int p664991, .ref qo664992, .int p664993, .int p664994, .int p664995, .ref qo664996, .ref qo664997, .int p664998]) := e665235
            have hfr665239 : rFr [q664983] P664981 F664982 F665234 := rFr_put' List.mem_cons_self hfr665228 n665236
            exact G_vretA dr_cX14_number_113 rfl (show 0 ≤ ((16 * (p664986.toInt - p664987.toInt)).toNat) by omega) (show 0 ≤ ((160 * (p664986.toInt - p664987.toInt)).toNat) by omega) ⟨F665234, g665210, 6, z665222, (0, fun _ => 0), rfl, rfl, hfr665239, he665238, he665237, (by omega), (by omega), bg665210, (gB_w (gBl (show Int32.toInt 6 = 6 by decide)) (by decide) (by decide)), (by have qa0 : Int32.toInt 6 = 6 := (by decide); omega), (by have qa0 : Int32.toInt 6 = 6 := (by decide); omega), (tP_no (by decide) (by decide)), (vP_no (by decide) (by decide)), (fun R c1 c2 c3 c4 => c1 gl665209 g665210 z665222 z665229 u665230 r665007 hx665220 hz665222 hz665229 hu665230 lhc665232)⟩
          · have r665240 : z665231.toInt = 0 := gj_eq hc665232 (show Int32.toInt 0 = 0 by decide)
            have bz665231' : gB z665231 0 0 := ⟨by omega, by omega⟩
            have lhc665232 := gC_cmpE hz665231 hc665232
            refine G_iconst 4 dr_cX14_number_104 (by decide +kernel) ?_
            refine G_goto 110 dr_cX14_number_105 (by decide +kernel) ?_
            refine Gp_put 3 hmq664983 he665227 dr_cX14_number_110 (gk_X14 D I) (Nat.le_of_ble_eq_true rfl) wr_9_39 rfl rfl rfl (Nat.le_of_ble_eq_true rfl) (fun F665241 e665242 n665243 => ?_)
            have he665244 : F665241 q664984 = .inl (I .byte, 8192, .inl f664999) := (n665243 q664984 (rn_ao he665226 he665227)).trans he665226
            have he665245 : F665241 q664983 = .inr (19, [.ref q664984, .int p664986, .int g665210, .int 4, .int p664989, .int z665222, .int p664991, .ref qo664992, .int p664993, .int p664994, .int p664995, .ref qo664996, .ref qo664997, .int p664998]) := e665242
            have hfr665246 : rFr [q664983] P664981 F664982 F665241 := rFr_put' List.mem_cons_self hfr665228 n665243
            exact G_vretA dr_cX14_number_113 rfl (show 0 ≤ ((16 * (p664986.toInt - p664987.toInt)).toNat) by omega) (show 0 ≤ ((160 * (p664986.toInt - p664987.toInt)).toNat) by omega) ⟨F665241, g665210, 4, z665222, (0, fun _ => 0), rfl, rfl, hfr665246, he665245, he665244, (by omega), (by omega), bg665210, (gB_w (gBl (show Int32.toInt 4 = 4 by decide)) (by decide) (by decide)), (by have qa0 : Int32.toInt 4 = 4 := (by decide); omega), (by have qa0 : Int32.toInt 4 = 4 := (by decide); omega), (tP_no (by decide) (by decide)), (vP_no (by decide) (by decide)), (fun R c1 c2 c3 c4 => c2 gl665209 g665210 z665222 z665229 u665230 r665007 hx665220 hz665222 hz665229 hu665230 lhc665232)⟩
        · have r665247 : g665210.toInt < p664986.toInt := gC_nle hc665218
          have bg665210' : gB g665210 0 8191 := ⟨by omega, by omega⟩
          have bp664986' : gB p664986 1 8192 := ⟨by omega, by omega⟩
          refine G_aload_n 1 dr_cX14_number_27 rfl ?_
          refine Gp_get 0 hmq664983 he665212 dr_cX14_number_28 (gk_X14 D I) (Nat.le_of_ble_eq_true rfl) wr_9_36 rfl ?_
          refine G_aload_n 1 dr_cX14_number_31 rfl ?_
          refine Gp_get 2 hmq664983 he665212 dr_cX14_number_32 (gk_X14 D I) (Nat.le_of_ble_eq_true rfl) wr_9_38 rfl ?_
          refine Gp_bald 1 hmq664984 he665213 dr_cX14_number_35 rfl (gB_in bg665210' (by decide) (by decide)) (G_nam fun z665248 hz665248 => ?_)
          have bz665248 : gB z665248 (-128) 127 := by rw [hz665248]; exact bf664999 _
          refine Gw_callS (As := [.int z665248]) (gV_ok D I) (cp_665041_Reader_isDigit l hl0 D I P664981 F665211 z665248 ) dr_cX14_number_36 ⟨wr_7_219, wr_1_32, wr_7_221, by decide, rfl, (Nat.le_of_ble_eq_true rfl), (Nat.le_of_ble_eq_true rfl)⟩ wr_7_220 (show 0 + 0 ≤ ((16 * (p664986.toInt - p664987.toInt)).toNat) by first | omega | decide) (show 0 + 0 ≤ ((160 * (p664986.toInt - p664987.toInt)).toNat) by first | omega | decide) (Nat.le_of_ble_eq_true rfl) (fun r665252 w665253 dc665249 ds665250 hp665251 => ?_) (fun _ _ _ _ _ z => z.elim)
          obtain ⟨o665254, rfl, rfl, hdc, hds, bo665254, x665255, ht665256⟩ := hp665251
          change G _ _ _ _ _ _ _ (.int o665254 :: _) _ _ _
          refine G_widen (cs' := 0) (sl' := 0) (by omega) (by omega) ?_
          refine G_if_eq 82 dr_cX14_number_39 (by decide +kernel) (fun hc665257 => ?_) (fun hc665257 => ?_)
          · have r665258 : o665254.toInt = 0 := gj_eq hc665257 (show Int32.toInt 0 = 0 by decide)
            have bo665254' : gB o665254 0 0 := ⟨by omega, by omega⟩
            have hx665259 : tl_RReader_number_16 p664986 f664999 (0 : Int64) p664987 82 gl665209 g665210 := kt16_665217 82 gl665209 g665210 (fun R c1 c2 c3 => c2 gl665209 g665210 z665248 o665254 bg665210 r665247 hz665248 bz665248 bo665254 ht665256 r665258)
            have x665260 : p664987.toInt < g665210.toInt := by first | omega | exact cDg_lt x665002 (by omega) (by assumption) (isP_0 (by assumption) (by omega)) (by omega)
            refine G_iload_n 2 dr_cX14_number_82 rfl ?_
            refine G_if_eq 89 dr_cX14_number_83 (by decide +kernel) (fun _ => ?_) (fun hc => absurd (show False by have := gj_neq hc (show Int32.toInt 0 = 0 by decide); omega) not_false)
            refine G_aload_n 1 dr_cX14_number_89 rfl ?_
            refine G_lload_n 0 dr_cX14_number_90 rfl ?_
            refine G_l2i dr_cX14_number_91 (G_nam fun z665261 hz665261 => ?_)
            have bz665261 : gB z665261 (-2147483648) 2147483647 := gB_any z665261
            refine Gp_put 5 hmq664983 he665212 dr_cX14_number_92 (gk_X14 D I) (Nat.le_of_ble_eq_true rfl) wr_9_41 rfl rfl rfl (Nat.le_of_ble_eq_true rfl) (fun F665262 e665263 n665264 => ?_)
            have he665265 : F665262 q664984 = .inl (I .byte, 8192, .inl f664999) := (n665264 q664984 (rn_ao he665213 he665212)).trans he665213
            have he665266 : F665262 q664983 = .inr (19, [.ref q664984, .int p664986, .int g665210, .int p664988, .int p664989, .int z665261, .int p664991, .ref qo664992, .int p664993, .int p664994, .int p664995, .ref qo664996, .ref qo664997, .int p664998]) := e665263
            have hfr665267 : rFr [q664983] P664981 F664982 F665262 := rFr_put' List.mem_cons_self hfr665214 n665264
            refine G_aload_n 1 dr_cX14_number_95 rfl ?_
            refine G_lload_n 0 dr_cX14_number_96 rfl ?_
            refine G_lload_n 0 dr_cX14_number_97 rfl ?_
            refine G_l2i dr_cX14_number_98 (G_nam fun z665268 hz665268 => ?_)
            have bz665268 : gB z665268 (-2147483648) 2147483647 := gB_any z665268
            refine G_i2l dr_cX14_number_99 (G_namL fun u665269 hu665269 => ?_)
            refine G_lcmp dr_cX14_number_100 (G_nam fun z665270 hz665270 => ?_)
            have bz665270 : gB z665270 (-1) 1 := gB_cmp hz665270
            refine G_if_ne 108 dr_cX14_number_101 (by decide +kernel) (fun hc665271 => ?_) (fun hc665271 => ?_)
            · have r665272 : z665270.toInt ≠ 0 := gj_neq hc665271 (show Int32.toInt 0 = 0 by decide)
              have lhc665271 := gC_cmpN hz665270 hc665271
              refine G_bipush 6 dr_cX14_number_108 (by decide +kernel) ?_
              refine Gp_put 3 hmq664983 he665266 dr_cX14_number_110 (gk_X14 D I) (Nat.le_of_ble_eq_true rfl) wr_9_39 rfl rfl rfl (Nat.le_of_ble_eq_true rfl) (fun F665273 e665274 n665275 => ?_)
              have he665276 : F665273 q664984 = .inl (I .byte, 8192, .inl f664999) := (n665275 q664984 (rn_ao he665265 he665266)).trans he665265
              have he665277 : F665273 q664983 = .inr (19, [.ref q664984, .int p664986, .int g665210, .int 6, .int p664989, .int z665261, .int p664991, .ref qo664992, .int p664993, .int p664994, .int p664995, .ref qo664996, .ref qo664997, .int p664998]) := e665274
              have hfr665278 : rFr [q664983] P664981 F664982 F665273 := rFr_put' List.mem_cons_self hfr665267 n665275
              exact G_vretA dr_cX14_number_113 rfl (show 0 ≤ ((16 * (p664986.toInt - p664987.toInt)).toNat) by omega) (show 0 ≤ ((160 * (p664986.toInt - p664987.toInt)).toNat) by omega) ⟨F665273, g665210, 6, z665261, (0, fun _ => 0), rfl, rfl, hfr665278, he665277, he665276, (by omega), (by omega), (gB_w bg665210' (by decide) (by decide)), (gB_w (gBl (show Int32.toInt 6 = 6 by decide)) (by decide) (by decide)), (by have qa0 : Int32.toInt 6 = 6 := (by decide); omega), (by have qa0 : Int32.toInt 6 = 6 := (by decide); omega), (tP_no (by decide) (by decide)), (vP_no (by decide) (by decide)), (fun R c1 c2 c3 c4 => c1 gl665209 g665210 z665261 z665268 u665269 r665007 hx665259 hz665261 hz665268 hu665269 lhc665271)⟩
            · have r665279 : z665270.toInt = 0 := gj_eq hc665271 (show Int32.toInt 0 = 0 by decide)
              have bz665270' : gB z665270 0 0 := ⟨by omega, by omega⟩
              have lhc665271 := gC_cmpE hz665270 hc665271
              refine G_iconst 4 dr_cX14_number_104 (by decide +kernel) ?_
              refine G_goto 110 dr_cX14_number_105 (by decide +kernel) ?_
              refine Gp_put 3 hmq664983 he665266 dr_cX14_number_110 (gk_X14 D I) (Nat.le_of_ble_eq_true rfl) wr_9_39 rfl rfl rfl (Nat.le_of_ble_eq_true rfl) (fun F665280 e665281 n665282 => ?_)
              have he665283 : F665280 q664984 = .inl (I .byte, 8192, .inl f664999) := (n665282 q664984 (rn_ao he665265 he665266)).trans he665265
              have he665284 : F665280 q664983 = .inr (19, [.ref q664984, .int p664986, .int g665210, .int 4, .int p664989, .int z665261, .int p664991, .ref qo664992, .int p664993, .int p664994, .int p664995, .ref qo664996, .ref qo664997, .int p664998]) := e665281
              have hfr665285 : rFr [q664983] P664981 F664982 F665280 := rFr_put' List.mem_cons_self hfr665267 n665282
              exact G_vretA dr_cX14_number_113 rfl (show 0 ≤ ((16 * (p664986.toInt - p664987.toInt)).toNat) by omega) (show 0 ≤ ((160 * (p664986.toInt - p664987.toInt)).toNat) by omega) ⟨F665280, g665210, 4, z665261, (0, fun _ => 0), rfl, rfl, hfr665285, he665284, he665283, (by omega), (by omega), (gB_w bg665210' (by decide) (by decide)), (gB_w (gBl (show Int32.toInt 4 = 4 by decide)) (by decide) (by decide)), (by have qa0 : Int32.toInt 4 = 4 := (by decide); omega), (by have qa0 : Int32.toInt 4 = 4 := (by decide); omega), (tP_no (by decide) (by decide)), (vP_no (by decide) (by decide)), (fun R c1 c2 c3 c4 => c2 gl665209 g665210 z665261 z665268 u665269 r665007 hx665259 hz665261 hz665268 hu665269 lhc665271)⟩
          · have r665286 : o665254.toInt ≠ 0 := gj_neq hc665257 (show Int32.toInt 0 = 0 by decide)
            have bo665254' : gB o665254 1 1 := ⟨by omega, by omega⟩
            have bi665287 : gB z665248 48 57 := isP_1 x665255 (by omega)
            refine G_lload_n 0 dr_cX14_number_42 rfl ?_
            refine G_ldc2 10 dr_cX14_number_43 wr_7_229 ?_
            refine G_lmul dr_cX14_number_46 (G_namL fun u665288 hu665288 => ?_)
            refine G_aload_n 1 dr_cX14_number_47 rfl ?_
            refine Gp_get 0 hmq664983 he665212 dr_cX14_number_48 (gk_X14 D I) (Nat.le_of_ble_eq_true rfl) wr_9_36 rfl ?_
            refine G_aload_n 1 dr_cX14_number_51 rfl ?_
            refine Gp_get 2 hmq664983 he665212 dr_cX14_number_52 (gk_X14 D I) (Nat.le_of_ble_eq_true rfl) wr_9_38 rfl ?_
            refine Gp_bald 1 hmq664984 he665213 dr_cX14_number_55 rfl (gB_in bg665210' (by decide) (by decide)) (G_eqi (y := z665248) hz665248.symm ?_)
            refine G_i2l dr_cX14_number_56 (G_namL fun u665289 hu665289 => ?_)
            refine G_ladd dr_cX14_number_57 (G_namL fun u665290 hu665290 => ?_)
            refine G_ldc2 48 dr_cX14_number_58 wr_7_230 ?_
            refine G_lsub dr_cX14_number_61 (G_namL fun u665291 hu665291 => ?_)
            refine G_ldc2 1099511627776 dr_cX14_number_62 wr_8_222 ?_
            refine Gw_callS (As := [.long u665291, .long 1099511627776]) (gV_ok D I) (cp_665095_Math_min l hl0 D I P664981 F665211 u665291 1099511627776 ) dr_cX14_number_65 ⟨wr_7_232, wr_1_6, wr_3_40, by decide, rfl, (Nat.le_of_ble_eq_true rfl), (Nat.le_of_ble_eq_true rfl)⟩ wr_3_39 (show 0 + 0 ≤ ((16 * (p664986.toInt - p664987.toInt)).toNat) by first | omega | decide) (show 0 + 0 ≤ ((160 * (p664986.toInt - p664987.toInt)).toNat) by first | omega | decide) (Nat.le_of_ble_eq_true rfl) (fun r665295 w665296 dc665292 ds665293 hp665294 => ?_) (fun _ _ _ _ _ z => z.elim)
            obtain ⟨ol665297, rfl, rfl, hdc, hds, x665298, ht665299⟩ := hp665294
            change G _ _ _ _ _ _ _ (.long ol665297 :: _) _ _ _
            refine G_widen (cs' := 0) (sl' := 0) (by omega) (by omega) ?_
            refine G_lstore_n (L' := [(2, .long ol665297), (0, .ref q664983), (1, .int p664985)]) dr_cX14_number_68 (Nat.le_of_ble_eq_true rfl) rfl ?_
            refine G_aload_n 1 dr_cX14_number_69 rfl ?_
            refine G_dup dr_cX14_number_70 rfl ?_
            refine Gp_get 2 hmq664983 he665212 dr_cX14_number_71 (gk_X14 D I) (Nat.le_of_ble_eq_true rfl) wr_9_38 rfl ?_
            refine G_iconst 1 dr_cX14_number_74 (by decide +kernel) ?_
            refine G_iadd dr_cX14_number_75 (G_nam fun z665300 hz665300 => ?_)
            have ez665300 : z665300.toInt = g665210.toInt + 1 := by rw [gI_add hz665300 bg665210' (gBl (show Int32.toInt 1 = 1 by decide)) (by decide) (by decide), show Int32.toInt 1 = 1 from by decide]
            have bz665300 : gB z665300 1 8192 := gB_add (gI_add hz665300 bg665210' (gBl (show Int32.toInt 1 = 1 by decide)) (by decide) (by decide)) bg665210' (gBl (show Int32.toInt 1 = 1 by decide)) (by decide) (by decide)
            refine Gp_put 2 hmq664983 he665212 dr_cX14_number_76 (gk_X14 D I) (Nat.le_of_ble_eq_true rfl) wr_9_38 rfl rfl rfl (Nat.le_of_ble_eq_true rfl) (fun F665301 e665302 n665303 => ?_)
            have he665304 : F665301 q664984 = .inl (I .byte, 8192, .inl f664999) := (n665303 q664984 (rn_ao he665213 he665212)).trans he665213
            have he665305 : F665301 q664983 = .inr (19, [.ref q664984, .int p664986, .int z665300, .int p664988, .int p664989, .int p664990, .int p664991, .ref qo664992, .int p664993, .int p664994, .int p664995, .ref qo664996, .ref qo664997, .int p664998]) := e665302
            have hfr665306 : rFr [q664983] P664981 F664982 F665301 := rFr_put' List.mem_cons_self hfr665214 n665303
            refine G_goto 16 dr_cX14_number_79 (by decide +kernel) ?_
            exact ih16_665217 F665301 ol665297 z665300 (gB_w bz665300 (by decide) (by decide)) hfr665306 he665305 he665304 (by omega) (by omega) (by omega) (fun k e1 e2 ht => kt16_665217 k e1 e2 (fun R c1 c2 c3 => c3 gl665209 g665210 z665248 o665254 u665288 u665289 u665290 u665291 ol665297 z665300 k e1 e2 bg665210 r665247 hz665248 bz665248 bo665254 ht665256 r665286 hu665288 hu665289 hu665290 hu665291 ht665299 ez665300 (ht R c1 c2 c3))) (by omega)
    exact hlp16_665217 (((8193 : Int) - p664987.toInt).toNat + 1) F664982 0 p664987 bp664987 (rFr_v (rFr_rf (W := []) (P := P664981) (F := F664982)) (fun b hn => nm_n)) heq664983 heq664984 (by omega) (by omega) (by omega) (fun k e1 e2 ht => ht) (Nat.lt_succ_self _)
  · have r665307 : p664985.toInt ≠ 0 := gj_neq hc665006 (show Int32.toInt 0 = 0 by decide)
    have bp664985' : gB p664985 1 1 := ⟨by omega, by omega⟩
    refine G_aload_n 0 dr_cX14_number_4 rfl ?_
    refine G_dup dr_cX14_number_5 rfl ?_
    refine Gp_get 2 hmq664983 heq664983 dr_cX14_number_6 (gk_X14 D I) (Nat.le_of_ble_eq_true rfl) wr_9_38 rfl ?_
    refine G_iconst 1 dr_cX14_number_9 (by decide +kernel) ?_
    refine G_iadd dr_cX14_number_10 (G_nam fun z665308 hz665308 => ?_)
    have ez665308 : z665308.toInt = p664987.toInt + 1 := by rw [gI_add hz665308 bp664987 (gBl (show Int32.toInt 1 = 1 by decide)) (by decide) (by decide), show Int32.toInt 1 = 1 from by decide]
    have bz665308 : gB z665308 1 8193 := gB_add (gI_add hz665308 bp664987 (gBl (show Int32.toInt 1 = 1 by decide)) (by decide) (by decide)) bp664987 (gBl (show Int32.toInt 1 = 1 by decide)) (by decide) (by decide)
    refine Gp_put 2 hmq664983 heq664983 dr_cX14_number_11 (gk_X14 D I) (Nat.le_of_ble_eq_true rfl) wr_9_38 rfl rfl rfl (Nat.le_of_ble_eq_true rfl) (fun F665309 e665310 n665311 => ?_)
    have he665312 : F665309 q664984 = .inl (I .byte, 8192, .inl f664999) := (n665311 q664984 (rn_ao heq664984 heq664983)).trans heq664984
    have he665313 : F665309 q664983 = .inr (19, [.ref q664984, .int p664986, .int z665308, .int p664988, .int p664989, .int p664990, .int p664991, .ref qo664992, .int p664993, .int p664994, .int p664995, .ref qo664996, .ref qo664997, .int p664998]) := e665310
    have hfr665314 : rFr [q664983] P664981 F664982 F665309 := rFr_put (rFr_rf (W := []) (P := P664981) (F := F664982)) n665311
    refine G_lconst 0 dr_cX14_number_14 rfl ?_
    refine G_lstore_n (L' := [(2, .long 0), (0, .ref q664983), (1, .int p664985)]) dr_cX14_number_15 (Nat.le_of_ble_eq_true rfl) rfl ?_
    have hlp16_665507 : ∀ (n16_665507 : Nat) (F665501 : Nat → va_E) (gl665499 : Int64) (g665500 : Int32), gB g665500 0 8192 → rFr [q664983] P664981 F664982 F665501 → F665501 q664983 = .inr (19, [.ref q664984, .int p664986, .int g665500, .int p664988, .int p664989, .int p664990, .int p664991, .ref qo664992, .int p664993, .int p664994, .int p664995, .ref qo664996, .ref qo664997, .int p664998]) → F665501 q664984 = .inl (I .byte, 8192, .inl f664999) → p664987.toInt ≤ g665500.toInt → g665500.toInt ≤ p664986.toInt → (p664985.toInt = 0 ∨ p664987.toInt < g665500.toInt) → (∀ (k : Nat) (e1 : Int64) (e2 : Int32), tl_RReader_number_16_2 p664986 f664999 gl665499 g665500 k e1 e2 → tl_RReader_number_16_2 p664986 f664999 (0 : Int64) z665308 k e1 e2) → ((8193 : Int) - g665500.toInt).toNat < n16_665507 → G (gV D I) l (gRm 1 23 ((16 * (p664986.toInt - p664987.toInt)).toNat) ((160 * (p664986.toInt - p664987.toInt)).toNat)) (gMA (gV D I) (pp_665005_Reader_number D I P664981 F664982 q664983 q664984 p664985 p664986 p664987 p664988 p664989 p664990 p664991 qo664992 p664993 p664994 p664995 qo664996 qo664997 p664998 f664999) gNA ((16 * (p664986.toInt - p664987.toInt)).toNat) ((160 * (p664986.toInt - p664987.toInt)).toNat)) ky_665005_Reader_number 16 [(2, .long gl665499), (0, .ref q664983), (1, .int p664985)] [] (va_pl P664981 F665501) 0 0 := by
      intro n16_665507
      induction n16_665507 with
      | zero => intro F665501 gl665499 g665500 bg665500 hfr665504 he665502 he665503 x665505 x665506 x665507 kt16_665507 hm16_665507; exact absurd hm16_665507 (Nat.not_lt_zero _)
      | succ n16_665507 ih16_665507 =>
        intro F665501 gl665499 g665500 bg665500 hfr665504 he665502 he665503 x665505 x665506 x665507 kt16_665507 hm16_665507
        refine G_aload_n 1 dr_cX14_number_16 rfl ?_
        refine Gp_get 2 hmq664983 he665502 dr_cX14_number_17 (gk_X14 D I) (Nat.le_of_ble_eq_true rfl) wr_9_38 rfl ?_
        refine G_aload_n 1 dr_cX14_number_20 rfl ?_
        refine Gp_get 1 hmq664983 he665502 dr_cX14_number_21 (gk_X14 D I) (Nat.le_of_ble_eq_true rfl) wr_9_37 rfl ?_
        refine G_icmp_ge 82 dr_cX14_number_24 (by decide +kernel) (fun hc665508 => ?_) (fun hc665508 => ?_)
        · have r665509 : p664986.toInt ≤ g665500.toInt := gC_le hc665508
          have hx665510 : tl_RReader_number_16_2 p664986 f664999 (0 : Int64) z665308 82 gl665499 g665500 := kt16_665507 82 gl665499 g665500 (fun R c1 c2 c3 => c1 gl665499 g665500 bg665500 r665509)
          have x665511 : p664987.toInt < g665500.toInt := by first | omega | exact cDg_lt x665002 (by omega) (by assumption) (isP_0 (by assumption) (by omega)) (by omega)
          refine G_iload_n 2 dr_cX14_number_82 rfl ?_
          refine G_if_eq 89 dr_cX14_number_83 (by decide +kernel) (fun hc => absurd (show False by have := gj_eq hc (show Int32.toInt 0 = 0 by decide); omega) not_false) (fun _ => ?_)
          refine G_lload_n 0 dr_cX14_number_86 rfl ?_
          refine G_lneg dr_cX14_number_87 (G_namL fun u665512 hu665512 => ?_)
          refine G_lstore_n (L' := [(2, .long u665512), (0, .ref q664983), (1, .int p664985)]) dr_cX14_number_88 (Nat.le_of_ble_eq_true rfl) rfl ?_
          refine G_aload_n 1 dr_cX14_number_89 rfl ?_
          refine G_lload_n 0 dr_cX14_number_90 rfl ?_
          refine G_l2i dr_cX14_number_91 (G_nam fun z665513 hz665513 => ?_)
          have bz665513 : gB z665513 (-2147483648) 2147483647 := gB_any z665513
          refine Gp_put 5 hmq664983 he665502 dr_cX14_number_92 (gk_X14 D I) (Nat.le_of_ble_eq_true rfl) wr_9_41 rfl rfl rfl (Nat.le_of_ble_eq_true rfl) (fun F665514 e665515 n665516 => ?_)
          have he665517 : F665514 q664984 = .inl (I .byte, 8192, .inl f664999) := (n665516 q664984 (rn_ao he665503 he665502)).trans he665503
          have he665518 : F665514 q664983 = .inr (19, [.ref q664984, .int p664986, .int g665500, .int p664988, .int p664989, .int z665513, .int p664991, .ref qo664992, .int p664993, .int p664994, .int p664995, .ref qo664996, .ref qo664997, .int p664998]) := e665515
          have hfr665519 : rFr [q664983] P664981 F664982 F665514 := rFr_put' List.mem_cons_self hfr665504 n665516
          refine G_aload_n 1 dr_cX14_number_95 rfl ?_
          refine G_lload_n 0 dr_cX14_number_96 rfl ?_
          refine G_lload_n 0 dr_cX14_number_97 rfl ?_
          refine G_l2i dr_cX14_number_98 (G_nam fun z665520 hz665520 => ?_)
          have bz665520 : gB z665520 (-2147483648) 2147483647 := gB_any z665520
          refine G_i2l dr_cX14_number_99 (G_namL fun u665521 hu665521 => ?_)
          refine G_lcmp dr_cX14_number_100 (G_nam fun z665522 hz665522 => ?_)
          have bz665522 : gB z665522 (-1) 1 := gB_cmp hz665522
          refine G_if_ne 108 dr_cX14_number_101 (by decide +kernel) (fun hc665523 => ?_) (fun hc665523 => ?_)
          · have r665524 : z665522.toInt ≠ 0 := gj_neq hc665523 (show Int32.toInt 0 = 0 by decide)
            have lhc665523 := gC_cmpN hz665522 hc665523
            refine G_bipush 6 dr_cX14_number_108 (by decide +kernel) ?_
            refine Gp_put 3 hmq664983 he665518 dr_cX14_number_110 (gk_X14 D I) (Nat.le_of_ble_eq_true rfl) wr_9_39 rfl rfl rfl (Nat.le_of_ble_eq_true rfl) (fun F665525 e665526 n665527 => ?_)
            have he665528 : F665525 q664984 = .inl (I .byte, 8192, .inl f664999) := (n665527 q664984 (rn_ao he665517 he665518)).trans he665517
            have he665529 : F665525 q664983 = .inr (19, [.ref q664984, .int p664986, .int g665500, .int 6, .int p664989, .int z665513, .int p664991, .ref qo664992, .int p664993, .int p664994, .int p664995, .ref qo664996, .ref qo664997, .int p664998]) := e665526
            have hfr665530 : rFr [q664983] P664981 F664982 F665525 := rFr_put' List.mem_cons_self hfr665519 n665527
            exact G_vretA dr_cX14_number_113 rfl (show 0 ≤ ((16 * (p664986.toInt - p664987.toInt)).toNat) by omega) (show 0 ≤ ((160 * (p664986.toInt - p664987.toInt)).toNat) by omega) ⟨F665525, g665500, 6, z665513, (0, fun _ => 0), rfl, rfl, hfr665530, he665529, he665528, (by omega), (by omega), bg665500, (gB_w (gBl (show Int32.toInt 6 = 6 by decide)) (by decide) (by decide)), (by have qa0 : Int32.toInt 6 = 6 := (by decide); omega), (by have qa0 : Int32.toInt 6 = 6 := (by decide); omega), (tP_no (by decide) (by decide)), (vP_no (by decide) (by decide)), (fun R c1 c2 c3 c4 => c3 z665308 gl665499 g665500 u665512 z665513 z665520 u665521 r665307 ez665308 hx665510 hu665512 hz665513 hz665520 hu665521 lhc665523)⟩
          · have r665531 : z665522.toInt = 0 := gj_eq hc665523 (show Int32.toInt 0 = 0 by decide)
            have bz665522' : gB z665522 0 0 := ⟨by omega, by omega⟩
            have lhc665523 := gC_cmpE hz665522 hc665523
            refine G_iconst 4 dr_cX14_number_104 (by decide +kernel) ?_
            refine G_goto 110 dr_cX14_number_105 (by decide +kernel) ?_
            refine Gp_put 3 hmq664983 he665518 dr_cX14_number_110 (gk_X14 D I) (Nat.le_of_ble_eq_true rfl) wr_9_39 rfl rfl rfl (Nat.le_of_ble_eq_true rfl) (fun F665532 e665533 n665534 => ?_)
            have he665535 : F665532 q664984 = .inl (I .byte, 8192, .inl f664999) := (n665534 q664984 (rn_ao he665517 he665518)).trans he665517
            have he665536 : F665532 q664983 = .inr (19, [.ref q664984, .int p664986, .int g665500, .int 4, .int p664989, .int z665513, .int p664991, .ref qo664992, .int p664993, .int p664994, .int p664995, .ref qo664996, .ref qo664997, .int p664998]) := e665533
            have hfr665537 : rFr [q664983] P664981 F664982 F665532 := rFr_put' List.mem_cons_self hfr665519 n665534
            exact G_vretA dr_cX14_number_113 rfl (show 0 ≤ ((16 * (p664986.toInt - p664987.toInt)).toNat) by omega) (show 0 ≤ ((160 * (p664986.toInt - p664987.toInt)).toNat) by omega) ⟨F665532, g665500, 4, z665513, (0, fun _ => 0), rfl, rfl, hfr665537, he665536, he665535, (by omega), (by omega), bg665500, (gB_w (gBl (show Int32.toInt 4 = 4 by decide)) (by decide) (by decide)), (by have qa0 : Int32.toInt 4 = 4 := (by decide); omega), (by have qa0 : Int32.toInt 4 = 4 := (by decide); omega), (tP_no (by decide) (by decide)), (vP_no (by decide) (by decide)), (fun R c1 c2 c3 c4 => c4 z665308 gl665499 g665500 u665512 z665513 z665520 u665521 r665307 ez665308 hx665510 hu665512 hz665513 hz665520 hu665521 lhc665523)⟩
        · have r665538 : g665500.toInt < p664986.toInt := gC_nle hc665508
          have bg665500' : gB g665500 0 8191 := ⟨by omega, by omega⟩
          have bp664986' : gB p664986 1 8192 := ⟨by omega, by omega⟩
          refine G_aload_n 1 dr_cX14_number_27 rfl ?_
          refine Gp_get 0 hmq664983 he665502 dr_cX14_number_28 (gk_X14 D I) (Nat.le_of_ble_eq_true rfl) wr_9_36 rfl ?_
          refine G_aload_n 1 dr_cX14_number_31 rfl ?_
          refine Gp_get 2 hmq664983 he665502 dr_cX14_number_32 (gk_X14 D I) (Nat.le_of_ble_eq_true rfl) wr_9_38 rfl ?_
          refine Gp_bald 1 hmq664984 he665503 dr_cX14_number_35 rfl (gB_in bg665500' (by decide) (by decide)) (G_nam fun z665539 hz665539 => ?_)
          have bz665539 : gB z665539 (-128) 127 := by rw [hz665539]; exact bf664999 _
          refine Gw_callS (As := [.int z665539]) (gV_ok D I) (cp_665041_Reader_isDigit l hl0 D I P664981 F665501 z665539 ) dr_cX14_number_36 ⟨wr_7_219, wr_1_32, wr_7_221, by decide, rfl, (Nat.le_of_ble_eq_true rfl), (Nat.le_of_ble_eq_true rfl)⟩ wr_7_220 (show 0 + 0 ≤ ((16 * (p664986.toInt - p664987.toInt)).toNat) by first | omega | decide) (show 0 + 0 ≤ ((160 * (p664986.toInt - p664987.toInt)).toNat) by first | omega | decide) (Nat.le_of_ble_eq_true rfl) (fun r665543 w665544 dc665540 ds665541 hp665542 => ?_) (fun _ _ _ _ _ z => z.elim)
          obtain ⟨o665545, rfl, rfl, hdc, hds, bo665545, x665546, ht665547⟩ := hp665542
          change G _ _ _ _ _ _ _ (.int o665545 :: _) _ _ _
          refine G_widen (cs' := 0) (sl' := 0) (by omega) (by omega) ?_
          refine G_if_eq 82 dr_cX14_number_39 (by decide +kernel) (fun hc665548 => ?_) (fun hc665548 => ?_)
          · have r665549 : o665545.toInt = 0 := gj_eq hc665548 (show Int32.toInt 0 = 0 by decide)
            have bo665545' : gB o665545 0 0 := ⟨by omega, by omega⟩
            have hx665550 : tl_RReader_number_16_2 p664986 f664999 (0 : Int64) z665308 82 gl665499 g665500 := kt16_665507 82 gl665499 g665500 (fun R c1 c2 c3 => c2 gl665499 g665500 z665539 o665545 bg665500 r665538 hz665539 bz665539 bo665545 ht665547 r665549)
            have x665551 : p664987.toInt < g665500.toInt := by first | omega | exact cDg_lt x665002 (by omega) (by assumption) (isP_0 (by assumption) (by omega)) (by omega)
            refine G_iload_n 2 dr_cX14_number_82 rfl ?_
            refine G_if_eq 89 dr_cX14_number_83 (by decide +kernel) (fun hc => absurd (show False by have := gj_eq hc (show Int32.toInt 0 = 0 by decide); omega) not_false) (fun _ => ?_)
            refine G_lload_n 0 dr_cX14_number_86 rfl ?_
            refine G_lneg dr_cX14_number_87 (G_namL fun u665552 hu665552 => ?_)
            refine G_lstore_n (L' := [(2, .long u665552), (0, .ref q664983), (1, .int p664985)]) dr_cX14_number_88 (Nat.le_of_ble_eq_true rfl) rfl ?_
            refine G_aload_n 1 dr_cX14_number_89 rfl ?_
            refine G_lload_n 0 dr_cX14_number_90 rfl ?_
            refine G_l2i dr_cX14_number_91 (G_nam fun z665553 hz665553 => ?_)
            have bz665553 : gB z665553 (-2147483648) 2147483647 := gB_any z665553
            refine Gp_put 5 hmq664983 he665502 dr_cX14_number_92 (gk_X14 D I) (Nat.le_of_ble_eq_true rfl) wr_9_41 rfl rfl rfl (Nat.le_of_ble_eq_true rfl) (fun F665554 e665555 n665556 => ?_)
            have he665557 : F665554 q664984 = .inl (I .byte, 8192, .inl f664999) := (n665556 q664984 (rn_ao he665503 he665502)).trans he665503
            have he665558 : F665554 q664983 = .inr (19, [.ref q664984, .int p664986, .int g665500, .int p664988, .int p664989, .int z665553, .int p664991, .ref qo664992, .int p664993, .int p664994, .int p664995, .ref qo664996, .ref qo664997, .int p664998]) := e665555
            have hfr665559 : rFr [q664983] P664981 F664982 F665554 := rFr_put' List.mem_cons_self hfr665504 n665556
            refine G_aload_n 1 dr_cX14_number_95 rfl ?_
            refine G_lload_n 0 dr_cX14_number_96 rfl ?_
            refine G_lload_n 0 dr_cX14_number_97 rfl ?_
            refine G_l2i dr_cX14_number_98 (G_nam fun z665560 hz665560 => ?_)
            have bz665560 : gB z665560 (-2147483648) 2147483647 := gB_any z665560
            refine G_i2l dr_cX14_number_99 (G_namL fun u665561 hu665561 => ?_)
            refine G_lcmp dr_cX14_number_100 (G_nam fun z665562 hz665562 => ?_)
            have bz665562 : gB z665562 (-1) 1 := gB_cmp hz665562
            refine G_if_ne 108 dr_cX14_number_101 (by decide +kernel) (fun hc665563 => ?_) (fun hc665563 => ?_)
            · have r665564 : z665562.toInt ≠ 0 := gj_neq hc665563 (show Int32.toInt 0 = 0 by decide)
              have lhc665563 := gC_cmpN hz665562 hc665563
              refine G_bipush 6 dr_cX14_number_108 (by decide +kernel) ?_
              refine Gp_put 3 hmq664983 he665558 dr_cX14_number_110 (gk_X14 D I) (Nat.le_of_ble_eq_true rfl) wr_9_39 rfl rfl rfl (Nat.le_of_ble_eq_true rfl) (fun F665565 e665566 n665567 => ?_)
              have he665568 : F665565 q664984 = .inl (I .byte, 8192, .inl f664999) := (n665567 q664984 (rn_ao he665557 he665558)).trans he665557
              have he665569 : F665565 q664983 = .inr (19, [.ref q664984, .int p664986, .int g665500, .int 6, .int p664989, .int z665553, .int p664991, .ref qo664992, .int p664993, .int p664994, .int p664995, .ref qo664996, .ref qo664997, .int p664998]) := e665566
              have hfr665570 : rFr [q664983] P664981 F664982 F665565 := rFr_put' List.mem_cons_self hfr665559 n665567
              exact G_vretA dr_cX14_number_113 rfl (show 0 ≤ ((16 * (p664986.toInt - p664987.toInt)).toNat) by omega) (show 0 ≤ ((160 * (p664986.toInt - p664987.toInt)).toNat) by omega) ⟨F665565, g665500, 6, z665553, (0, fun _ => 0), rfl, rfl, hfr665570, he665569, he665568, (by omega), (by omega), (gB_w bg665500' (by decide) (by decide)), (gB_w (gBl (show Int32.toInt 6 = 6 by decide)) (by decide) (by decide)), (by have qa0 : Int32.toInt 6 = 6 := (by decide); omega), (by have qa0 : Int32.toInt 6 = 6 := (by decide); omega), (tP_no (by decide) (by decide)), (vP_no (by decide) (by decide)), (fun R c1 c2 c3 c4 => c3 z665308 gl665499 g665500 u665552 z665553 z665560 u665561 r665307 ez665308 hx665550 hu665552 hz665553 hz665560 hu665561 lhc665563)⟩
            · have r665571 : z665562.toInt = 0 := gj_eq hc665563 (show Int32.toInt 0 = 0 by decide)
              have bz665562' : gB z665562 0 0 := ⟨by omega, by omega⟩
              have lhc665563 := gC_cmpE hz665562 hc665563
              refine G_iconst 4 dr_cX14_number_104 (by decide +kernel) ?_
              refine G_goto 110 dr_cX14_number_105 (by decide +kernel) ?_
              refine Gp_put 3 hmq664983 he665558 dr_cX14_number_110 (gk_X14 D I) (Nat.le_of_ble_eq_true rfl) wr_9_39 rfl rfl rfl (Nat.le_of_ble_eq_true rfl) (fun F665572 e665573 n665574 => ?_)
              have he665575 : F665572 q664984 = .inl (I .byte, 8192, .inl f664999) := (n665574 q664984 (rn_ao he665557 he665558)).trans he665557
              have he665576 : F665572 q664983 = .inr (19, [.ref q664984, .int p664986, .int g665500, .int 4, .int p664989, .int z665553, .int p664991, .ref qo664992, .int p664993, .int p664994, .int p664995, .ref qo664996, .ref qo664997, .int p664998]) := e665573
              have hfr665577 : rFr [q664983] P664981 F664982 F665572 := rFr_put' List.mem_cons_self hfr665559 n665574
              exact G_vretA dr_cX14_number_113 rfl (show 0 ≤ ((16 * (p664986.toInt - p664987.toInt)).toNat) by omega) (show 0 ≤ ((160 * (p664986.toInt - p664987.toInt)).toNat) by omega) ⟨F665572, g665500, 4, z665553, (0, fun _ => 0), rfl, rfl, hfr665577, he665576, he665575, (by omega), (by omega), (gB_w bg665500' (by decide) (by decide)), (gB_w (gBl (show Int32.toInt 4 = 4 by decide)) (by decide) (by decide)), (by have qa0 : Int32.toInt 4 = 4 := (by decide); omega), (by have qa0 : Int32.toInt 4 = 4 := (by decide); omega), (tP_no (by decide) (by decide)), (vP_no (by decide) (by decide)), (fun R c1 c2 c3 c4 => c4 z665308 gl665499 g665500 u665552 z665553 z665560 u665561 r665307 ez665308 hx665550 hu665552 hz665553 hz665560 hu665561 lhc665563)⟩
          · have r665578 : o665545.toInt ≠ 0 := gj_neq hc665548 (show Int32.toInt 0 = 0 by decide)
            have bo665545' : gB o665545 1 1 := ⟨by omega, by omega⟩
            have bi665579 : gB z665539 48 57 := isP_1 x665546 (by omega)
            refine G_lload_n 0 dr_cX14_number_42 rfl ?_
            refine G_ldc2 10 dr_cX14_number_43 wr_7_229 ?_
            refine G_lmul dr_cX14_number_46 (G_namL fun u665580 hu665580 => ?_)
            refine G_aload_n 1 dr_cX14_number_47 rfl ?_
            refine Gp_get 0 hmq664983 he665502 dr_cX14_number_48 (gk_X14 D I) (Nat.le_of_ble_eq_true rfl) wr_9_36 rfl ?_
            refine G_aload_n 1 dr_cX14_number_51 rfl ?_
            refine Gp_get 2 hmq664983 he665502 dr_cX14_number_52 (gk_X14 D I) (Nat.le_of_ble_eq_true rfl) wr_9_38 rfl ?_
            refine Gp_bald 1 hmq664984 he665503 dr_cX14_number_55 rfl (gB_in bg665500' (by decide) (by decide)) (G_eqi (y := z665539) hz665539.symm ?_)
            refine G_i2l dr_cX14_number_56 (G_namL fun u665581 hu665581 => ?_)
            refine G_ladd dr_cX14_number_57 (G_namL fun u665582 hu665582 => ?_)
            refine G_ldc2 48 dr_cX14_number_58 wr_7_230 ?_
            refine G_lsub dr_cX14_number_61 (G_namL fun u665583 hu665583 => ?_)
            refine G_ldc2 1099511627776 dr_cX14_number_62 wr_8_222 ?_
            refine Gw_callS (As := [.long u665583, .long 1099511627776]) (gV_ok D I) (cp_665095_Math_min l hl0 D I P664981 F665501 u665583 1099511627776 ) dr_cX14_number_65 ⟨wr_7_232, wr_1_6, wr_3_40, by decide, rfl, (Nat.le_of_ble_eq_true rfl), (Nat.le_of_ble_eq_true rfl)⟩ wr_3_39 (show 0 + 0 ≤ ((16 * (p664986.toInt - p664987.toInt)).toNat) by first | omega | decide) (show 0 + 0 ≤ ((160 * (p664986.toInt - p664987.toInt)).toNat) by first | omega | decide) (Nat.le_of_ble_eq_true rfl) (fun r665587 w665588 dc665584 ds665585 hp665586 => ?_) (fun _ _ _ _ _ z => z.elim)
            obtain ⟨ol665589, rfl, rfl, hdc, hds, x665590, ht665591⟩ := hp665586
            change G _ _ _ _ _ _ _ (.long ol665589 :: _) _ _ _
            refine G_widen (cs' := 0) (sl' := 0) (by omega) (by omega) ?_
            refine G_lstore_n (L' := [(2, .long ol665589), (0, .ref q664983), (1, .int p664985)]) dr_cX14_number_68 (Nat.le_of_ble_eq_true rfl) rfl ?_
            refine G_aload_n 1 dr_cX14_number_69 rfl ?_
            refine G_dup dr_cX14_number_70 rfl ?_
            refine Gp_get 2 hmq664983 he665502 dr_cX14_number_71 (gk_X14 D I) (Nat.le_of_ble_eq_true rfl) wr_9_38 rfl ?_
            refine G_iconst 1 dr_cX14_number_74 (by decide +kernel) ?_
            refine G_iadd dr_cX14_number_75 (G_nam fun z665592 hz665592 => ?_)
            have ez665592 : z665592.toInt = g665500.toInt + 1 := by rw [gI_add hz665592 bg665500' (gBl (show Int32.toInt 1 = 1 by decide)) (by decide) (by decide), show Int32.toInt 1 = 1 from by decide]
            have bz665592 : gB z665592 1 8192 := gB_add (gI_add hz665592 bg665500' (gBl (show Int32.toInt 1 = 1 by decide)) (by decide) (by decide)) bg665500' (gBl (show Int32.toInt 1 = 1 by decide)) (by decide) (by decide)
            refine Gp_put 2 hmq664983 he665502 dr_cX14_number_76 (gk_X14 D I) (Nat.le_of_ble_eq_true rfl) wr_9_38 rfl rfl rfl (Nat.le_of_ble_eq_true rfl) (fun F665593 e665594 n665595 => ?_)
            have he665596 : F665593 q664984 = .inl (I .byte, 8192, .inl f664999) := (n665595 q664984 (rn_ao he665503 he665502)).trans he665503
            have he665597 : F665593 q664983 = .inr (19, [.ref q664984, .int p664986, .int z665592, .int p664988, .int p664989, .int p664990, .int p664991, .ref qo664992, .int p664993, .int p664994, .int p664995, .ref qo664996, .ref qo664997, .int p664998]) := e665594
            have hfr665598 : rFr [q664983] P664981 F664982 F665593 := rFr_put' List.mem_cons_self hfr665504 n665595
            refine G_goto 16 dr_cX14_number_79 (by decide +kernel) ?_
            exact ih16_665507 F665593 ol665589 z665592 (gB_w bz665592 (by decide) (by decide)) hfr665598 he665597 he665596 (by omega) (by omega) (by omega) (fun k e1 e2 ht => kt16_665507 k e1 e2 (fun R c1 c2 c3 => c3 gl665499 g665500 z665539 o665545 u665580 u665581 u665582 u665583 ol665589 z665592 k e1 e2 bg665500 r665538 hz665539 bz665539 bo665545 ht665547 r665578 hu665580 hu665581 hu665582 hu665583 ht665591 ez665592 (ht R c1 c2 c3))) (by omega)
    exact hlp16_665507 (((8193 : Int) - z665308.toInt).toNat + 1) F665309 0 z665308 ⟨by omega, by omega⟩ hfr665314 he665313 he665312 (by omega) (by omega) (by omega) (fun k e1 e2 ht => ht) (Nat.lt_succ_self _)
/- tr_RReader_symbol: a.0...at, a.0...kind -/
def tr_RReader_symbol (a1 : Int32) (a0_n : Int32) (a0_at : Int32) (a0_t_v : Nat → Int32) (o1 : Int32) (o2 : Int32) (o3 : gTx) : Prop := ∀ R : (Int32) → (Int32) → (gTx) → Prop,
  (∀ (x1 : Int32) (x2 : Int32), (((∃ (y1 : Int32), y1.toInt = a0_at.toInt + 1 ∧ a0_n.toInt ≤ y1.toInt) ∨ (∃ (y1 : Int32) (y2 : Int32), y1.toInt = a0_at.toInt + 1 ∧ y1.toInt < a0_n.toInt ∧ y2 = a0_t_v y1.toNatClampNeg ∧ gB y2 (-128) 127 ∧ y2.toInt ≤ 32) ∨ (∃ (y1 : Int32) (y2 : Int32), y1.toInt = a0_at.toInt + 1 ∧ y1.toInt < a0_n.toInt ∧ y2 = a0_t_v y1.toNatClampNeg ∧ gB y2 (-128) 127 ∧ 32 < y2.toInt ∧ a1.toInt ≤ 32))) → gB x1 0 65535 → tr_RString_length2 sb_32 x1 → a1.toInt ≤ 32 → x2.toInt = a0_at.toInt + 1 → R x2 (6 : Int32) (0, fun _ => 0)) →
  (∀ (x1 : Int32) (x2 : Int32) (x3 : Int32) (x4 : Int32) (x5 : Nat → Int32) (x6 : Int32) (x7 : Int32) (x8 : Nat → Int32) (x9 : Nat) (x10 : Nat → Int32) (x11 : Int32), (((∃ (y1 : Int32), y1.toInt = a0_at.toInt + 1 ∧ a0_n.toInt ≤ y1.toInt) ∨ (∃ (y1 : Int32) (y2 : Int32), y1.toInt = a0_at.toInt + 1 ∧ y1.toInt < a0_n.toInt ∧ y2 = a0_t_v y1.toNatClampNeg ∧ gB y2 (-128) 127 ∧ y2.toInt ≤ 32) ∨ (∃ (y1 : Int32) (y2 : Int32), y1.toInt = a0_at.toInt + 1 ∧ y1.toInt < a0_n.toInt ∧ y2 = a0_t_v y1.toNatClampNeg ∧ gB y2 (-128) 127 ∧ 32 < y2.toInt ∧ a1.toInt ≤ 32))) → gB x1 0 65535 → tr_RString_length2 sb_32 x1 → 32 < a1.toInt → x2 = (a1.toUInt32 % 65536).toInt32 → gB x3 (-1) 65534 → tr_RString_indexOf2 sb_37 x2 x3 → x3.toInt < 0 → gB x4 0 16777216 → (tr_RStringBuilder_append4 sb_32 (0 : Int32) (fun _ => 0) 16 x4 x5) → x6 = (a1.toUInt32 % 65536).toInt32 → gB x7 1 16777216 → tr_RStringBuilder_append x6 x4 x5 16 x7 x8 → tr_RStringBuilder_toString x7 x8 16 x9 x10 → x11.toInt = a0_at.toInt + 1 → R x11 (6 : Int32) (0, fun _ => 0)) →
  (∀ (x1 : Int32) (x2 : Int32) (x3 : Int32) (x4 : Int32) (x5 : Nat → Int32) (x6 : Int32) (x7 : Int32) (x8 : Nat → Int32) (x9 : Nat) (x10 : Nat → Int32) (x11 : Int32), (((∃ (y1 : Int32), y1.toInt = a0_at.toInt + 1 ∧ a0_n.toInt ≤ y1.toInt) ∨ (∃ (y1 : Int32) (y2 : Int32), y1.toInt = a0_at.toInt + 1 ∧ y1.toInt < a0_n.toInt ∧ y2 = a0_t_v y1.toNatClampNeg ∧ gB y2 (-128) 127 ∧ y2.toInt ≤ 32) ∨ (∃ (y1 : Int32) (y2 : Int32), y1.toInt = a0_at.toInt + 1 ∧ y1.toInt < a0_n.toInt ∧ y2 = a0_t_v y1.toNatClampNeg ∧ gB y2 (-128) 127 ∧ 32 < y2.toInt ∧ a1.toInt ≤ 32))) → gB x1 0 65535 → tr_RString_length2 sb_32 x1 → 32 < a1.toInt → x2 = (a1.toUInt32 % 65536).toInt32 → gB x3 (-1) 65534 → tr_RString_indexOf2 sb_37 x2 x3 → 0 ≤ x3.toInt → gB x4 0 16777216 → (tr_RStringBuilder_append4 sb_32 (0 : Int32) (fun _ => 0) 16 x4 x5) → x6 = (a1.toUInt32 % 65536).toInt32 → gB x7 1 16777216 → tr_RStringBuilder_append x6 x4 x5 16 x7 x8 → tr_RStringBuilder_toString x7 x8 16 x9 x10 → x11.toInt = a0_at.toInt + 1 → R x11 (5 : Int32) (x9, x10)) →
  (∀ (x1 : Int32) (x2 : Int32) (x3 : Int32) (x4 : Nat → Int32) (x5 : Int32) (x6 : Int32) (x7 : Nat → Int32) (x8 : Int32) (x9 : Int32) (x10 : Nat → Int32) (x11 : Nat) (x12 : Nat → Int32) (x13 : Int32) (x14 : Int32) (x15 : Nat → Int32) (x16 : Int32) (x17 : Nat → Int32) (x18 : Int32) (x19 : Nat → Int32) (x20 : Nat) (x21 : Nat → Int32) (x22 : Int32) (x23 : Int32) (x24 : Int32) (x25 : Int32) (x26 : Nat → Int32) (x27 : Int32) (x28 : Int32) (x29 : Nat → Int32) (x30 : Nat) (x31 : Nat → Int32), x1.toInt = a0_at.toInt + 1 → x1.toInt < a0_n.toInt → x2 = a0_t_v x1.toNatClampNeg → gB x2 (-128) 127 → 32 < x2.toInt → 32 < a1.toInt → gB x3 0 16777216 → (tr_RStringBuilder_append4 sb_32 (0 : Int32) (fun _ => 0) 16 x3 x4) → x5 = (a1.toUInt32 % 65536).toInt32 → gB x6 1 16777216 → tr_RStringBuilder_append x5 x3 x4 16 x6 x7 → x8 = (x2.toUInt32 % 65536).toInt32 → gB x9 1 16777216 → tr_RStringBuilder_append x8 x6 x7 16 x9 x10 → tr_RStringBuilder_toString x9 x10 16 x11 x12 → gB x13 0 16777216 → tr_RString_length x11 x13 → gB x14 0 16777216 → (tr_RStringBuilder_append4 sb_35 (0 : Int32) (fun _ => 0) 16 x14 x15) → gB x16 0 16777216 → tr_RStringBuilder_append3 x14 x15 16 x12 x11 x16 x17 → gB x18 0 16777216 → tr_RStringBuilder_append4 sb_35 x16 x17 16 x18 x19 → tr_RStringBuilder_toString x18 x19 16 x20 x21 → gB x22 (-2147483646) 16777215 → tr_RString_indexOf sb_36 x21 x20 x22 → x22.toInt < 0 → x23 = (a1.toUInt32 % 65536).toInt32 → gB x24 (-1) 65534 → tr_RString_indexOf2 sb_37 x23 x24 → x24.toInt < 0 → gB x25 0 16777216 → (tr_RStringBuilder_append4 sb_32 (0 : Int32) (fun _ => 0) 16 x25 x26) → x27 = (a1.toUInt32 % 65536).toInt32 → gB x28 1 16777216 → tr_RStringBuilder_append x27 x25 x26 16 x28 x29 → tr_RStringBuilder_toString x28 x29 16 x30 x31 → R x1 (6 : Int32) (0, fun _ => 0)) →
  (∀ (x1 : Int32) (x2 : Int32) (x3 : Int32) (x4 : Nat → Int32) (x5 : Int32) (x6 : Int32) (x7 : Nat → Int32) (x8 : Int32) (x9 : Int32) (x10 : Nat → Int32) (x11 : Nat) (x12 : Nat → Int32) (x13 : Int32) (x14 : Int32) (x15 : Nat → Int32) (x16 : Int32) (x17 : Nat → Int32) (x18 : Int32) (x19 : Nat → Int32) (x20 : Nat) (x21 : Nat → Int32) (x22 : Int32) (x23 : Int32) (x24 : Int32) (x25 : Int32) (x26 : Nat → Int32) (x27 : Int32) (x28 : Int32) (x29 : Nat → Int32) (x30 : Nat) (x31 : Nat → Int32), x1.toInt = a0_at.toInt + 1 → x1.toInt < a0_n.toInt → x2 = a0_t_v x1.toNatClampNeg → gB x2 (-128) 127 → 32 < x2.toInt → 32 < a1.toInt → gB x3 0 16777216 → (tr_RStringBuilder_append4 sb_32 (0 : Int32) (fun _ => 0) 16 x3 x4) → x5 = (a1.toUInt32 % 65536).toInt32 → gB x6 1 16777216 → tr_RStringBuilder_append x5 x3 x4 16 x6 x7 → x8 = (x2.toUInt32 % 65536).toInt32 → gB x9 1 16777216 → tr_RStringBuilder_append x8 x6 x7 16 x9 x10 → tr_RStringBuilder_toString x9 x10 16 x11 x12 → gB x13 0 16777216 → tr_RString_length x11 x13 → gB x14 0 16777216 → (tr_RStringBuilder_append4 sb_35 (0 : Int32) (fun _ => 0) 16 x14 x15) → gB x16 0 16777216 → tr_RStringBuilder_append3 x14 x15 16 x12 x11 x16 x17 → gB x18 0 16777216 → tr_RStringBuilder_append4 sb_35 x16 x17 16 x18 x19 → tr_RStringBuilder_toString x18 x19 16 x20 x21 → gB x22 (-2147483646) 16777215 → tr_RString_indexOf sb_36 x21 x20 x22 → x22.toInt < 0 → x23 = (a1.toUInt32 % 65536).toInt32 → gB x24 (-1) 65534 → tr_RString_indexOf2 sb_37 x23 x24 → 0 ≤ x24.toInt → gB x25 0 16777216 → (tr_RStringBuilder_append4 sb_32 (0 : Int32) (fun _ => 0) 16 x25 x26) → x27 = (a1.toUInt32 % 65536).toInt32 → gB x28 1 16777216 → tr_RStringBuilder_append x27 x25 x26 16 x28 x29 → tr_RStringBuilder_toString x28 x29 16 x30 x31 → R x1 (5 : Int32) (x30, x31)) →
  (∀ (x1 : Int32) (x2 : Int32) (x3 : Int32) (x4 : Nat → Int32) (x5 : Int32) (x6 : Int32) (x7 : Nat → Int32) (x8 : Int32) (x9 : Int32) (x10 : Nat → Int32) (x11 : Nat) (x12 : Nat → Int32) (x13 : Int32) (x14 : Int32) (x15 : Nat → Int32) (x16 : Int32) (x17 : Nat → Int32) (x18 : Int32) (x19 : Nat → Int32) (x20 : Nat) (x21 : Nat → Int32) (x22 : Int32) (x23 : Int32), x1.toInt = a0_at.toInt + 1 → x1.toInt < a0_n.toInt → x2 = a0_t_v x1.toNatClampNeg → gB x2 (-128) 127 → 32 < x2.toInt → 32 < a1.toInt → gB x3 0 16777216 → (tr_RStringBuilder_append4 sb_32 (0 : Int32) (fun _ => 0) 16 x3 x4) → x5 = (a1.toUInt32 % 65536).toInt32 → gB x6 1 16777216 → tr_RStringBuilder_append x5 x3 x4 16 x6 x7 → x8 = (x2.toUInt32 % 65536).toInt32 → gB x9 1 16777216 → tr_RStringBuilder_append x8 x6 x7 16 x9 x10 → tr_RStringBuilder_toString x9 x10 16 x11 x12 → gB x13 0 16777216 → tr_RString_length x11 x13 → gB x14 0 16777216 → (tr_RStringBuilder_append4 sb_35 (0 : Int32) (fun _ => 0) 16 x14 x15) → gB x16 0 16777216 → tr_RStringBuilder_append3 x14 x15 16 x12 x11 x16 x17 → gB x18 0 16777216 → tr_RStringBuilder_append4 sb_35 x16 x17 16 x18 x19 → tr_RStringBuilder_toString x18 x19 16 x20 x21 → gB x22 (-2147483646) 16777215 → tr_RString_indexOf sb_36 x21 x20 x22 → 0 ≤ x22.toInt → x23.toInt = a0_at.toInt + 2 → R x23 (5 : Int32) (x11, x12)) →
  R o1 o2 o3
abbrev ky_665628_Reader_symbol : gKey := (cX14_symbol, 4, "SpillForgeModel$Reader", none, [], "symbol", fun _ _ => True)
def pp_665628_Reader_symbol (D : va_G) (I : FieldType → ClassId) (P665605 : List Nat) (F665606 : Nat → va_E) (q665607 : Nat) (q665608 : Nat) (p665609 : Int32) (p665610 : Int32) (p665611 : Int32) (p665612 : Int32) (p665613 : Int32) (p665614 : Int32) (p665615 : Int32) (qo665616 : Nat) (p665617 : Int32) (p665618 : Int32) (p665619 : Int32) (qo665620 : Nat) (qo665621 : Nat) (p665622 : Int32) (f665623 : Nat → Int32) : Option Value → va_W → Nat → Nat → Prop := fun r w dc ds => ∃ (P666621 : List Nat) (F666622 : Nat → va_E) (o666618 : Int32) (o666619 : Int32) (q666620 : Nat) (xt666623 : gTx), r = none ∧ w = va_pl P666621 F666622 ∧ rSub P665605 P666621 ∧ rFr [q665607] P665605 F665606 F666622 ∧ F666622 q665607 = .inr (19, [.ref q665608, .int p665610, .int o666618, .int o666619, .int p665613, .int p665614, .int p665615, .ref q666620, .int p665617, .int p665618, .int p665619, .ref qo665620, .ref qo665621, .int p665622]) ∧ F666622 q665608 = .inl (I .byte, 8192, .inl f665623) ∧ dc ≤ (16 * (o666618.toInt - p665611.toInt)).toNat ∧ ds ≤ (160 * (o666618.toInt - p665611.toInt)).toNat ∧ gB o666618 1 8192 ∧ gB o666619 5 6 ∧ p665611.toInt < o666618.toInt ∧ o666618.toInt ≤ p665610.toInt ∧ tP I P666621 F666622 o666619 q666620 qo665621 qo665620 xt666623 ∧ vP o666619 p665614 ∧ tr_RReader_symbol p665609 p665610 p665611 f665623 o666618 o666619 xt666623
set_option maxRecDepth 100000 in
set_option maxHeartbeats 4000000 in
theorem cp_665628_Reader_symbol (l : Launch) (hl0 : l.stackTraces = false) (D : va_G) (I : FieldType → ClassId) (P665605 : List Nat) (F665606 : Nat → va_E) (q665607 : Nat) (q665608 : Nat) (p665609 : Int32) (p665610 : Int32) (p665611 : Int32) (p665612 : Int32) (p665613 : Int32) (p665614 : Int32) (p665615 : Int32) (qo665616 : Nat) (p665617 : Int32) (p665618 : Int32) (p665619 : Int32) (qo665620 : Nat) (qo665621 : Nat) (p665622 : Int32) (f665623 : Nat → Int32) (hmq665607 : q665607 ∈ P665605) (hmq665608 : q665608 ∈ P665605) (heq665607 : F665606 q665607 = .inr (19, [.ref q665608, .int p665610, .int p665611, .int p665612, .int p665613, .int p665614, .int p665615, .ref qo665616, .int p665617, .int p665618, .int p665619, .ref qo665620, .ref qo665621, .int p665622])) (heq665608 : F665606 q665608 = .inl (I .byte, 8192, .inl f665623)) (bp665609 : gB p665609 (-128) 127) (bp665610 : gB p665610 0 8192) (bp665611 : gB p665611 0 8192) (bp665612 : gB p665612 0 6) (bp665613 : gB p665613 0 8192) (bp665615 : gB p665615 0 6) (bp665617 : gB p665617 (-1) 8192) (bp665618 : gB p665618 0 4) (bp665619 : gB p665619 0 1000000) (bp665622 : gB p665622 0 1000000) (bf665623 : gF f665623 (-128) 127) (x665624 : p665611.toInt ≤ p665610.toInt) (x665625 : p665611.toInt < p665610.toInt) (x665626 : qo665621 ∈ P665605) (x665627 : qo665620 ∈ P665605) : CtA (gV D I) l yX14_symbol cX14_symbol 4 none 6 132 ((16 * (p665610.toInt - p665611.toInt)).toNat) ((160 * (p665610.toInt - p665611.toInt)).toNat) [.ref q665607, .int p665609] (va_pl P665605 F665606) (pp_665628_Reader_symbol D I P665605 F665606 q665607 q665608 p665609 p665610 p665611 p665612 p665613 p665614 p665615 qo665616 p665617 p665618 p665619 qo665620 qo665621 p665622 f665623) gNA := by
  refine CtA_of hl0 (by decide) (Nat.le_of_ble_eq_true rfl) ?_
  have bp665614 := gB_any p665614
  have hMC : 16 ≤ ((16 * (p665610.toInt - p665611.toInt)).toNat) := by omega
  have hMS : 160 ≤ ((160 * (p665610.toInt - p665611.toInt)).toNat) := by omega
  have jn665629 : ((∃ (y1 : Int32), y1.toInt = p665611.toInt + 1 ∧ p665610.toInt ≤ y1.toInt) ∨ (∃ (y1 : Int32) (y2 : Int32), y1.toInt = p665611.toInt + 1 ∧ y1.toInt < p665610.toInt ∧ y2 = f665623 y1.toNatClampNeg ∧ gB y2 (-128) 127 ∧ y2.toInt ≤ 32) ∨ (∃ (y1 : Int32) (y2 : Int32), y1.toInt = p665611.toInt + 1 ∧ y1.toInt < p665610.toInt ∧ y2 = f665623 y1.toNatClampNeg ∧ gB y2 (-128) 127 ∧ 32 < y2.toInt ∧ p665609.toInt ≤ 32)) → G (gV D I) l (gRm 6 132 ((16 * (p665610.toInt - p665611.toInt)).toNat) ((160 * (p665610.toInt - p665611.toInt)).toNat)) (gMA (gV D I) (pp_665628_Reader_symbol D I P665605 F665606 q665607 q665608 p665609 p665610 p665611 p665612 p665613 p665614 p665615 qo665616 p665617 p665618 p665619 qo665620 qo665621 p665622 f665623) gNA ((16 * (p665610.toInt - p665611.toInt)).toNat) ((160 * (p665610.toInt - p665611.toInt)).toNat)) ky_665628_Reader_symbol 73 [(0, .ref q665607), (1, .int p665609)] [] (va_pl P665605 F665606) 0 0 := by
    intro hJ665630
    refine G_ldcK (a := D.2 1000 32) dr_cX14_symbol_73 (fun _ _ _ h => gx_vk 32 rfl rfl h) ?_
    have hl32_665630 : (sb_32.length : Int) = 0 := rfl
    refine G_astore_n (L' := [(2, .ref (D.2 1000 32)), (0, .ref q665607), (1, .int p665609)]) dr_cX14_symbol_75 (Nat.le_of_ble_eq_true rfl) rfl ?_
    refine G_aload_n 0 dr_cX14_symbol_76 rfl ?_
    refine Gw_callVk (As := []) (gV_ok D I) (cp_656203_String_length l hl0 D I P665605 F665606 (D.2 1000 32) (D.2 1001 32) sb_32 (gx_sc 32 rfl rfl) (by omega) (by decide +kernel)) dr_cX14_symbol_77 ⟨wr_8_227, wr_1_21, wr_3_60, by decide, rfl, (Nat.le_of_ble_eq_true rfl), (Nat.le_of_ble_eq_true rfl)⟩ wr_3_58 wr_3_59 (fun _ _ _ h => ((gx_sc 32 rfl rfl) _ _ _ h).1) (Nat.le_trans (show 0 + 0 ≤ 16 by decide) hMC) (Nat.le_trans (show 0 + 0 ≤ 160 by decide) hMS) (Nat.le_of_ble_eq_true rfl) (fun r665635 w665636 dc665632 ds665633 hp665634 => ?_) (fun _ _ _ _ _ z => z.elim)
    obtain ⟨o665637, rfl, rfl, hdc, hds, bo665637, x665638, ht665639⟩ := hp665634
    have bo665637' : gB o665637 0 0 := ⟨by omega, by omega⟩
    change G _ _ _ _ _ _ _ (.int o665637 :: _) _ _ _
    refine G_widen (cs' := 0) (sl' := 0) (Nat.add_le_add_left hdc 0) (Nat.add_le_add_left hds 0) ?_
    refine G_iconst 2 dr_cX14_symbol_80 (by decide +kernel) ?_
    refine G_icmp_ne 120 dr_cX14_symbol_81 (by decide +kernel) (fun _ => ?_) (fun hc => absurd (show False by have := gj_eq hc (show Int32.toInt 2 = 2 by decide); omega) not_false)
    refine G_iconst 0 dr_cX14_symbol_120 (by decide +kernel) ?_
    refine G_istore_n (L' := [(3, .int 0), (2, .ref (D.2 1000 32)), (0, .ref q665607), (1, .int p665609)]) dr_cX14_symbol_121 (Nat.le_of_ble_eq_true rfl) rfl ?_
    clear bo665637'; try clear r665635; try clear w665636; try clear dc665632; try clear ds665633; try clear hp665634; try clear x665638
    refine G_aload_n 2 dr_cX14_symbol_122 rfl ?_
    refine G_iload_n 0 dr_cX14_symbol_123 rfl ?_
    refine G_if_ne 143 dr_cX14_symbol_124 (by decide +kernel) (fun hc => absurd hc (by decide)) (fun _ => ?_)
    refine G_iload_n 3 dr_cX14_symbol_127 rfl ?_
    refine G_bipush 32 dr_cX14_symbol_128 (by decide +kernel) ?_
    refine G_icmp_le 147 dr_cX14_symbol_130 (by decide +kernel) (fun hc665640 => ?_) (fun hc665640 => ?_)
    · have r665641 : p665609.toInt ≤ 32 := gj_le hc665640 (show Int32.toInt 32 = 32 by decide)
      have bp665609' : gB p665609 (-128) 32 := ⟨by omega, by omega⟩
      refine G_bipush 6 dr_cX14_symbol_147 (by decide +kernel) ?_
      refine Gp_put 3 hmq665607 heq665607 dr_cX14_symbol_149 (gk_X14 D I) (Nat.le_of_ble_eq_true rfl) wr_9_39 rfl rfl rfl (Nat.le_of_ble_eq_true rfl) (fun F665642 e665643 n665644 => ?_)
      have he665645 : F665642 q665608 = .inl (I .byte, 8192, .inl f665623) := (n665644 q665608 (rn_ao heq665608 heq665607)).trans heq665608
      have he665646 : F665642 q665607 = .inr (19, [.ref q665608, .int p665610, .int p665611, .int 6, .int p665613, .int p665614, .int p665615, .ref qo665616, .int p665617, .int p665618, .int p665619, .ref qo665620, .ref qo665621, .int p665622]) := e665643
      have hfr665647 : rFr [q665607] P665605 F665606 F665642 := rFr_put (rFr_rf (W := []) (P := P665605) (F := F665606)) n665644
      refine G_aload_n 2 dr_cX14_symbol_152 rfl ?_
      refine G_iload_n 0 dr_cX14_symbol_153 rfl ?_
      refine G_if_eq 161 dr_cX14_symbol_154 (by decide +kernel) (fun _ => ?_) (fun hc => absurd hc (by decide))
      refine G_iload_n 3 dr_cX14_symbol_161 rfl ?_
      refine G_bipush 32 dr_cX14_symbol_162 (by decide +kernel) ?_
      refine G_icmp_le 190 dr_cX14_symbol_164 (by decide +kernel) (fun _ => ?_) (fun hc => absurd (show False by have := gj_nle hc (show Int32.toInt 32 = 32 by decide); omega) not_false)
      refine G_ldcK (a := D.2 1000 32) dr_cX14_symbol_190 (fun _ _ _ h => gx_vk 32 rfl rfl h) ?_
      have hl32_665647 : (sb_32.length : Int) = 0 := rfl
      refine Gp_put 7 hmq665607 he665646 dr_cX14_symbol_192 (gk_X14 D I) (Nat.le_of_ble_eq_true rfl) wr_9_43 rfl rfl rfl (Nat.le_of_ble_eq_true rfl) (fun F665649 e665650 n665651 => ?_)
      have he665652 : F665649 q665608 = .inl (I .byte, 8192, .inl f665623) := (n665651 q665608 (rn_ao he665645 he665646)).trans he665645
      have he665653 : F665649 q665607 = .inr (19, [.ref q665608, .int p665610, .int p665611, .int 6, .int p665613, .int p665614, .int p665615, .ref (D.2 1000 32), .int p665617, .int p665618, .int p665619, .ref qo665620, .ref qo665621, .int p665622]) := e665650
      have hfr665654 : rFr [q665607] P665605 F665606 F665649 := rFr_put' List.mem_cons_self hfr665647 n665651
      clear he665645 he665646 hfr665647
      refine G_aload_n 2 dr_cX14_symbol_195 rfl ?_
      refine G_dup dr_cX14_symbol_196 rfl ?_
      refine Gp_get 2 hmq665607 he665653 dr_cX14_symbol_197 (gk_X14 D I) (Nat.le_of_ble_eq_true rfl) wr_9_38 rfl ?_
      refine G_iload_n 0 dr_cX14_symbol_200 rfl ?_
      refine G_if_eq 208 dr_cX14_symbol_201 (by decide +kernel) (fun _ => ?_) (fun hc => absurd hc (by decide))
      refine G_iconst 1 dr_cX14_symbol_208 (by decide +kernel) ?_
      refine G_iadd dr_cX14_symbol_209 (G_nam fun z665655 hz665655 => ?_)
      have ez665655 : z665655.toInt = p665611.toInt + 1 := by rw [gI_add hz665655 bp665611 (gBl (show Int32.toInt 1 = 1 by decide)) (by decide) (by decide), show Int32.toInt 1 = 1 from by decide]
      have bz665655 : gB z665655 1 8193 := gB_add (gI_add hz665655 bp665611 (gBl (show Int32.toInt 1 = 1 by decide)) (by decide) (by decide)) bp665611 (gBl (show Int32.toInt 1 = 1 by decide)) (by decide) (by decide)
      refine Gp_put 2 hmq665607 he665653 dr_cX14_symbol_210 (gk_X14 D I) (Nat.le_of_ble_eq_true rfl) wr_9_38 rfl rfl rfl (Nat.le_of_ble_eq_true rfl) (fun F665656 e665657 n665658 => ?_)
      have he665659 : F665656 q665608 = .inl (I .byte, 8192, .inl f665623) := (n665658 q665608 (rn_ao he665652 he665653)).trans he665652
      have he665660 : F665656 q665607 = .inr (19, [.ref q665608, .int p665610, .int z665655, .int 6, .int p665613, .int p665614, .int p665615, .ref (D.2 1000 32), .int p665617, .int p665618, .int p665619, .ref qo665620, .ref qo665621, .int p665622]) := e665657
      have hfr665661 : rFr [q665607] P665605 F665606 F665656 := rFr_put' List.mem_cons_self hfr665654 n665658
      exact G_vretA dr_cX14_symbol_213 rfl (show 0 ≤ ((16 * (p665610.toInt - p665611.toInt)).toNat) by omega) (show 0 ≤ ((160 * (p665610.toInt - p665611.toInt)).toNat) by omega) ⟨P665605, F665656, z665655, 6, (D.2 1000 32), (0, fun _ => 0), rfl, rfl, (rSub_rf (P := P665605)), hfr665661, he665660, he665659, (by omega), (by omega), ⟨by omega, by omega⟩, (gB_w (gBl (show Int32.toInt 6 = 6 by decide)) (by decide) (by decide)), (by have qa0 : Int32.toInt 0 = 0 := (by decide); have qa1 : Int32.toInt 6 = 6 := (by decide); omega), (by have qa0 : Int32.toInt 0 = 0 := (by decide); have qa1 : Int32.toInt 6 = 6 := (by decide); omega), (tP_no (by decide) (by decide)), (vP_no (by decide) (by decide)), (fun R c1 c2 c3 c4 c5 c6 => c1 o665637 z665655 hJ665630 bo665637 ht665639 r665641 ez665655)⟩
    · have r665662 : 32 < p665609.toInt := gj_nle hc665640 (show Int32.toInt 32 = 32 by decide)
      have bp665609' : gB p665609 33 127 := ⟨by omega, by omega⟩
      refine G_ldcK (a := D.2 1000 37) dr_cX14_symbol_133 (fun _ _ _ h => gx_vk 37 rfl rfl h) ?_
      have hl37_665662 : (sb_37.length : Int) = 14 := rfl
      refine G_iload_n 3 dr_cX14_symbol_135 rfl ?_
      refine G_i2c dr_cX14_symbol_136 (G_nam fun z665664 hz665664 => ?_)
      have ez665664 : z665664.toInt = p665609.toInt := gI_i2c hz665664 (by omega) (by omega)
      have bz665664 : gB z665664 33 127 := ⟨by omega, by omega⟩
      refine Gw_callVk (As := [.int z665664]) (gV_ok D I) (cp_664190_String_indexOf l hl0 D I P665605 F665606 (D.2 1000 37) (D.2 1001 37) sb_37 z665664 (gx_sc 37 rfl rfl) (by omega) (by decide +kernel) (gB_w bz665664 (by decide) (by decide))) dr_cX14_symbol_137 ⟨wr_8_230, wr_1_21, wr_8_233, by decide, rfl, (Nat.le_of_ble_eq_true rfl), (Nat.le_of_ble_eq_true rfl)⟩ wr_8_231 wr_8_232 (fun _ _ _ h => ((gx_sc 37 rfl rfl) _ _ _ h).1) (Nat.le_trans (show 0 + 0 ≤ 16 by decide) hMC) (Nat.le_trans (show 0 + 0 ≤ 160 by decide) hMS) (Nat.le_of_ble_eq_true rfl) (fun r665668 w665669 dc665665 ds665666 hp665667 => ?_) (fun _ _ _ _ _ z => z.elim)
      obtain ⟨o665670, rfl, rfl, hdc, hds, bo665670, ht665671⟩ := hp665667
      change G _ _ _ _ _ _ _ (.int o665670 :: _) _ _ _
      refine G_widen (cs' := 0) (sl' := 0) (Nat.add_le_add_left hdc 0) (Nat.add_le_add_left hds 0) ?_
      refine G_if_lt 147 dr_cX14_symbol_140 (by decide +kernel) (fun hc665672 => ?_) (fun hc665672 => ?_)
      · have r665673 : o665670.toInt < 0 := gj_lt hc665672 (show Int32.toInt 0 = 0 by decide)
        have bo665670' : gB o665670 (-1) (-1) := ⟨by omega, by omega⟩
        refine G_bipush 6 dr_cX14_symbol_147 (by decide +kernel) ?_
        refine Gp_put 3 hmq665607 heq665607 dr_cX14_symbol_149 (gk_X14 D I) (Nat.le_of_ble_eq_true rfl) wr_9_39 rfl rfl rfl (Nat.le_of_ble_eq_true rfl) (fun F665674 e665675 n665676 => ?_)
        have he665677 : F665674 q665608 = .inl (I .byte, 8192, .inl f665623) := (n665676 q665608 (rn_ao heq665608 heq665607)).trans heq665608
        have he665678 : F665674 q665607 = .inr (19, [.ref q665608, .int p665610, .int p665611, .int 6, .int p665613, .int p665614, .int p665615, .ref qo665616, .int p665617, .int p665618, .int p665619, .ref qo665620, .ref qo665621, .int p665622]) := e665675
        have hfr665679 : rFr [q665607] P665605 F665606 F665674 := rFr_put (rFr_rf (W := []) (P := P665605) (F := F665606)) n665676
        clear ez665664 bz665664 bo665670'; try clear r665668; try clear w665669; try clear dc665665; try clear ds665666; try clear hp665667
        refine G_aload_n 2 dr_cX14_symbol_152 rfl ?_
        refine G_iload_n 0 dr_cX14_symbol_153 rfl ?_
        refine G_if_eq 161 dr_cX14_symbol_154 (by decide +kernel) (fun _ => ?_) (fun hc => absurd hc (by decide))
        refine G_iload_n 3 dr_cX14_symbol_161 rfl ?_
        refine G_bipush 32 dr_cX14_symbol_162 (by decide +kernel) ?_
        refine G_icmp_le 190 dr_cX14_symbol_164 (by decide +kernel) (fun hc => absurd (show False by have := gj_le hc (show Int32.toInt 32 = 32 by decide); omega) not_false) (fun _ => ?_)
        refine G_new [.null, .int 0, .int 0, .int 0] dr_cX14_symbol_167 (gk_J4 D I) wr_7_235 wr_7_44 wr_1_20 (gfs_J4) (Nat.le_trans (show 0 + 1 ≤ 16 by decide) hMC) (Nat.le_trans (show 0 + 4 ≤ 160 by decide) hMS) (fun q665680 => Gp_in (fun P665681 F665682 hq665683 hP665684 e665685 n665686 => ?_))
        refine G_widen (cs' := 1) (sl' := 4) (by omega) (by omega) ?_
        have he665687 : F665682 q665607 = .inr (19, [.ref q665608, .int p665610, .int p665611, .int 6, .int p665613, .int p665614, .int p665615, .ref qo665616, .int p665617, .int p665618, .int p665619, .ref qo665620, .ref qo665621, .int p665622]) := (n665686 q665607 (fun h => hq665683 (h ▸ hmq665607))).trans he665678
        have he665688 : F665682 q665608 = .inl (I .byte, 8192, .inl f665623) := (n665686 q665608 (fun h => hq665683 (h ▸ hmq665608))).trans he665677
        have he665689 : F665682 q665680 = .inr (1, [.null, .int 0, .int 0, .int 0]) := e665685
        have hm665690 : q665607 ∈ P665681 := (hP665684 q665607).mpr (Or.inl hmq665607)
        have hm665691 : q665608 ∈ P665681 := (hP665684 q665608).mpr (Or.inl hmq665608)
        have hm665692 : q665680 ∈ P665681 := (hP665684 q665680).mpr (Or.inr rfl)
        have hq665693 : q665680 ∉ P665605 := fun z => hq665683 ((rSub_rf (P := P665605)) q665680 z)
        have hfr665694 : rFr [q665607] P665605 F665606 F665682 := rFr_new (rSub_rf (P := P665605)) hq665683 hfr665679 n665686
        have hsb665695 : rSub P665605 P665681 := rSub_new (rSub_rf (P := P665605)) hP665684
        refine G_dup dr_cX14_symbol_170 rfl ?_
        refine Gw_callI (As := []) (gV_ok D I) (cp_655881_StringBuilder_init l hl0 D I P665681 F665682 q665680 0 0 hm665692 he665689 (gB_w (gBl (show Int32.toInt 0 = 0 by decide)) (by decide) (by decide)) (gB_w (gBl (show Int32.toInt 0 = 0 by decide)) (by decide) (by decide))) dr_cX14_symbol_171 ⟨wr_7_236, wr_1_20, wr_7_47, by decide, rfl, (Nat.le_of_ble_eq_true rfl), (Nat.le_of_ble_eq_true rfl)⟩ wr_7_46 rfl (Nat.le_trans (show 1 + 1 ≤ 16 by decide) hMC) (Nat.le_trans (show 4 + 16 ≤ 160 by decide) hMS) (Nat.le_of_ble_eq_true rfl) (fun r665699 w665700 dc665696 ds665697 hp665698 => ?_)
        obtain ⟨P665702, F665703, q665701, rfl, rfl, hsb665704, hfr665705, he665706, he665707, hm665708, hq665709, hdc, hds⟩ := hp665698
        have hm665710 : q665607 ∈ P665702 := hsb665704 q665607 hm665690
        have hm665711 : q665608 ∈ P665702 := hsb665704 q665608 hm665691
        have hm665712 : q665680 ∈ P665702 := hsb665704 q665680 hm665692
        have hq665713 : q665701 ∉ P665605 := fun z => hq665709 (hsb665695 q665701 z)
        have hsb665714 : rSub P665605 P665702 := rSub_tr hsb665695 hsb665704
        have he665715 : F665703 q665607 = .inr (19, [.ref q665608, .int p665610, .int p665611, .int 6, .int p665613, .int p665614, .int p665615, .ref qo665616, .int p665617, .int p665618, .int p665619, .ref qo665620, .ref qo665621, .int p665622]) := (hfr665705 q665607 hm665690 (nm_c (fun h => hq665693 (h ▸ hmq665607)) nm_n)).trans he665687
        have he665716 : F665703 q665608 = .inl (I .byte, 8192, .inl f665623) := (hfr665705 q665608 hm665691 (nm_c (fun h => hq665693 (h ▸ hmq665608)) nm_n)).trans he665688
        have hfr665717 : rFr [q665607] P665605 F665606 F665703 := rFr_call hsb665695 hfr665694 hfr665705 (fun b hb hn => ⟨(nm_c (fun e => hn (e ▸ List.mem_cons_self)) nm_n), (nm_c (fun e => hq665693 (e ▸ hb)) nm_n)⟩)
        change G _ _ _ _ _ _ _ _ _ _ _
        refine G_widen (cs' := 2) (sl' := 20) (Nat.add_le_add_left hdc 1) (Nat.add_le_add_left hds 4) ?_
        refine G_ldcK (a := D.2 1000 32) dr_cX14_symbol_174 (fun _ _ _ h => gx_vk 32 rfl rfl h) ?_
        have hl32_665717 : (sb_32.length : Int) = 0 := rfl
        refine Gw_callV (As := [.ref (D.2 1000 32)]) (gV_ok D I) (cp_656183_StringBuilder_append l hl0 D I P665702 F665703 q665680 q665701 (D.2 1000 32) (D.2 1001 32) sb_32 0 0 (fun _ => 0) 16 hm665712 hm665708 he665706 he665707 (gx_sc 32 rfl rfl) (by omega) (by decide +kernel) (gB_w (gBl (show Int32.toInt 0 = 0 by decide)) (by decide) (by decide)) (gB_w (gBl (show Int32.toInt 0 = 0 by decide)) (by decide) (by decide)) (gF_w gF_0 (by decide) (by decide)) (by have qa0 : Int32.toInt 0 = 0 := (by decide); have qa1 : Int32.toInt 6 = 6 := (by decide); omega) (by have qa0 : Int32.toInt 0 = 0 := (by decide); have qa1 : Int32.toInt 6 = 6 := (by decide); omega)) dr_cX14_symbol_176 ⟨wr_8_195, wr_1_20, wr_8_143, by decide, rfl, (Nat.le_of_ble_eq_true rfl), (Nat.le_of_ble_eq_true rfl)⟩ wr_8_141 wr_8_142 hm665712 he665706 rfl (Nat.le_trans (show 2 + 0 ≤ 16 by decide) hMC) (Nat.le_trans (show 20 + 0 ≤ 160 by decide) hMS) (Nat.le_of_ble_eq_true rfl) (fun r665722 w665723 dc665719 ds665720 hp665721 => ?_) (fun _ _ _ _ _ z => z.elim)
        obtain ⟨F665730, o665724, f665725, rfl, rfl, hfr665732, he665733, he665734, hdc, hds, bo665724, bf665725, x665726, x665727, x665728, ht665729⟩ := hp665721
        have he665735 : F665730 q665607 = .inr (19, [.ref q665608, .int p665610, .int p665611, .int 6, .int p665613, .int p665614, .int p665615, .ref qo665616, .int p665617, .int p665618, .int p665619, .ref qo665620, .ref qo665621, .int p665622]) := (hfr665732 q665607 hm665710 (nm_c (fun h => hq665693 (h ▸ hmq665607)) (nm_c (fun h => hq665713 (h ▸ hmq665607)) nm_n))).trans he665715
        have he665736 : F665730 q665608 = .inl (I .byte, 8192, .inl f665623) := (hfr665732 q665608 hm665711 (nm_c (fun h => hq665693 (h ▸ hmq665608)) (nm_c (fun h => hq665713 (h ▸ hmq665608)) nm_n))).trans he665716
        have hfr665737 : rFr [q665607] P665605 F665606 F665730 := rFr_call hsb665714 hfr665717 hfr665732 (fun b hb hn => ⟨(nm_c (fun e => hn (e ▸ List.mem_cons_self)) nm_n), (nm_c (fun e => hq665693 (e ▸ hb)) (nm_c (fun e => hq665713 (e ▸ hb)) nm_n))⟩)
        rw [show Int32.toInt 0 = 0 from by decide] at x665726
        have bo665724' : gB o665724 0 0 := ⟨by omega, by omega⟩
        rw [show Int32.toInt 0 = 0 from by decide] at x665727
        rw [show Int32.toInt 0 = 0 from by decide] at x665728
        change G _ _ _ _ _ _ _ (.ref q665680 :: _) _ _ _
        refine G_widen (cs' := 2) (sl' := 20) (Nat.add_le_add_left hdc 2) (Nat.add_le_add_left hds 20) ?_
        refine G_iload_n 3 dr_cX14_symbol_179 rfl ?_
        refine G_i2c dr_cX14_symbol_180 (G_nam fun z665738 hz665738 => ?_)
        have ez665738 : z665738.toInt = p665609.toInt := gI_i2c hz665738 (by omega) (by omega)
        have bz665738 : gB z665738 33 127 := ⟨by omega, by omega⟩
        refine Gw_callV (As := [.int z665738]) (gV_ok D I) (cp_655442_StringBuilder_append l hl0 D I P665702 F665730 q665680 q665701 z665738 0 o665724 f665725 16 hm665712 hm665708 he665733 he665734 (gB_w bz665738 (by decide) (by decide)) (gB_w (gBl (show Int32.toInt 0 = 0 by decide)) (by decide) (by decide)) (gB_w bo665724' (by decide) (by decide)) bf665725 (by have qa0 : Int32.toInt 0 = 0 := (by decide); have qa1 : Int32.toInt 6 = 6 := (by decide); omega) (by have qa0 : Int32.toInt 0 = 0 := (by decide); have qa1 : Int32.toInt 6 = 6 := (by decide); omega)) dr_cX14_symbol_181 ⟨wr_7_237, wr_1_20, wr_8_0, by decide, rfl, (Nat.le_of_ble_eq_true rfl), (Nat.le_of_ble_eq_true rfl)⟩ wr_7_238 wr_7_239 hm665712 he665733 rfl (Nat.le_trans (show 2 + 0 ≤ 16 by decide) hMC) (Nat.le_trans (show 20 + 0 ≤ 160 by decide) hMS) (Nat.le_of_ble_eq_true rfl) (fun r665742 w665743 dc665739 ds665740 hp665741 => ?_) (fun _ _ _ _ _ z => z.elim)
        obtain ⟨F665748, o665744, f665745, rfl, rfl, hfr665750, he665751, he665752, hdc, hds, bo665744, bf665745, x665746, ht665747⟩ := hp665741
        have he665753 : F665748 q665607 = .inr (19, [.ref q665608, .int p665610, .int p665611, .int 6, .int p665613, .int p665614, .int p665615, .ref qo665616, .int p665617, .int p665618, .int p665619, .ref qo665620, .ref qo665621, .int p665622]) := (hfr665750 q665607 hm665710 (nm_c (fun h => hq665713 (h ▸ hmq665607)) (nm_c (fun h => hq665693 (h ▸ hmq665607)) nm_n))).trans he665735
        have he665754 : F665748 q665608 = .inl (I .byte, 8192, .inl f665623) := (hfr665750 q665608 hm665711 (nm_c (fun h => hq665713 (h ▸ hmq665608)) (nm_c (fun h => hq665693 (h ▸ hmq665608)) nm_n))).trans he665736
        have hfr665755 : rFr [q665607] P665605 F665606 F665748 := rFr_call hsb665714 hfr665737 hfr665750 (fun b hb hn => ⟨(nm_c (fun e => hn (e ▸ List.mem_cons_self)) nm_n), (nm_c (fun e => hq665713 (e ▸ hb)) (nm_c (fun e => hq665693 (e ▸ hb)) nm_n))⟩)
        have bo665744' : gB o665744 1 1 := ⟨by omega, by omega⟩
        change G _ _ _ _ _ _ _ (.ref q665680 :: _) _ _ _
        refine G_widen (cs' := 2) (sl' := 20) (Nat.add_le_add_left hdc 2) (Nat.add_le_add_left hds 20) ?_
        refine Gw_callV (As := []) (gV_ok D I) (cp_656656_StringBuilder_toString l hl0 D I P665702 F665748 q665680 q665701 0 o665744 f665745 16 hm665712 hm665708 he665751 he665752 (gB_w (gBl (show Int32.toInt 0 = 0 by decide)) (by decide) (by decide)) (gB_w bo665744' (by decide) (by decide)) bf665745 (by have qa0 : Int32.toInt 0 = 0 := (by decide); have qa1 : Int32.toInt 6 = 6 := (by decide); omega) (by have qa0 : Int32.toInt 0 = 0 := (by decide); have qa1 : Int32.toInt 6 = 6 := (by decide); omega)) dr_cX14_symbol_184 ⟨wr_8_66, wr_1_20, wr_8_69, by decide, rfl, (Nat.le_of_ble_eq_true rfl), (Nat.le_of_ble_eq_true rfl)⟩ wr_8_67 wr_8_68 hm665712 he665751 rfl (Nat.le_trans (show 2 + 2 ≤ 16 by decide) hMC) (show 20 + (o665744.toInt.toNat + 4) ≤ ((160 * (p665610.toInt - p665611.toInt)).toNat) by first | omega | decide) (Nat.le_of_ble_eq_true rfl) (fun r665759 w665760 dc665756 ds665757 hp665758 => ?_) (fun _ _ _ _ _ z => z.elim)
        obtain ⟨P665768, F665769, q665761, q665762, n665763, f665764, rfl, rfl, hsb665770, hfr665771, he665772, he665773, he665774, he665775, hm665776, hq665777, hm665778, hq665779, hdc, hds, bf665764, x665765, x665766, ht665767⟩ := hp665758
        have hm665780 : q665607 ∈ P665768 := hsb665770 q665607 hm665710
        have hm665781 : q665608 ∈ P665768 := hsb665770 q665608 hm665711
        have hm665782 : q665680 ∈ P665768 := hsb665770 q665680 hm665712
        have hm665783 : q665701 ∈ P665768 := hsb665770 q665701 hm665708
        have hq665784 : q665761 ∉ P665605 := fun z => hq665777 (hsb665714 q665761 z)
        have hq665785 : q665762 ∉ P665605 := fun z => hq665779 (hsb665714 q665762 z)
        have hsb665786 : rSub P665605 P665768 := rSub_tr hsb665714 hsb665770
        have he665787 : F665769 q665607 = .inr (19, [.ref q665608, .int p665610, .int p665611, .int 6, .int p665613, .int p665614, .int p665615, .ref qo665616, .int p665617, .int p665618, .int p665619, .ref qo665620, .ref qo665621, .int p665622]) := (hfr665771 q665607 hm665710 nm_n).trans he665753
        have he665788 : F665769 q665608 = .inl (I .byte, 8192, .inl f665623) := (hfr665771 q665608 hm665711 nm_n).trans he665754
        have hfr665789 : rFr [q665607] P665605 F665606 F665769 := rFr_call hsb665714 hfr665755 hfr665771 (fun b hb hn => ⟨(nm_c (fun e => hn (e ▸ List.mem_cons_self)) nm_n), nm_n⟩)
        have hne665790 : q665701 ≠ q665762 := fun h => hq665779 (h ▸ hm665708)
        change G _ _ _ _ _ _ _ (.ref q665761 :: _) _ _ _
        refine G_widen (cs' := 4) (sl' := 20 + (o665744.toInt.toNat + 4)) (Nat.add_le_add_left hdc 2) (by omega) ?_
        refine G_goto 192 dr_cX14_symbol_187 (by decide +kernel) ?_
        refine Gp_put 7 hm665780 he665787 dr_cX14_symbol_192 (gk_X14 D I) (Nat.le_of_ble_eq_true rfl) wr_9_43 rfl rfl rfl (Nat.le_of_ble_eq_true rfl) (fun F665791 e665792 n665793 => ?_)
        have he665794 : F665791 q665608 = .inl (I .byte, 8192, .inl f665623) := (n665793 q665608 (rn_ao he665788 he665787)).trans he665788
        have he665795 : F665791 q665761 = .inr (0, [.ref q665762, .int 0, .int 0, .int 0]) := (n665793 q665761 (fun h => hq665784 (h ▸ hmq665607))).trans he665772
        have he665796 : F665791 q665680 = .inr (1, [.ref q665701, .int 0, .int 0, .int o665744]) := (n665793 q665680 (fun h => hq665693 (h ▸ hmq665607))).trans he665773
        have he665797 : F665791 q665701 = .inl (I .byte, 16, .inl f665745) := (n665793 q665701 (fun h => hq665713 (h ▸ hmq665607))).trans he665774
        have he665798 : F665791 q665762 = .inl (I .byte, n665763, .inl f665764) := (n665793 q665762 (fun h => hq665785 (h ▸ hmq665607))).trans he665775
        have he665799 : F665791 q665607 = .inr (19, [.ref q665608, .int p665610, .int p665611, .int 6, .int p665613, .int p665614, .int p665615, .ref q665761, .int p665617, .int p665618, .int p665619, .ref qo665620, .ref qo665621, .int p665622]) := e665792
        have hfr665800 : rFr [q665607] P665605 F665606 F665791 := rFr_put' List.mem_cons_self hfr665789 n665793
        clear he665677 he665678 hfr665679 he665687 he665688 he665689 hm665690 hm665691 hm665692 hq665693 hfr665694 hsb665695 hsb665704 hfr665705 he665706 he665707 hm665708 hq665709 hm665710 hm665711 hm665712 hq665713 hsb665714 he665715 he665716 hfr665717 hfr665732 he665733 he665734 bf665725 he665735 he665736 hfr665737 ez665738 bz665738 hfr665750 he665751 he665752 bf665745 he665753 he665754 hfr665755 hsb665770 hfr665771 he665772 he665773 he665774 he665775 hq665777 hq665779 hm665782 hm665783 he665787 he665788 hfr665789 hne665790 he665796 he665797; try clear r665699; try clear w665700; try clear dc665696; try clear ds665697; try clear hp665698; try clear r665722; try clear w665723; try clear dc665719; try clear ds665720; try clear hp665721; try clear x665727; try clear x665728; try clear r665742; try clear w665743; try clear dc665739; try clear ds665740; try clear hp665741; try clear r665759; try clear w665760; try clear dc665756; try clear ds665757; try clear hp665758; try clear x665766
        refine G_aload_n 2 dr_cX14_symbol_195 rfl ?_
        refine G_dup dr_cX14_symbol_196 rfl ?_
        refine Gp_get 2 hm665780 he665799 dr_cX14_symbol_197 (gk_X14 D I) (Nat.le_of_ble_eq_true rfl) wr_9_38 rfl ?_
        refine G_iload_n 0 dr_cX14_symbol_200 rfl ?_
        refine G_if_eq 208 dr_cX14_symbol_201 (by decide +kernel) (fun _ => ?_) (fun hc => absurd hc (by decide))
        refine G_iconst 1 dr_cX14_symbol_208 (by decide +kernel) ?_
        refine G_iadd dr_cX14_symbol_209 (G_nam fun z665801 hz665801 => ?_)
        have ez665801 : z665801.toInt = p665611.toInt + 1 := by rw [gI_add hz665801 bp665611 (gBl (show Int32.toInt 1 = 1 by decide)) (by decide) (by decide), show Int32.toInt 1 = 1 from by decide]
        have bz665801 : gB z665801 1 8193 := gB_add (gI_add hz665801 bp665611 (gBl (show Int32.toInt 1 = 1 by decide)) (by decide) (by decide)) bp665611 (gBl (show Int32.toInt 1 = 1 by decide)) (by decide) (by decide)
        refine Gp_put 2 hm665780 he665799 dr_cX14_symbol_210 (gk_X14 D I) (Nat.le_of_ble_eq_true rfl) wr_9_38 rfl rfl rfl (Nat.le_of_ble_eq_true rfl) (fun F665802 e665803 n665804 => ?_)
        have he665805 : F665802 q665608 = .inl (I .byte, 8192, .inl f665623) := (n665804 q665608 (rn_ao he665794 he665799)).trans he665794
        have he665806 : F665802 q665761 = .inr (0, [.ref q665762, .int 0, .int 0, .int 0]) := (n665804 q665761 (fun h => hq665784 (h ▸ hmq665607))).trans he665795
        have he665807 : F665802 q665762 = .inl (I .byte, n665763, .inl f665764) := (n665804 q665762 (fun h => hq665785 (h ▸ hmq665607))).trans he665798
        have he665808 : F665802 q665607 = .inr (19, [.ref q665608, .int p665610, .int z665801, .int 6, .int p665613, .int p665614, .int p665615, .ref q665761, .int p665617, .int p665618, .int p665619, .ref qo665620, .ref qo665621, .int p665622]) := e665803
        have hfr665809 : rFr [q665607] P665605 F665606 F665802 := rFr_put' List.mem_cons_self hfr665800 n665804
        exact G_vretA dr_cX14_symbol_213 rfl (show 4 ≤ ((16 * (p665610.toInt - p665611.toInt)).toNat) by omega) (show 20 + (o665744.toInt.toNat + 4) ≤ ((160 * (p665610.toInt - p665611.toInt)).toNat) by omega) ⟨P665768, F665802, z665801, 6, q665761, (0, fun _ => 0), rfl, rfl, hsb665786, hfr665809, he665808, he665805, (by omega), (by omega), ⟨by omega, by omega⟩, (gB_w (gBl (show Int32.toInt 6 = 6 by decide)) (by decide) (by decide)), (by have qa0 : Int32.toInt 0 = 0 := (by decide); have qa1 : Int32.toInt 6 = 6 := (by decide); omega), (by have qa0 : Int32.toInt 0 = 0 := (by decide); have qa1 : Int32.toInt 6 = 6 := (by decide); omega), (tP_no (by decide) (by decide)), (vP_no (by decide) (by decide)), (fun R c1 c2 c3 c4 c5 c6 => c2 o665637 z665664 o665670 o665724 f665725 z665738 o665744 f665745 n665763 f665764 z665801 hJ665630 bo665637 ht665639 r665662 hz665664 bo665670 ht665671 r665673 bo665724 ht665729 hz665738 bo665744 ht665747 ht665767 ez665801)⟩
      · have r665810 : 0 ≤ o665670.toInt := gj_nlt hc665672 (show Int32.toInt 0 = 0 by decide)
        have bo665670' : gB o665670 0 65534 := ⟨by omega, by omega⟩
        refine G_iconst 5 dr_cX14_symbol_143 (by decide +kernel) ?_
        refine G_goto 149 dr_cX14_symbol_144 (by decide +kernel) ?_
        refine Gp_put 3 hmq665607 heq665607 dr_cX14_symbol_149 (gk_X14 D I) (Nat.le_of_ble_eq_true rfl) wr_9_39 rfl rfl rfl (Nat.le_of_ble_eq_true rfl) (fun F665811 e665812 n665813 => ?_)
        have he665814 : F665811 q665608 = .inl (I .byte, 8192, .inl f665623) := (n665813 q665608 (rn_ao heq665608 heq665607)).trans heq665608
        have he665815 : F665811 q665607 = .inr (19, [.ref q665608, .int p665610, .int p665611, .int 5, .int p665613, .int p665614, .int p665615, .ref qo665616, .int p665617, .int p665618, .int p665619, .ref qo665620, .ref qo665621, .int p665622]) := e665812
        have hfr665816 : rFr [q665607] P665605 F665606 F665811 := rFr_put (rFr_rf (W := []) (P := P665605) (F := F665606)) n665813
        clear ez665664 bz665664 bo665670'; try clear r665668; try clear w665669; try clear dc665665; try clear ds665666; try clear hp665667
        refine G_aload_n 2 dr_cX14_symbol_152 rfl ?_
        refine G_iload_n 0 dr_cX14_symbol_153 rfl ?_
        refine G_if_eq 161 dr_cX14_symbol_154 (by decide +kernel) (fun _ => ?_) (fun hc => absurd hc (by decide))
        refine G_iload_n 3 dr_cX14_symbol_161 rfl ?_
        refine G_bipush 32 dr_cX14_symbol_162 (by decide +kernel) ?_
        refine G_icmp_le 190 dr_cX14_symbol_164 (by decide +kernel) (fun hc => absurd (show False by have := gj_le hc (show Int32.toInt 32 = 32 by decide); omega) not_false) (fun _ => ?_)
        refine G_new [.null, .int 0, .int 0, .int 0] dr_cX14_symbol_167 (gk_J4 D I) wr_7_235 wr_7_44 wr_1_20 (gfs_J4) (Nat.le_trans (show 0 + 1 ≤ 16 by decide) hMC) (Nat.le_trans (show 0 + 4 ≤ 160 by decide) hMS) (fun q665817 => Gp_in (fun P665818 F665819 hq665820 hP665821 e665822 n665823 => ?_))
        refine G_widen (cs' := 1) (sl' := 4) (by omega) (by omega) ?_
        have he665824 : F665819 q665607 = .inr (19, [.ref q665608, .int p665610, .int p665611, .int 5, .int p665613, .int p665614, .int p665615, .ref qo665616, .int p665617, .int p665618, .int p665619, .ref qo665620, .ref qo665621, .int p665622]) := (n665823 q665607 (fun h => hq665820 (h ▸ hmq665607))).trans he665815
        have he665825 : F665819 q665608 = .inl (I .byte, 8192, .inl f665623) := (n665823 q665608 (fun h => hq665820 (h ▸ hmq665608))).trans he665814
        have he665826 : F665819 q665817 = .inr (1, [.null, .int 0, .int 0, .int 0]) := e665822
        have hm665827 : q665607 ∈ P665818 := (hP665821 q665607).mpr (Or.inl hmq665607)
        have hm665828 : q665608 ∈ P665818 := (hP665821 q665608).mpr (Or.inl hmq665608)
        have hm665829 : q665817 ∈ P665818 := (hP665821 q665817).mpr (Or.inr rfl)
        have hq665830 : q665817 ∉ P665605 := fun z => hq665820 ((rSub_rf (P := P665605)) q665817 z)
        have hfr665831 : rFr [q665607] P665605 F665606 F665819 := rFr_new (rSub_rf (P := P665605)) hq665820 hfr665816 n665823
        have hsb665832 : rSub P665605 P665818 := rSub_new (rSub_rf (P := P665605)) hP665821
        refine G_dup dr_cX14_symbol_170 rfl ?_
        refine Gw_callI (As := []) (gV_ok D I) (cp_655881_StringBuilder_init l hl0 D I P665818 F665819 q665817 0 0 hm665829 he665826 (gB_w (gBl (show Int32.toInt 0 = 0 by decide)) (by decide) (by decide)) (gB_w (gBl (show Int32.toInt 0 = 0 by decide)) (by decide) (by decide))) dr_cX14_symbol_171 ⟨wr_7_236, wr_1_20, wr_7_47, by decide, rfl, (Nat.le_of_ble_eq_true rfl), (Nat.le_of_ble_eq_true rfl)⟩ wr_7_46 rfl (Nat.le_trans (show 1 + 1 ≤ 16 by decide) hMC) (Nat.le_trans (show 4 + 16 ≤ 160 by decide) hMS) (Nat.le_of_ble_eq_true rfl) (fun r665836 w665837 dc665833 ds665834 hp665835 => ?_)
        obtain ⟨P665839, F665840, q665838, rfl, rfl, hsb665841, hfr665842, he665843, he665844, hm665845, hq665846, hdc, hds⟩ := hp665835
        have hm665847 : q665607 ∈ P665839 := hsb665841 q665607 hm665827
        have hm665848 : q665608 ∈ P665839 := hsb665841 q665608 hm665828
        have hm665849 : q665817 ∈ P665839 := hsb665841 q665817 hm665829
        have hq665850 : q665838 ∉ P665605 := fun z => hq665846 (hsb665832 q665838 z)
        have hsb665851 : rSub P665605 P665839 := rSub_tr hsb665832 hsb665841
        have he665852 : F665840 q665607 = .inr (19, [.ref q665608, .int p665610, .int p665611, .int 5, .int p665613, .int p665614, .int p665615, .ref qo665616, .int p665617, .int p665618, .int p665619, .ref qo665620, .ref qo665621, .int p665622]) := (hfr665842 q665607 hm665827 (nm_c (fun h => hq665830 (h ▸ hmq665607)) nm_n)).trans he665824
        have he665853 : F665840 q665608 = .inl (I .byte, 8192, .inl f665623) := (hfr665842 q665608 hm665828 (nm_c (fun h => hq665830 (h ▸ hmq665608)) nm_n)).trans he665825
        have hfr665854 : rFr [q665607] P665605 F665606 F665840 := rFr_call hsb665832 hfr665831 hfr665842 (fun b hb hn => ⟨(nm_c (fun e => hn (e ▸ List.mem_cons_self)) nm_n), (nm_c (fun e => hq665830 (e ▸ hb)) nm_n)⟩)
        change G _ _ _ _ _ _ _ _ _ _ _
        refine G_widen (cs' := 2) (sl' := 20) (Nat.add_le_add_left hdc 1) (Nat.add_le_add_left hds 4) ?_
        refine G_ldcK (a := D.2 1000 32) dr_cX14_symbol_174 (fun _ _ _ h => gx_vk 32 rfl rfl h) ?_
        have hl32_665854 : (sb_32.length : Int) = 0 := rfl
        refine Gw_callV (As := [.ref (D.2 1000 32)]) (gV_ok D I) (cp_656183_StringBuilder_append l hl0 D I P665839 F665840 q665817 q665838 (D.2 1000 32) (D.2 1001 32) sb_32 0 0 (fun _ => 0) 16 hm665849 hm665845 he665843 he665844 (gx_sc 32 rfl rfl) (by omega) (by decide +kernel) (gB_w (gBl (show Int32.toInt 0 = 0 by decide)) (by decide) (by decide)) (gB_w (gBl (show Int32.toInt 0 = 0 by decide)) (by decide) (by decide)) (gF_w gF_0 (by decide) (by decide)) (by have qa0 : Int32.toInt 0 = 0 := (by decide); have qa1 : Int32.toInt 5 = 5 := (by decide); omega) (by have qa0 : Int32.toInt 0 = 0 := (by decide); have qa1 : Int32.toInt 5 = 5 := (by decide); omega)) dr_cX14_symbol_176 ⟨wr_8_195, wr_1_20, wr_8_143, by decide, rfl, (Nat.le_of_ble_eq_true rfl), (Nat.le_of_ble_eq_true rfl)⟩ wr_8_141 wr_8_142 hm665849 he665843 rfl (Nat.le_trans (show 2 + 0 ≤ 16 by decide) hMC) (Nat.le_trans (show 20 + 0 ≤ 160 by decide) hMS) (Nat.le_of_ble_eq_true rfl) (fun r665859 w665860 dc665856 ds665857 hp665858 => ?_) (fun _ _ _ _ _ z => z.elim)
        obtain ⟨F665867, o665861, f665862, rfl, rfl, hfr665869, he665870, he665871, hdc, hds, bo665861, bf665862, x665863, x665864, x665865, ht665866⟩ := hp665858
        have he665872 : F665867 q665607 = .inr (19, [.ref q665608, .int p665610, .int p665611, .int 5, .int p665613, .int p665614, .int p665615, .ref qo665616, .int p665617, .int p665618, .int p665619, .ref qo665620, .ref qo665621, .int p665622]) := (hfr665869 q665607 hm665847 (nm_c (fun h => hq665830 (h ▸ hmq665607)) (nm_c (fun h => hq665850 (h ▸ hmq665607)) nm_n))).trans he665852
        have he665873 : F665867 q665608 = .inl (I .byte, 8192, .inl f665623) := (hfr665869 q665608 hm665848 (nm_c (fun h => hq665830 (h ▸ hmq665608)) (nm_c (fun h => hq665850 (h ▸ hmq665608)) nm_n))).trans he665853
        have hfr665874 : rFr [q665607] P665605 F665606 F665867 := rFr_call hsb665851 hfr665854 hfr665869 (fun b hb hn => ⟨(nm_c (fun e => hn (e ▸ List.mem_cons_self)) nm_n), (nm_c (fun e => hq665830 (e ▸ hb)) (nm_c (fun e => hq665850 (e ▸ hb)) nm_n))⟩)
        rw [show Int32.toInt 0 = 0 from by decide] at x665863
        have bo665861' : gB o665861 0 0 := ⟨by omega, by omega⟩
        rw [show Int32.toInt 0 = 0 from by decide] at x665864
        rw [show Int32.toInt 0 = 0 from by decide] at x665865
        change G _ _ _ _ _ _ _ (.ref q665817 :: _) _ _ _
        refine G_widen (cs' := 2) (sl' := 20) (Nat.add_le_add_left hdc 2) (Nat.add_le_add_left hds 20) ?_
        refine G_iload_n 3 dr_cX14_symbol_179 rfl ?_
        refine G_i2c dr_cX14_symbol_180 (G_nam fun z665875 hz665875 => ?_)
        have ez665875 : z665875.toInt = p665609.toInt := gI_i2c hz665875 (by omega) (by omega)
        have bz665875 : gB z665875 33 127 := ⟨by omega, by omega⟩
        refine Gw_callV (As := [.int z665875]) (gV_ok D I) (cp_655442_StringBuilder_append l hl0 D I P665839 F665867 q665817 q665838 z665875 0 o665861 f665862 16 hm665849 hm665845 he665870 he665871 (gB_w bz665875 (by decide) (by decide)) (gB_w (gBl (show Int32.toInt 0 = 0 by decide)) (by decide) (by decide)) (gB_w bo665861' (by decide) (by decide)) bf665862 (by have qa0 : Int32.toInt 0 = 0 := (by decide); have qa1 : Int32.toInt 5 = 5 := (by decide); omega) (by have qa0 : Int32.toInt 0 = 0 := (by decide); have qa1 : Int32.toInt 5 = 5 := (by decide); omega)) dr_cX14_symbol_181 ⟨wr_7_237, wr_1_20, wr_8_0, by decide, rfl, (Nat.le_of_ble_eq_true rfl), (Nat.le_of_ble_eq_true rfl)⟩ wr_7_238 wr_7_239 hm665849 he665870 rfl (Nat.le_trans (show 2 + 0 ≤ 16 by decide) hMC) (Nat.le_trans (show 20 + 0 ≤ 160 by decide) hMS) (Nat.le_of_ble_eq_true rfl) (fun r665879 w665880 dc665876 ds665877 hp665878 => ?_) (fun _ _ _ _ _ z => z.elim)
        obtain ⟨F665885, o665881, f665882, rfl, rfl, hfr665887, he665888, he665889, hdc, hds, bo665881, bf665882, x665883, ht665884⟩ := hp665878
        have he665890 : F665885 q665607 = .inr (19, [.ref q665608, .int p665610, .int p665611, .int 5, .int p665613, .int p665614, .int p665615, .ref qo665616, .int p665617, .int p665618, .int p665619, .ref qo665620, .ref qo665621, .int p665622]) := (hfr665887 q665607 hm665847 (nm_c (fun h => hq665850 (h ▸ hmq665607)) (nm_c (fun h => hq665830 (h ▸ hmq665607)) nm_n))).trans he665872
        have he665891 : F665885 q665608 = .inl (I .byte, 8192, .inl f665623) := (hfr665887 q665608 hm665848 (nm_c (fun h => hq665850 (h ▸ hmq665608)) (nm_c (fun h => hq665830 (h ▸ hmq665608)) nm_n))).trans he665873
        have hfr665892 : rFr [q665607] P665605 F665606 F665885 := rFr_call hsb665851 hfr665874 hfr665887 (fun b hb hn => ⟨(nm_c (fun e => hn (e ▸ List.mem_cons_self)) nm_n), (nm_c (fun e => hq665850 (e ▸ hb)) (nm_c (fun e => hq665830 (e ▸ hb)) nm_n))⟩)
        have bo665881' : gB o665881 1 1 := ⟨by omega, by omega⟩
        change G _ _ _ _ _ _ _ (.ref q665817 :: _) _ _ _
        refine G_widen (cs' := 2) (sl' := 20) (Nat.add_le_add_left hdc 2) (Nat.add_le_add_left hds 20) ?_
        refine Gw_callV (As := []) (gV_ok D I) (cp_656656_StringBuilder_toString l hl0 D I P665839 F665885 q665817 q665838 0 o665881 f665882 16 hm665849 hm665845 he665888 he665889 (gB_w (gBl (show Int32.toInt 0 = 0 by decide)) (by decide) (by decide)) (gB_w bo665881' (by decide) (by decide)) bf665882 (by have qa0 : Int32.toInt 0 = 0 := (by decide); have qa1 : Int32.toInt 5 = 5 := (by decide); omega) (by have qa0 : Int32.toInt 0 = 0 := (by decide); have qa1 : Int32.toInt 5 = 5 := (by decide); omega)) dr_cX14_symbol_184 ⟨wr_8_66, wr_1_20, wr_8_69, by decide, rfl, (Nat.le_of_ble_eq_true rfl), (Nat.le_of_ble_eq_true rfl)⟩ wr_8_67 wr_8_68 hm665849 he665888 rfl (Nat.le_trans (show 2 + 2 ≤ 16 by decide) hMC) (show 20 + (o665881.toInt.toNat + 4) ≤ ((160 * (p665610.toInt - p665611.toInt)).toNat) by first | omega | decide) (Nat.le_of_ble_eq_true rfl) (fun r665896 w665897 dc665893 ds665894 hp665895 => ?_) (fun _ _ _ _ _ z => z.elim)
        obtain ⟨P665905, F665906, q665898, q665899, n665900, f665901, rfl, rfl, hsb665907, hfr665908, he665909, he665910, he665911, he665912, hm665913, hq665914, hm665915, hq665916, hdc, hds, bf665901, x665902, x665903, ht665904⟩ := hp665895
        have hm665917 : q665607 ∈ P665905 := hsb665907 q665607 hm665847
        have hm665918 : q665608 ∈ P665905 := hsb665907 q665608 hm665848
        have hm665919 : q665817 ∈ P665905 := hsb665907 q665817 hm665849
        have hm665920 : q665838 ∈ P665905 := hsb665907 q665838 hm665845
        have hq665921 : q665898 ∉ P665605 := fun z => hq665914 (hsb665851 q665898 z)
        have hq665922 : q665899 ∉ P665605 := fun z => hq665916 (hsb665851 q665899 z)
        have hsb665923 : rSub P665605 P665905 := rSub_tr hsb665851 hsb665907
        have he665924 : F665906 q665607 = .inr (19, [.ref q665608, .int p665610, .int p665611, .int 5, .int p665613, .int p665614, .int p665615, .ref qo665616, .int p665617, .int p665618, .int p665619, .ref qo665620, .ref qo665621, .int p665622]) := (hfr665908 q665607 hm665847 nm_n).trans he665890
        have he665925 : F665906 q665608 = .inl (I .byte, 8192, .inl f665623) := (hfr665908 q665608 hm665848 nm_n).trans he665891
        have hfr665926 : rFr [q665607] P665605 F665606 F665906 := rFr_call hsb665851 hfr665892 hfr665908 (fun b hb hn => ⟨(nm_c (fun e => hn (e ▸ List.mem_cons_self)) nm_n), nm_n⟩)
        have hne665927 : q665838 ≠ q665899 := fun h => hq665916 (h ▸ hm665845)
        change G _ _ _ _ _ _ _ (.ref q665898 :: _) _ _ _
        refine G_widen (cs' := 4) (sl' := 20 + (o665881.toInt.toNat + 4)) (Nat.add_le_add_left hdc 2) (by omega) ?_
        refine G_goto 192 dr_cX14_symbol_187 (by decide +kernel) ?_
        refine Gp_put 7 hm665917 he665924 dr_cX14_symbol_192 (gk_X14 D I) (Nat.le_of_ble_eq_true rfl) wr_9_43 rfl rfl rfl (Nat.le_of_ble_eq_true rfl) (fun F665928 e665929 n665930 => ?_)
        have he665931 : F665928 q665608 = .inl (I .byte, 8192, .inl f665623) := (n665930 q665608 (rn_ao he665925 he665924)).trans he665925
        have he665932 : F665928 q665898 = .inr (0, [.ref q665899, .int 0, .int 0, .int 0]) := (n665930 q665898 (fun h => hq665921 (h ▸ hmq665607))).trans he665909
        have he665933 : F665928 q665817 = .inr (1, [.ref q665838, .int 0, .int 0, .int o665881]) := (n665930 q665817 (fun h => hq665830 (h ▸ hmq665607))).trans he665910
        have he665934 : F665928 q665838 = .inl (I .byte, 16, .inl f665882) := (n665930 q665838 (fun h => hq665850 (h ▸ hmq665607))).trans he665911
        have he665935 : F665928 q665899 = .inl (I .byte, n665900, .inl f665901) := (n665930 q665899 (fun h => hq665922 (h ▸ hmq665607))).trans he665912
        have he665936 : F665928 q665607 = .inr (19, [.ref q665608, .int p665610, .int p665611, .int 5, .int p665613, .int p665614, .int p665615, .ref q665898, .int p665617, .int p665618, .int p665619, .ref qo665620, .ref qo665621, .int p665622]) := e665929
        have hfr665937 : rFr [q665607] P665605 F665606 F665928 := rFr_put' List.mem_cons_self hfr665926 n665930
        clear he665814 he665815 hfr665816 he665824 he665825 he665826 hm665827 hm665828 hm665829 hq665830 hfr665831 hsb665832 hsb665841 hfr665842 he665843 he665844 hm665845 hq665846 hm665847 hm665848 hm665849 hq665850 hsb665851 he665852 he665853 hfr665854 hfr665869 he665870 he665871 bf665862 he665872 he665873 hfr665874 ez665875 bz665875 hfr665887 he665888 he665889 bf665882 he665890 he665891 hfr665892 hsb665907 hfr665908 he665909 he665910 he665911 he665912 hq665914 hq665916 hm665919 hm665920 he665924 he665925 hfr665926 hne665927 he665933 he665934; try clear r665836; try clear w665837; try clear dc665833; try clear ds665834; try clear hp665835; try clear r665859; try clear w665860; try clear dc665856; try clear ds665857; try clear hp665858; try clear x665864; try clear x665865; try clear r665879; try clear w665880; try clear dc665876; try clear ds665877; try clear hp665878; try clear r665896; try clear w665897; try clear dc665893; try clear ds665894; try clear hp665895; try clear x665903
        refine G_aload_n 2 dr_cX14_symbol_195 rfl ?_
        refine G_dup dr_cX14_symbol_196 rfl ?_
        refine Gp_get 2 hm665917 he665936 dr_cX14_symbol_197 (gk_X14 D I) (Nat.le_of_ble_eq_true rfl) wr_9_38 rfl ?_
        refine G_iload_n 0 dr_cX14_symbol_200 rfl ?_
        refine G_if_eq 208 dr_cX14_symbol_201 (by decide +kernel) (fun _ => ?_) (fun hc => absurd hc (by decide))
        refine G_iconst 1 dr_cX14_symbol_208 (by decide +kernel) ?_
        refine G_iadd dr_cX14_symbol_209 (G_nam fun z665938 hz665938 => ?_)
        have ez665938 : z665938.toInt = p665611.toInt + 1 := by rw [gI_add hz665938 bp665611 (gBl (show Int32.toInt 1 = 1 by decide)) (by decide) (by decide), show Int32.toInt 1 = 1 from by decide]
        have bz665938 : gB z665938 1 8193 := gB_add (gI_add hz665938 bp665611 (gBl (show Int32.toInt 1 = 1 by decide)) (by decide) (by decide)) bp665611 (gBl (show Int32.toInt 1 = 1 by decide)) (by decide) (by decide)
        refine Gp_put 2 hm665917 he665936 dr_cX14_symbol_210 (gk_X14 D I) (Nat.le_of_ble_eq_true rfl) wr_9_38 rfl rfl rfl (Nat.le_of_ble_eq_true rfl) (fun F665939 e665940 n665941 => ?_)
        have he665942 : F665939 q665608 = .inl (I .byte, 8192, .inl f665623) := (n665941 q665608 (rn_ao he665931 he665936)).trans he665931
        have he665943 : F665939 q665898 = .inr (0, [.ref q665899, .int 0, .int 0, .int 0]) := (n665941 q665898 (fun h => hq665921 (h ▸ hmq665607))).trans he665932
        have he665944 : F665939 q665899 = .inl (I .byte, n665900, .inl f665901) := (n665941 q665899 (fun h => hq665922 (h ▸ hmq665607))).trans he665935
        have he665945 : F665939 q665607 = .inr (19, [.ref q665608, .int p665610, .int z665938, .int 5, .int p665613, .int p665614, .int p665615, .ref q665898, .int p665617, .int p665618, .int p665619, .ref qo665620, .ref qo665621, .int p665622]) := e665940
        have hfr665946 : rFr [q665607] P665605 F665606 F665939 := rFr_put' List.mem_cons_self hfr665937 n665941
        exact G_vretA dr_cX14_symbol_213 rfl (show 4 ≤ ((16 * (p665610.toInt - p665611.toInt)).toNat) by omega) (show 20 + (o665881.toInt.toNat + 4) ≤ ((160 * (p665610.toInt - p665611.toInt)).toNat) by omega) ⟨P665905, F665939, z665938, 5, q665898, (n665900, f665901), rfl, rfl, hsb665923, hfr665946, he665945, he665942, (by omega), (by omega), ⟨by omega, by omega⟩, (gB_w (gBl (show Int32.toInt 5 = 5 by decide)) (by decide) (by decide)), (by have qa0 : Int32.toInt 0 = 0 := (by decide); have qa1 : Int32.toInt 5 = 5 := (by decide); omega), (by have qa0 : Int32.toInt 0 = 0 := (by decide); have qa1 : Int32.toInt 5 = 5 := (by decide); omega), (tP_5 hm665913 he665943 hm665915 he665944 bf665901 (by omega) (gB_w (gBl (show Int32.toInt 0 = 0 by decide)) (by decide) (by decide)) (fun e => hq665922 (e ▸ x665626)) (fun e => hq665922 (e ▸ x665627))), (vP_no (by decide) (by decide)), (fun R c1 c2 c3 c4 c5 c6 => c3 o665637 z665664 o665670 o665861 f665862 z665875 o665881 f665882 n665900 f665901 z665938 hJ665630 bo665637 ht665639 r665662 hz665664 bo665670 ht665671 r665810 bo665861 ht665866 hz665875 bo665881 ht665884 ht665904 ez665938)⟩
  refine G_aload_n 0 dr_cX14_symbol_0 rfl ?_
  refine Gp_get 2 hmq665607 heq665607 dr_cX14_symbol_1 (gk_X14 D I) (Nat.le_of_ble_eq_true rfl) wr_9_38 rfl ?_
  refine G_iconst 1 dr_cX14_symbol_4 (by decide +kernel) ?_
  refine G_iadd dr_cX14_symbol_5 (G_nam fun z665947 hz665947 => ?_)
  have ez665947 : z665947.toInt = p665611.toInt + 1 := by rw [gI_add hz665947 bp665611 (gBl (show Int32.toInt 1 = 1 by decide)) (by decide) (by decide), show Int32.toInt 1 = 1 from by decide]
  have bz665947 : gB z665947 1 8193 := gB_add (gI_add hz665947 bp665611 (gBl (show Int32.toInt 1 = 1 by decide)) (by decide) (by decide)) bp665611 (gBl (show Int32.toInt 1 = 1 by decide)) (by decide) (by decide)
  refine G_aload_n 0 dr_cX14_symbol_6 rfl ?_
  refine Gp_get 1 hmq665607 heq665607 dr_cX14_symbol_7 (gk_X14 D I) (Nat.le_of_ble_eq_true rfl) wr_9_37 rfl ?_
  refine G_icmp_ge 73 dr_cX14_symbol_10 (by decide +kernel) (fun hc665948 => ?_) (fun hc665948 => ?_)
  · have r665949 : p665610.toInt ≤ z665947.toInt := gC_le hc665948
    refine G_lv (L' := [(0, .ref q665607), (1, .int p665609)]) [0, 1] rfl ?_
    exact jn665629 (Or.inl ⟨z665947, ez665947, r665949⟩)
  · have r665950 : z665947.toInt < p665610.toInt := gC_nle hc665948
    have bz665947' : gB z665947 1 8191 := ⟨by omega, by omega⟩
    have bp665610' : gB p665610 2 8192 := ⟨by omega, by omega⟩
    refine G_aload_n 0 dr_cX14_symbol_13 rfl ?_
    refine Gp_get 0 hmq665607 heq665607 dr_cX14_symbol_14 (gk_X14 D I) (Nat.le_of_ble_eq_true rfl) wr_9_36 rfl ?_
    refine G_aload_n 0 dr_cX14_symbol_17 rfl ?_
    refine Gp_get 2 hmq665607 heq665607 dr_cX14_symbol_18 (gk_X14 D I) (Nat.le_of_ble_eq_true rfl) wr_9_38 rfl ?_
    refine G_iconst 1 dr_cX14_symbol_21 (by decide +kernel) ?_
    refine G_iadd dr_cX14_symbol_22 (G_eqi (y := z665947) hz665947.symm ?_)
    refine Gp_bald 1 hmq665608 heq665608 dr_cX14_symbol_23 rfl (gB_in bz665947' (by decide) (by decide)) (G_nam fun z665951 hz665951 => ?_)
    have bz665951 : gB z665951 (-128) 127 := by rw [hz665951]; exact bf665623 _
    refine G_bipush 32 dr_cX14_symbol_24 (by decide +kernel) ?_
    refine G_icmp_le 73 dr_cX14_symbol_26 (by decide +kernel) (fun hc665952 => ?_) (fun hc665952 => ?_)
    · have r665953 : z665951.toInt ≤ 32 := gj_le hc665952 (show Int32.toInt 32 = 32 by decide)
      have bz665951' : gB z665951 (-128) 32 := ⟨by omega, by omega⟩
      refine G_lv (L' := [(0, .ref q665607), (1, .int p665609)]) [0, 1] rfl ?_
      exact jn665629 (Or.inr (Or.inl ⟨z665947, z665951, ez665947, r665950, hz665951, bz665951, r665953⟩))
    · have r665954 : 32 < z665951.toInt := gj_nle hc665952 (show Int32.toInt 32 = 32 by decide)
      have bz665951' : gB z665951 33 127 := ⟨by omega, by omega⟩
      refine G_iload_n 1 dr_cX14_symbol_29 rfl ?_
      refine G_bipush 32 dr_cX14_symbol_30 (by decide +kernel) ?_
      refine G_icmp_le 73 dr_cX14_symbol_32 (by decide +kernel) (fun hc665955 => ?_) (fun hc665955 => ?_)
      · have r665956 : p665609.toInt ≤ 32 := gj_le hc665955 (show Int32.toInt 32 = 32 by decide)
        have bp665609' : gB p665609 (-128) 32 := ⟨by omega, by omega⟩
        refine G_lv (L' := [(0, .ref q665607), (1, .int p665609)]) [0, 1] rfl ?_
        exact jn665629 (Or.inr (Or.inr (⟨z665947, z665951, ez665947, r665950, hz665951, bz665951, r665954, r665956⟩)))
      · have r665957 : 32 < p665609.toInt := gj_nle hc665955 (show Int32.toInt 32 = 32 by decide)
        have bp665609' : gB p665609 33 127 := ⟨by omega, by omega⟩
        refine G_new [.null, .int 0, .int 0, .int 0] dr_cX14_symbol_35 (gk_J4 D I) wr_7_235 wr_7_44 wr_1_20 (gfs_J4) (Nat.le_trans (show 0 + 1 ≤ 16 by decide) hMC) (Nat.le_trans (show 0 + 4 ≤ 160 by decide) hMS) (fun q665958 => Gp_in (fun P665959 F665960 hq665961 hP665962 e665963 n665964 => ?_))
        refine G_widen (cs' := 1) (sl' := 4) (by omega) (by omega) ?_
        have he665965 : F665960 q665607 = .inr (19, [.ref q665608, .int p665610, .int p665611, .int p665612, .int p665613, .int p665614, .int p665615, .ref qo665616, .int p665617, .int p665618, .int p665619, .ref qo665620, .ref qo665621, .int p665622]) := (n665964 q665607 (fun h => hq665961 (h ▸ hmq665607))).trans heq665607
        have he665966 : F665960 q665608 = .inl (I .byte, 8192, .inl f665623) := (n665964 q665608 (fun h => hq665961 (h ▸ hmq665608))).trans heq665608
        have he665967 : F665960 q665958 = .inr (1, [.null, .int 0, .int 0, .int 0]) := e665963
        have hm665968 : q665607 ∈ P665959 := (hP665962 q665607).mpr (Or.inl hmq665607)
        have hm665969 : q665608 ∈ P665959 := (hP665962 q665608).mpr (Or.inl hmq665608)
        have hm665970 : q665958 ∈ P665959 := (hP665962 q665958).mpr (Or.inr rfl)
        have hq665971 : q665958 ∉ P665605 := fun z => hq665961 ((rSub_rf (P := P665605)) q665958 z)
        have hfr665972 : rFr [] P665605 F665606 F665960 := rFr_new (rSub_rf (P := P665605)) hq665961 (rFr_rf (W := []) (P := P665605) (F := F665606)) n665964
        have hsb665973 : rSub P665605 P665959 := rSub_new (rSub_rf (P := P665605)) hP665962
        refine G_dup dr_cX14_symbol_38 rfl ?_
        refine Gw_callI (As := []) (gV_ok D I) (cp_655881_StringBuilder_init l hl0 D I P665959 F665960 q665958 0 0 hm665970 he665967 (gB_w (gBl (show Int32.toInt 0 = 0 by decide)) (by decide) (by decide)) (gB_w (gBl (show Int32.toInt 0 = 0 by decide)) (by decide) (by decide))) dr_cX14_symbol_39 ⟨wr_7_236, wr_1_20, wr_7_47, by decide, rfl, (Nat.le_of_ble_eq_true rfl), (Nat.le_of_ble_eq_true rfl)⟩ wr_7_46 rfl (Nat.le_trans (show 1 + 1 ≤ 16 by decide) hMC) (Nat.le_trans (show 4 + 16 ≤ 160 by decide) hMS) (Nat.le_of_ble_eq_true rfl) (fun r665977 w665978 dc665974 ds665975 hp665976 => ?_)
        obtain ⟨P665980, F665981, q665979, rfl, rfl, hsb665982, hfr665983, he665984, he665985, hm665986, hq665987, hdc, hds⟩ := hp665976
        have hm665988 : q665607 ∈ P665980 := hsb665982 q665607 hm665968
        have hm665989 : q665608 ∈ P665980 := hsb665982 q665608 hm665969
        have hm665990 : q665958 ∈ P665980 := hsb665982 q665958 hm665970
        have hq665991 : q665979 ∉ P665605 := fun z => hq665987 (hsb665973 q665979 z)
        have hsb665992 : rSub P665605 P665980 := rSub_tr hsb665973 hsb665982
        have he665993 : F665981 q665607 = .inr (19, [.ref q665608, .int p665610, .int p665611, .int p665612, .int p665613, .int p665614, .int p665615, .ref qo665616, .int p665617, .int p665618, .int p665619, .ref qo665620, .ref qo665621, .int p665622]) := (hfr665983 q665607 hm665968 (nm_c (fun h => hq665971 (h ▸ hmq665607)) nm_n)).trans he665965
        have he665994 : F665981 q665608 = .inl (I .byte, 8192, .inl f665623) := (hfr665983 q665608 hm665969 (nm_c (fun h => hq665971 (h ▸ hmq665608)) nm_n)).trans he665966
        have hfr665995 : rFr [] P665605 F665606 F665981 := rFr_call hsb665973 hfr665972 hfr665983 (fun b hb hn => ⟨nm_n, (nm_c (fun e => hq665971 (e ▸ hb)) nm_n)⟩)
        change G _ _ _ _ _ _ _ _ _ _ _
        refine G_widen (cs' := 2) (sl' := 20) (Nat.add_le_add_left hdc 1) (Nat.add_le_add_left hds 4) ?_
        refine G_ldcK (a := D.2 1000 32) dr_cX14_symbol_42 (fun _ _ _ h => gx_vk 32 rfl rfl h) ?_
        have hl32_665995 : (sb_32.length : Int) = 0 := rfl
        refine Gw_callV (As := [.ref (D.2 1000 32)]) (gV_ok D I) (cp_656183_StringBuilder_append l hl0 D I P665980 F665981 q665958 q665979 (D.2 1000 32) (D.2 1001 32) sb_32 0 0 (fun _ => 0) 16 hm665990 hm665986 he665984 he665985 (gx_sc 32 rfl rfl) (by omega) (by decide +kernel) (gB_w (gBl (show Int32.toInt 0 = 0 by decide)) (by decide) (by decide)) (gB_w (gBl (show Int32.toInt 0 = 0 by decide)) (by decide) (by decide)) (gF_w gF_0 (by decide) (by decide)) (by have qa0 : Int32.toInt 0 = 0 := (by decide); omega) (by have qa0 : Int32.toInt 0 = 0 := (by decide); omega)) dr_cX14_symbol_44 ⟨wr_8_195, wr_1_20, wr_8_143, by decide, rfl, (Nat.le_of_ble_eq_true rfl), (Nat.le_of_ble_eq_true rfl)⟩ wr_8_141 wr_8_142 hm665990 he665984 rfl (Nat.le_trans (show 2 + 0 ≤ 16 by decide) hMC) (Nat.le_trans (show 20 + 0 ≤ 160 by decide) hMS) (Nat.le_of_ble_eq_true rfl) (fun r666000 w666001 dc665997 ds665998 hp665999 => ?_) (fun _ _ _ _ _ z => z.elim)
        obtain ⟨F666008, o666002, f666003, rfl, rfl, hfr666010, he666011, he666012, hdc, hds, bo666002, bf666003, x666004, x666005, x666006, ht666007⟩ := hp665999
        have he666013 : F666008 q665607 = .inr (19, [.ref q665608, .int p665610, .int p665611, .int p665612, .int p665613, .int p665614, .int p665615, .ref qo665616, .int p665617, .int p665618, .int p665619, .ref qo665620, .ref qo665621, .int p665622]) := (hfr666010 q665607 hm665988 (nm_c (fun h => hq665971 (h ▸ hmq665607)) (nm_c (fun h => hq665991 (h ▸ hmq665607)) nm_n))).trans he665993
        have he666014 : F666008 q665608 = .inl (I .byte, 8192, .inl f665623) := (hfr666010 q665608 hm665989 (nm_c (fun h => hq665971 (h ▸ hmq665608)) (nm_c (fun h => hq665991 (h ▸ hmq665608)) nm_n))).trans he665994
        have hfr666015 : rFr [] P665605 F665606 F666008 := rFr_call hsb665992 hfr665995 hfr666010 (fun b hb hn => ⟨nm_n, (nm_c (fun e => hq665971 (e ▸ hb)) (nm_c (fun e => hq665991 (e ▸ hb)) nm_n))⟩)
        rw [show Int32.toInt 0 = 0 from by decide] at x666004
        have bo666002' : gB o666002 0 0 := ⟨by omega, by omega⟩
        rw [show Int32.toInt 0 = 0 from by decide] at x666005
        rw [show Int32.toInt 0 = 0 from by decide] at x666006
        change G _ _ _ _ _ _ _ (.ref q665958 :: _) _ _ _
        refine G_widen (cs' := 2) (sl' := 20) (Nat.add_le_add_left hdc 2) (Nat.add_le_add_left hds 20) ?_
        refine G_iload_n 1 dr_cX14_symbol_47 rfl ?_
        refine G_i2c dr_cX14_symbol_48 (G_nam fun z666016 hz666016 => ?_)
        have ez666016 : z666016.toInt = p665609.toInt := gI_i2c hz666016 (by omega) (by omega)
        have bz666016 : gB z666016 33 127 := ⟨by omega, by omega⟩
        refine Gw_callV (As := [.int z666016]) (gV_ok D I) (cp_655442_StringBuilder_append l hl0 D I P665980 F666008 q665958 q665979 z666016 0 o666002 f666003 16 hm665990 hm665986 he666011 he666012 (gB_w bz666016 (by decide) (by decide)) (gB_w (gBl (show Int32.toInt 0 = 0 by decide)) (by decide) (by decide)) (gB_w bo666002' (by decide) (by decide)) bf666003 (by have qa0 : Int32.toInt 0 = 0 := (by decide); omega) (by have qa0 : Int32.toInt 0 = 0 := (by decide); omega)) dr_cX14_symbol_49 ⟨wr_7_237, wr_1_20, wr_8_0, by decide, rfl, (Nat.le_of_ble_eq_true rfl), (Nat.le_of_ble_eq_true rfl)⟩ wr_7_238 wr_7_239 hm665990 he666011 rfl (Nat.le_trans (show 2 + 0 ≤ 16 by decide) hMC) (Nat.le_trans (show 20 + 0 ≤ 160 by decide) hMS) (Nat.le_of_ble_eq_true rfl) (fun r666020 w666021 dc666017 ds666018 hp666019 => ?_) (fun _ _ _ _ _ z => z.elim)
        obtain ⟨F666026, o666022, f666023, rfl, rfl, hfr666028, he666029, he666030, hdc, hds, bo666022, bf666023, x666024, ht666025⟩ := hp666019
        have he666031 : F666026 q665607 = .inr (19, [.ref q665608, .int p665610, .int p665611, .int p665612, .int p665613, .int p665614, .int p665615, .ref qo665616, .int p665617, .int p665618, .int p665619, .ref qo665620, .ref qo665621, .int p665622]) := (hfr666028 q665607 hm665988 (nm_c (fun h => hq665991 (h ▸ hmq665607)) (nm_c (fun h => hq665971 (h ▸ hmq665607)) nm_n))).trans he666013
        have he666032 : F666026 q665608 = .inl (I .byte, 8192, .inl f665623) := (hfr666028 q665608 hm665989 (nm_c (fun h => hq665991 (h ▸ hmq665608)) (nm_c (fun h => hq665971 (h ▸ hmq665608)) nm_n))).trans he666014
        have hfr666033 : rFr [] P665605 F665606 F666026 := rFr_call hsb665992 hfr666015 hfr666028 (fun b hb hn => ⟨nm_n, (nm_c (fun e => hq665991 (e ▸ hb)) (nm_c (fun e => hq665971 (e ▸ hb)) nm_n))⟩)
        have bo666022' : gB o666022 1 1 := ⟨by omega, by omega⟩
        change G _ _ _ _ _ _ _ (.ref q665958 :: _) _ _ _
        refine G_widen (cs' := 2) (sl' := 20) (Nat.add_le_add_left hdc 2) (Nat.add_le_add_left hds 20) ?_
        refine G_aload_n 0 dr_cX14_symbol_52 rfl ?_
        refine Gp_get 0 hm665988 he666031 dr_cX14_symbol_53 (gk_X14 D I) (Nat.le_of_ble_eq_true rfl) wr_9_36 rfl ?_
        refine G_aload_n 0 dr_cX14_symbol_56 rfl ?_
        refine Gp_get 2 hm665988 he666031 dr_cX14_symbol_57 (gk_X14 D I) (Nat.le_of_ble_eq_true rfl) wr_9_38 rfl ?_
        refine G_iconst 1 dr_cX14_symbol_60 (by decide +kernel) ?_
        refine G_iadd dr_cX14_symbol_61 (G_eqi (y := z665947) hz665947.symm ?_)
        refine Gp_bald 1 hm665989 he666032 dr_cX14_symbol_62 rfl (gB_in bz665947' (by decide) (by decide)) (G_eqi (y := z665951) hz665951.symm ?_)
        refine G_i2c dr_cX14_symbol_63 (G_nam fun z666034 hz666034 => ?_)
        have ez666034 : z666034.toInt = z665951.toInt := gI_i2c hz666034 (by omega) (by omega)
        have bz666034 : gB z666034 33 127 := ⟨by omega, by omega⟩
        refine Gw_callV (As := [.int z666034]) (gV_ok D I) (cp_655442_StringBuilder_append l hl0 D I P665980 F666026 q665958 q665979 z666034 0 o666022 f666023 16 hm665990 hm665986 he666029 he666030 (gB_w bz666034 (by decide) (by decide)) (gB_w (gBl (show Int32.toInt 0 = 0 by decide)) (by decide) (by decide)) (gB_w bo666022' (by decide) (by decide)) bf666023 (by have qa0 : Int32.toInt 0 = 0 := (by decide); omega) (by have qa0 : Int32.toInt 0 = 0 := (by decide); omega)) dr_cX14_symbol_64 ⟨wr_7_237, wr_1_20, wr_8_0, by decide, rfl, (Nat.le_of_ble_eq_true rfl), (Nat.le_of_ble_eq_true rfl)⟩ wr_7_238 wr_7_239 hm665990 he666029 rfl (Nat.le_trans (show 2 + 0 ≤ 16 by decide) hMC) (Nat.le_trans (show 20 + 0 ≤ 160 by decide) hMS) (Nat.le_of_ble_eq_true rfl) (fun r666038 w666039 dc666035 ds666036 hp666037 => ?_) (fun _ _ _ _ _ z => z.elim)
        obtain ⟨F666044, o666040, f666041, rfl, rfl, hfr666046, he666047, he666048, hdc, hds, bo666040, bf666041, x666042, ht666043⟩ := hp666037
        have he666049 : F666044 q665607 = .inr (19, [.ref q665608, .int p665610, .int p665611, .int p665612, .int p665613, .int p665614, .int p665615, .ref qo665616, .int p665617, .int p665618, .int p665619, .ref qo665620, .ref qo665621, .int p665622]) := (hfr666046 q665607 hm665988 (nm_c (fun h => hq665991 (h ▸ hmq665607)) (nm_c (fun h => hq665971 (h ▸ hmq665607)) nm_n))).trans he666031
        have he666050 : F666044 q665608 = .inl (I .byte, 8192, .inl f665623) := (hfr666046 q665608 hm665989 (nm_c (fun h => hq665991 (h ▸ hmq665608)) (nm_c (fun h => hq665971 (h ▸ hmq665608)) nm_n))).trans he666032
        have hfr666051 : rFr [] P665605 F665606 F666044 := rFr_call hsb665992 hfr666033 hfr666046 (fun b hb hn => ⟨nm_n, (nm_c (fun e => hq665991 (e ▸ hb)) (nm_c (fun e => hq665971 (e ▸ hb)) nm_n))⟩)
        have bo666040' : gB o666040 2 2 := ⟨by omega, by omega⟩
        change G _ _ _ _ _ _ _ (.ref q665958 :: _) _ _ _
        refine G_widen (cs' := 2) (sl' := 20) (Nat.add_le_add_left hdc 2) (Nat.add_le_add_left hds 20) ?_
        refine Gw_callV (As := []) (gV_ok D I) (cp_656656_StringBuilder_toString l hl0 D I P665980 F666044 q665958 q665979 0 o666040 f666041 16 hm665990 hm665986 he666047 he666048 (gB_w (gBl (show Int32.toInt 0 = 0 by decide)) (by decide) (by decide)) (gB_w bo666040' (by decide) (by decide)) bf666041 (by have qa0 : Int32.toInt 0 = 0 := (by decide); omega) (by have qa0 : Int32.toInt 0 = 0 := (by decide); omega)) dr_cX14_symbol_67 ⟨wr_8_66, wr_1_20, wr_8_69, by decide, rfl, (Nat.le_of_ble_eq_true rfl), (Nat.le_of_ble_eq_true rfl)⟩ wr_8_67 wr_8_68 hm665990 he666047 rfl (Nat.le_trans (show 2 + 2 ≤ 16 by decide) hMC) (show 20 + (o666040.toInt.toNat + 4) ≤ ((160 * (p665610.toInt - p665611.toInt)).toNat) by first | omega | decide) (Nat.le_of_ble_eq_true rfl) (fun r666055 w666056 dc666052 ds666053 hp666054 => ?_) (fun _ _ _ _ _ z => z.elim)
        obtain ⟨P666064, F666065, q666057, q666058, n666059, f666060, rfl, rfl, hsb666066, hfr666067, he666068, he666069, he666070, he666071, hm666072, hq666073, hm666074, hq666075, hdc, hds, bf666060, x666061, x666062, ht666063⟩ := hp666054
        have hm666076 : q665607 ∈ P666064 := hsb666066 q665607 hm665988
        have hm666077 : q665608 ∈ P666064 := hsb666066 q665608 hm665989
        have hm666078 : q665958 ∈ P666064 := hsb666066 q665958 hm665990
        have hm666079 : q665979 ∈ P666064 := hsb666066 q665979 hm665986
        have hq666080 : q666057 ∉ P665605 := fun z => hq666073 (hsb665992 q666057 z)
        have hq666081 : q666058 ∉ P665605 := fun z => hq666075 (hsb665992 q666058 z)
        have hsb666082 : rSub P665605 P666064 := rSub_tr hsb665992 hsb666066
        have he666083 : F666065 q665607 = .inr (19, [.ref q665608, .int p665610, .int p665611, .int p665612, .int p665613, .int p665614, .int p665615, .ref qo665616, .int p665617, .int p665618, .int p665619, .ref qo665620, .ref qo665621, .int p665622]) := (hfr666067 q665607 hm665988 nm_n).trans he666049
        have he666084 : F666065 q665608 = .inl (I .byte, 8192, .inl f665623) := (hfr666067 q665608 hm665989 nm_n).trans he666050
        have hfr666085 : rFr [] P665605 F665606 F666065 := rFr_call hsb665992 hfr666051 hfr666067 (fun b hb hn => ⟨nm_n, nm_n⟩)
        have hne666086 : q665979 ≠ q666058 := fun h => hq666075 (h ▸ hm665986)
        change G _ _ _ _ _ _ _ (.ref q666057 :: _) _ _ _
        refine G_widen (cs' := 4) (sl' := 20 + (o666040.toInt.toNat + 4)) (Nat.add_le_add_left hdc 2) (by omega) ?_
        refine G_goto 75 dr_cX14_symbol_70 (by decide +kernel) ?_
        refine G_astore_n (L' := [(2, .ref q666057), (0, .ref q665607), (1, .int p665609)]) dr_cX14_symbol_75 (Nat.le_of_ble_eq_true rfl) rfl ?_
        clear jn665629 bz665947 he665965 he665966 he665967 hm665968 hm665969 hm665970 hq665971 hfr665972 hsb665973 hsb665982 hfr665983 he665984 he665985 hm665986 hq665987 hm665988 hm665989 hm665990 hq665991 hsb665992 he665993 he665994 hfr665995 hfr666010 he666011 he666012 bf666003 he666013 he666014 hfr666015 ez666016 bz666016 hfr666028 he666029 he666030 bf666023 he666031 he666032 hfr666033 ez666034 bz666034 hfr666046 he666047 he666048 bf666041 he666049 he666050 hfr666051 hsb666066 hfr666067 he666069 he666070 hq666073 hq666075 hm666078 hm666079 hne666086; try clear r665977; try clear w665978; try clear dc665974; try clear ds665975; try clear hp665976; try clear r666000; try clear w666001; try clear dc665997; try clear ds665998; try clear hp665999; try clear x666005; try clear x666006; try clear r666020; try clear w666021; try clear dc666017; try clear ds666018; try clear hp666019; try clear r666038; try clear w666039; try clear dc666035; try clear ds666036; try clear hp666037; try clear r666055; try clear w666056; try clear dc666052; try clear ds666053; try clear hp666054; try clear x666062
        refine G_aload_n 0 dr_cX14_symbol_76 rfl ?_
        refine Gw_callV (As := []) (gV_ok D I) (cp_655983_String_length l hl0 D I P666064 F666065 q666057 q666058 0 0 f666060 n666059 hm666072 hm666074 he666068 he666071 (gB_w (gBl (show Int32.toInt 0 = 0 by decide)) (by decide) (by decide)) bf666060 (by have qa0 : Int32.toInt 0 = 0 := (by decide); omega)) dr_cX14_symbol_77 ⟨wr_8_227, wr_1_21, wr_3_60, by decide, rfl, (Nat.le_of_ble_eq_true rfl), (Nat.le_of_ble_eq_true rfl)⟩ wr_3_58 wr_3_59 hm666072 he666068 rfl (Nat.le_trans (show 4 + 0 ≤ 16 by decide) hMC) (show 20 + (o666040.toInt.toNat + 4) + 0 ≤ ((160 * (p665610.toInt - p665611.toInt)).toNat) by first | omega | decide) (Nat.le_of_ble_eq_true rfl) (fun r666090 w666091 dc666087 ds666088 hp666089 => ?_) (fun _ _ _ _ _ z => z.elim)
        obtain ⟨o666092, rfl, rfl, hdc, hds, bo666092, x666093, ht666094⟩ := hp666089
        have bo666092' : gB o666092 2 2 := ⟨by omega, by omega⟩
        change G _ _ _ _ _ _ _ (.int o666092 :: _) _ _ _
        refine G_widen (cs' := 4) (sl' := 20 + (o666040.toInt.toNat + 4) + 0) (Nat.add_le_add_left hdc 4) (by omega) ?_
        refine G_iconst 2 dr_cX14_symbol_80 (by decide +kernel) ?_
        refine G_icmp_ne 120 dr_cX14_symbol_81 (by decide +kernel) (fun hc => absurd (show False by have := gj_neq hc (show Int32.toInt 2 = 2 by decide); omega) not_false) (fun _ => ?_)
        try clear r666090; try clear w666091; try clear dc666087; try clear ds666088; try clear hp666089
        refine G_ldcK (a := D.2 1000 36) dr_cX14_symbol_84 (fun _ _ _ h => gx_vk 36 rfl rfl h) ?_
        have hl36_666094 : (sb_36.length : Int) = 16 := rfl
        refine G_new [.null, .int 0, .int 0, .int 0] dr_cX14_symbol_86 (gk_J4 D I) wr_7_235 wr_7_44 wr_1_20 (gfs_J4) (Nat.le_trans (show 4 + 1 ≤ 16 by decide) hMC) (show 20 + (o666040.toInt.toNat + 4) + 0 + 4 ≤ ((160 * (p665610.toInt - p665611.toInt)).toNat) by first | omega | decide) (fun q666096 => Gp_in (fun P666097 F666098 hq666099 hP666100 e666101 n666102 => ?_))
        refine G_widen (cs' := 5) (sl' := 20 + (o666040.toInt.toNat + 4) + 0 + 4) (by omega) (by omega) ?_
        have he666103 : F666098 q665607 = .inr (19, [.ref q665608, .int p665610, .int p665611, .int p665612, .int p665613, .int p665614, .int p665615, .ref qo665616, .int p665617, .int p665618, .int p665619, .ref qo665620, .ref qo665621, .int p665622]) := (n666102 q665607 (fun h => hq666099 (h ▸ hm666076))).trans he666083
        have he666104 : F666098 q665608 = .inl (I .byte, 8192, .inl f665623) := (n666102 q665608 (fun h => hq666099 (h ▸ hm666077))).trans he666084
        have he666105 : F666098 q666057 = .inr (0, [.ref q666058, .int 0, .int 0, .int 0]) := (n666102 q666057 (fun h => hq666099 (h ▸ hm666072))).trans he666068
        have he666106 : F666098 q666058 = .inl (I .byte, n666059, .inl f666060) := (n666102 q666058 (fun h => hq666099 (h ▸ hm666074))).trans he666071
        have he666107 : F666098 q666096 = .inr (1, [.null, .int 0, .int 0, .int 0]) := e666101
        have hm666108 : q665607 ∈ P666097 := (hP666100 q665607).mpr (Or.inl hm666076)
        have hm666109 : q665608 ∈ P666097 := (hP666100 q665608).mpr (Or.inl hm666077)
        have hm666110 : q666057 ∈ P666097 := (hP666100 q666057).mpr (Or.inl hm666072)
        have hm666111 : q666058 ∈ P666097 := (hP666100 q666058).mpr (Or.inl hm666074)
        have hm666112 : q666096 ∈ P666097 := (hP666100 q666096).mpr (Or.inr rfl)
        have hq666113 : q666096 ∉ P665605 := fun z => hq666099 (hsb666082 q666096 z)
        have hfr666114 : rFr [] P665605 F665606 F666098 := rFr_new hsb666082 hq666099 hfr666085 n666102
        have hsb666115 : rSub P665605 P666097 := rSub_new hsb666082 hP666100
        refine G_dup dr_cX14_symbol_89 rfl ?_
        refine Gw_callI (As := []) (gV_ok D I) (cp_655881_StringBuilder_init l hl0 D I P666097 F666098 q666096 0 0 hm666112 he666107 (gB_w (gBl (show Int32.toInt 0 = 0 by decide)) (by decide) (by decide)) (gB_w (gBl (show Int32.toInt 0 = 0 by decide)) (by decide) (by decide))) dr_cX14_symbol_90 ⟨wr_7_236, wr_1_20, wr_7_47, by decide, rfl, (Nat.le_of_ble_eq_true rfl), (Nat.le_of_ble_eq_true rfl)⟩ wr_7_46 rfl (Nat.le_trans (show 5 + 1 ≤ 16 by decide) hMC) (show 20 + (o666040.toInt.toNat + 4) + 0 + 4 + 16 ≤ ((160 * (p665610.toInt - p665611.toInt)).toNat) by first | omega | decide) (Nat.le_of_ble_eq_true rfl) (fun r666119 w666120 dc666116 ds666117 hp666118 => ?_)
        obtain ⟨P666122, F666123, q666121, rfl, rfl, hsb666124, hfr666125, he666126, he666127, hm666128, hq666129, hdc, hds⟩ := hp666118
        have hm666130 : q665607 ∈ P666122 := hsb666124 q665607 hm666108
        have hm666131 : q665608 ∈ P666122 := hsb666124 q665608 hm666109
        have hm666132 : q666057 ∈ P666122 := hsb666124 q666057 hm666110
        have hm666133 : q666058 ∈ P666122 := hsb666124 q666058 hm666111
        have hm666134 : q666096 ∈ P666122 := hsb666124 q666096 hm666112
        have hq666135 : q666121 ∉ P665605 := fun z => hq666129 (hsb666115 q666121 z)
        have hsb666136 : rSub P665605 P666122 := rSub_tr hsb666115 hsb666124
        have he666137 : F666123 q665607 = .inr (19, [.ref q665608, .int p665610, .int p665611, .int p665612, .int p665613, .int p665614, .int p665615, .ref qo665616, .int p665617, .int p665618, .int p665619, .ref qo665620, .ref qo665621, .int p665622]) := (hfr666125 q665607 hm666108 (nm_c (fun h => hq666113 (h ▸ hmq665607)) nm_n)).trans he666103
        have he666138 : F666123 q665608 = .inl (I .byte, 8192, .inl f665623) := (hfr666125 q665608 hm666109 (nm_c (fun h => hq666113 (h ▸ hmq665608)) nm_n)).trans he666104
        have he666139 : F666123 q666057 = .inr (0, [.ref q666058, .int 0, .int 0, .int 0]) := (hfr666125 q666057 hm666110 (nm_c (rn_oo he666105 he666107 (by decide)) nm_n)).trans he666105
        have he666140 : F666123 q666058 = .inl (I .byte, n666059, .inl f666060) := (hfr666125 q666058 hm666111 (nm_c (rn_ao he666106 he666107) nm_n)).trans he666106
        have hfr666141 : rFr [] P665605 F665606 F666123 := rFr_call hsb666115 hfr666114 hfr666125 (fun b hb hn => ⟨nm_n, (nm_c (fun e => hq666113 (e ▸ hb)) nm_n)⟩)
        have hne666142 : q666058 ≠ q666121 := fun h => hq666129 (h ▸ hm666111)
        change G _ _ _ _ _ _ _ _ _ _ _
        refine G_widen (cs' := 6) (sl' := 20 + (o666040.toInt.toNat + 4) + 0 + 4 + 16) (Nat.add_le_add_left hdc 5) (by omega) ?_
        refine G_ldcK (a := D.2 1000 35) dr_cX14_symbol_93 (fun _ _ _ h => gx_vk 35 rfl rfl h) ?_
        have hl35_666142 : (sb_35.length : Int) = 1 := rfl
        refine Gw_callV (As := [.ref (D.2 1000 35)]) (gV_ok D I) (cp_656183_StringBuilder_append l hl0 D I P666122 F666123 q666096 q666121 (D.2 1000 35) (D.2 1001 35) sb_35 0 0 (fun _ => 0) 16 hm666134 hm666128 he666126 he666127 (gx_sc 35 rfl rfl) (by omega) (by decide +kernel) (gB_w (gBl (show Int32.toInt 0 = 0 by decide)) (by decide) (by decide)) (gB_w (gBl (show Int32.toInt 0 = 0 by decide)) (by decide) (by decide)) (gF_w gF_0 (by decide) (by decide)) (by have qa0 : Int32.toInt 0 = 0 := (by decide); omega) (by have qa0 : Int32.toInt 0 = 0 := (by decide); omega)) dr_cX14_symbol_95 ⟨wr_8_195, wr_1_20, wr_8_143, by decide, rfl, (Nat.le_of_ble_eq_true rfl), (Nat.le_of_ble_eq_true rfl)⟩ wr_8_141 wr_8_142 hm666134 he666126 rfl (Nat.le_trans (show 6 + 0 ≤ 16 by decide) hMC) (show 20 + (o666040.toInt.toNat + 4) + 0 + 4 + 16 + 0 ≤ ((160 * (p665610.toInt - p665611.toInt)).toNat) by first | omega | decide) (Nat.le_of_ble_eq_true rfl) (fun r666147 w666148 dc666144 ds666145 hp666146 => ?_) (fun _ _ _ _ _ z => z.elim)
        obtain ⟨F666155, o666149, f666150, rfl, rfl, hfr666157, he666158, he666159, hdc, hds, bo666149, bf666150, x666151, x666152, x666153, ht666154⟩ := hp666146
        have he666160 : F666155 q665607 = .inr (19, [.ref q665608, .int p665610, .int p665611, .int p665612, .int p665613, .int p665614, .int p665615, .ref qo665616, .int p665617, .int p665618, .int p665619, .ref qo665620, .ref qo665621, .int p665622]) := (hfr666157 q665607 hm666130 (nm_c (fun h => hq666113 (h ▸ hmq665607)) (nm_c (fun h => hq666135 (h ▸ hmq665607)) nm_n))).trans he666137
        have he666161 : F666155 q665608 = .inl (I .byte, 8192, .inl f665623) := (hfr666157 q665608 hm666131 (nm_c (fun h => hq666113 (h ▸ hmq665608)) (nm_c (fun h => hq666135 (h ▸ hmq665608)) nm_n))).trans he666138
        have he666162 : F666155 q666057 = .inr (0, [.ref q666058, .int 0, .int 0, .int 0]) := (hfr666157 q666057 hm666132 (nm_c (rn_oo he666139 he666126 (by decide)) (nm_c (rn_oa he666139 he666127) nm_n))).trans he666139
        have he666163 : F666155 q666058 = .inl (I .byte, n666059, .inl f666060) := (hfr666157 q666058 hm666133 (nm_c (rn_ao he666140 he666126) (nm_c hne666142 nm_n))).trans he666140
        have hfr666164 : rFr [] P665605 F665606 F666155 := rFr_call hsb666136 hfr666141 hfr666157 (fun b hb hn => ⟨nm_n, (nm_c (fun e => hq666113 (e ▸ hb)) (nm_c (fun e => hq666135 (e ▸ hb)) nm_n))⟩)
        rw [show Int32.toInt 0 = 0 from by decide] at x666151
        have bo666149' : gB o666149 1 1 := ⟨by omega, by omega⟩
        rw [show Int32.toInt 0 = 0 from by decide] at x666152
        rw [show Int32.toInt 0 = 0 from by decide] at x666153
        change G _ _ _ _ _ _ _ (.ref q666096 :: _) _ _ _
        refine G_widen (cs' := 6) (sl' := 20 + (o666040.toInt.toNat + 4) + 0 + 4 + 16 + 0) (Nat.add_le_add_left hdc 6) (by omega) ?_
        refine G_aload_n 0 dr_cX14_symbol_98 rfl ?_
        refine Gw_callV (As := [.ref q666057]) (gV_ok D I) (cp_655955_StringBuilder_append l hl0 D I P666122 F666155 q666096 q666057 q666121 q666058 0 o666149 0 0 f666150 16 f666060 n666059 hm666134 hm666132 hm666128 hm666133 he666158 he666162 he666159 he666163 (Ne.symm hne666142) (gB_w (gBl (show Int32.toInt 0 = 0 by decide)) (by decide) (by decide)) (gB_w bo666149' (by decide) (by decide)) (gB_w (gBl (show Int32.toInt 0 = 0 by decide)) (by decide) (by decide)) bf666150 bf666060 (by have qa0 : Int32.toInt 0 = 0 := (by decide); omega) (by have qa0 : Int32.toInt 0 = 0 := (by decide); omega) (by have qa0 : Int32.toInt 0 = 0 := (by decide); omega)) dr_cX14_symbol_99 ⟨wr_8_195, wr_1_20, wr_8_143, by decide, rfl, (Nat.le_of_ble_eq_true rfl), (Nat.le_of_ble_eq_true rfl)⟩ wr_8_141 wr_8_142 hm666134 he666158 rfl (Nat.le_trans (show 6 + 0 ≤ 16 by decide) hMC) (show 20 + (o666040.toInt.toNat + 4) + 0 + 4 + 16 + 0 + 0 ≤ ((160 * (p665610.toInt - p665611.toInt)).toNat) by first | omega | decide) (Nat.le_of_ble_eq_true rfl) (fun r666168 w666169 dc666165 ds666166 hp666167 => ?_) (fun _ _ _ _ _ z => z.elim)
        obtain ⟨F666176, o666170, f666171, rfl, rfl, hfr666178, he666179, he666180, he666181, he666182, hdc, hds, bo666170, bf666171, x666172, x666173, x666174, ht666175⟩ := hp666167
        have he666183 : F666176 q665607 = .inr (19, [.ref q665608, .int p665610, .int p665611, .int p665612, .int p665613, .int p665614, .int p665615, .ref qo665616, .int p665617, .int p665618, .int p665619, .ref qo665620, .ref qo665621, .int p665622]) := (hfr666178 q665607 hm666130 (nm_c (fun h => hq666113 (h ▸ hmq665607)) (nm_c (fun h => hq666135 (h ▸ hmq665607)) nm_n))).trans he666160
        have he666184 : F666176 q665608 = .inl (I .byte, 8192, .inl f665623) := (hfr666178 q665608 hm666131 (nm_c (fun h => hq666113 (h ▸ hmq665608)) (nm_c (fun h => hq666135 (h ▸ hmq665608)) nm_n))).trans he666161
        have hfr666185 : rFr [] P665605 F665606 F666176 := rFr_call hsb666136 hfr666164 hfr666178 (fun b hb hn => ⟨nm_n, (nm_c (fun e => hq666113 (e ▸ hb)) (nm_c (fun e => hq666135 (e ▸ hb)) nm_n))⟩)
        have bo666170' : gB o666170 3 3 := ⟨by omega, by omega⟩
        change G _ _ _ _ _ _ _ (.ref q666096 :: _) _ _ _
        refine G_widen (cs' := 6) (sl' := 20 + (o666040.toInt.toNat + 4) + 0 + 4 + 16 + 0 + 0) (Nat.add_le_add_left hdc 6) (by omega) ?_
        refine G_ldcK (a := D.2 1000 35) dr_cX14_symbol_102 (fun _ _ _ h => gx_vk 35 rfl rfl h) ?_
        have hl35_666185 : (sb_35.length : Int) = 1 := rfl
        refine Gw_callV (As := [.ref (D.2 1000 35)]) (gV_ok D I) (cp_656183_StringBuilder_append l hl0 D I P666122 F666176 q666096 q666121 (D.2 1000 35) (D.2 1001 35) sb_35 0 o666170 f666171 16 hm666134 hm666128 he666179 he666181 (gx_sc 35 rfl rfl) (by omega) (by decide +kernel) (gB_w (gBl (show Int32.toInt 0 = 0 by decide)) (by decide) (by decide)) (gB_w bo666170' (by decide) (by decide)) bf666171 (by have qa0 : Int32.toInt 0 = 0 := (by decide); omega) (by have qa0 : Int32.toInt 0 = 0 := (by decide); omega)) dr_cX14_symbol_104 ⟨wr_8_195, wr_1_20, wr_8_143, by decide, rfl, (Nat.le_of_ble_eq_true rfl), (Nat.le_of_ble_eq_true rfl)⟩ wr_8_141 wr_8_142 hm666134 he666179 rfl (Nat.le_trans (show 6 + 0 ≤ 16 by decide) hMC) (show 20 + (o666040.toInt.toNat + 4) + 0 + 4 + 16 + 0 + 0 + 0 ≤ ((160 * (p665610.toInt - p665611.toInt)).toNat) by first | omega | decide) (Nat.le_of_ble_eq_true rfl) (fun r666190 w666191 dc666187 ds666188 hp666189 => ?_) (fun _ _ _ _ _ z => z.elim)
        obtain ⟨F666198, o666192, f666193, rfl, rfl, hfr666200, he666201, he666202, hdc, hds, bo666192, bf666193, x666194, x666195, x666196, ht666197⟩ := hp666189
        have he666203 : F666198 q665607 = .inr (19, [.ref q665608, .int p665610, .int p665611, .int p665612, .int p665613, .int p665614, .int p665615, .ref qo665616, .int p665617, .int p665618, .int p665619, .ref qo665620, .ref qo665621, .int p665622]) := (hfr666200 q665607 hm666130 (nm_c (fun h => hq666113 (h ▸ hmq665607)) (nm_c (fun h => hq666135 (h ▸ hmq665607)) nm_n))).trans he666183
        have he666204 : F666198 q665608 = .inl (I .byte, 8192, .inl f665623) := (hfr666200 q665608 hm666131 (nm_c (fun h => hq666113 (h ▸ hmq665608)) (nm_c (fun h => hq666135 (h ▸ hmq665608)) nm_n))).trans he666184
        have he666205 : F666198 q666057 = .inr (0, [.ref q666058, .int 0, .int 0, .int 0]) := (hfr666200 q666057 hm666132 (nm_c (rn_oo he666180 he666179 (by decide)) (nm_c (rn_oa he666180 he666181) nm_n))).trans he666180
        have he666206 : F666198 q666058 = .inl (I .byte, n666059, .inl f666060) := (hfr666200 q666058 hm666133 (nm_c (rn_ao he666182 he666179) (nm_c hne666142 nm_n))).trans he666182
        have hfr666207 : rFr [] P665605 F665606 F666198 := rFr_call hsb666136 hfr666185 hfr666200 (fun b hb hn => ⟨nm_n, (nm_c (fun e => hq666113 (e ▸ hb)) (nm_c (fun e => hq666135 (e ▸ hb)) nm_n))⟩)
        have bo666192' : gB o666192 4 4 := ⟨by omega, by omega⟩
        change G _ _ _ _ _ _ _ (.ref q666096 :: _) _ _ _
        refine G_widen (cs' := 6) (sl' := 20 + (o666040.toInt.toNat + 4) + 0 + 4 + 16 + 0 + 0 + 0) (Nat.add_le_add_left hdc 6) (by omega) ?_
        refine Gw_callV (As := []) (gV_ok D I) (cp_656656_StringBuilder_toString l hl0 D I P666122 F666198 q666096 q666121 0 o666192 f666193 16 hm666134 hm666128 he666201 he666202 (gB_w (gBl (show Int32.toInt 0 = 0 by decide)) (by decide) (by decide)) (gB_w bo666192' (by decide) (by decide)) bf666193 (by have qa0 : Int32.toInt 0 = 0 := (by decide); omega) (by have qa0 : Int32.toInt 0 = 0 := (by decide); omega)) dr_cX14_symbol_107 ⟨wr_8_66, wr_1_20, wr_8_69, by decide, rfl, (Nat.le_of_ble_eq_true rfl), (Nat.le_of_ble_eq_true rfl)⟩ wr_8_67 wr_8_68 hm666134 he666201 rfl (Nat.le_trans (show 6 + 2 ≤ 16 by decide) hMC) (show 20 + (o666040.toInt.toNat + 4) + 0 + 4 + 16 + 0 + 0 + 0 + (o666192.toInt.toNat + 4) ≤ ((160 * (p665610.toInt - p665611.toInt)).toNat) by first | omega | decide) (Nat.le_of_ble_eq_true rfl) (fun r666211 w666212 dc666208 ds666209 hp666210 => ?_) (fun _ _ _ _ _ z => z.elim)
        obtain ⟨P666220, F666221, q666213, q666214, n666215, f666216, rfl, rfl, hsb666222, hfr666223, he666224, he666225, he666226, he666227, hm666228, hq666229, hm666230, hq666231, hdc, hds, bf666216, x666217, x666218, ht666219⟩ := hp666210
        have hm666232 : q665607 ∈ P666220 := hsb666222 q665607 hm666130
        have hm666233 : q665608 ∈ P666220 := hsb666222 q665608 hm666131
        have hm666234 : q666057 ∈ P666220 := hsb666222 q666057 hm666132
        have hm666235 : q666058 ∈ P666220 := hsb666222 q666058 hm666133
        have hm666236 : q666096 ∈ P666220 := hsb666222 q666096 hm666134
        have hm666237 : q666121 ∈ P666220 := hsb666222 q666121 hm666128
        have hq666238 : q666213 ∉ P665605 := fun z => hq666229 (hsb666136 q666213 z)
        have hq666239 : q666214 ∉ P665605 := fun z => hq666231 (hsb666136 q666214 z)
        have hsb666240 : rSub P665605 P666220 := rSub_tr hsb666136 hsb666222
        have he666241 : F666221 q665607 = .inr (19, [.ref q665608, .int p665610, .int p665611, .int p665612, .int p665613, .int p665614, .int p665615, .ref qo665616, .int p665617, .int p665618, .int p665619, .ref qo665620, .ref qo665621, .int p665622]) := (hfr666223 q665607 hm666130 nm_n).trans he666203
        have he666242 : F666221 q665608 = .inl (I .byte, 8192, .inl f665623) := (hfr666223 q665608 hm666131 nm_n).trans he666204
        have he666243 : F666221 q666057 = .inr (0, [.ref q666058, .int 0, .int 0, .int 0]) := (hfr666223 q666057 hm666132 nm_n).trans he666205
        have he666244 : F666221 q666058 = .inl (I .byte, n666059, .inl f666060) := (hfr666223 q666058 hm666133 nm_n).trans he666206
        have hfr666245 : rFr [] P665605 F665606 F666221 := rFr_call hsb666136 hfr666207 hfr666223 (fun b hb hn => ⟨nm_n, nm_n⟩)
        have hne666246 : q666057 ≠ q666213 := fun h => hq666229 (h ▸ hm666132)
        have hne666247 : q666058 ≠ q666214 := fun h => hq666231 (h ▸ hm666133)
        have hne666248 : q666121 ≠ q666214 := fun h => hq666231 (h ▸ hm666128)
        change G _ _ _ _ _ _ _ (.ref q666213 :: _) _ _ _
        refine G_widen (cs' := 8) (sl' := 20 + (o666040.toInt.toNat + 4) + 0 + 4 + 16 + 0 + 0 + 0 + (o666192.toInt.toNat + 4)) (Nat.add_le_add_left hdc 6) (by omega) ?_
        refine Gw_callVk (As := [.ref q666213]) (gV_ok D I) (cp_657115_String_indexOf l hl0 D I P666220 F666221 q666213 q666214 (D.2 1000 36) (D.2 1001 36) sb_36 0 0 f666216 n666215 hm666228 hm666230 he666224 he666227 (gx_sc 36 rfl rfl) (by omega) (by decide +kernel) (gB_w (gBl (show Int32.toInt 0 = 0 by decide)) (by decide) (by decide)) bf666216 (by have qa0 : Int32.toInt 0 = 0 := (by decide); omega) (by have qa0 : Int32.toInt 0 = 0 := (by decide); omega)) dr_cX14_symbol_110 ⟨wr_8_196, wr_1_21, wr_8_199, by decide, rfl, (Nat.le_of_ble_eq_true rfl), (Nat.le_of_ble_eq_true rfl)⟩ wr_8_197 wr_8_198 (fun _ _ _ h => ((gx_sc 36 rfl rfl) _ _ _ h).1) (Nat.le_trans (show 8 + 0 ≤ 16 by decide) hMC) (show 20 + (o666040.toInt.toNat + 4) + 0 + 4 + 16 + 0 + 0 + 0 + (o666192.toInt.toNat + 4) + 0 ≤ ((160 * (p665610.toInt - p665611.toInt)).toNat) by first | omega | decide) (Nat.le_of_ble_eq_true rfl) (fun r666252 w666253 dc666249 ds666250 hp666251 => ?_) (fun _ _ _ _ _ z => z.elim)
        obtain ⟨o666254, rfl, rfl, hdc, hds, bo666254, x666255, x666256, ht666257⟩ := hp666251
        change G _ _ _ _ _ _ _ (.int o666254 :: _) _ _ _
        refine G_widen (cs' := 8) (sl' := 20 + (o666040.toInt.toNat + 4) + 0 + 4 + 16 + 0 + 0 + 0 + (o666192.toInt.toNat + 4) + 0) (Nat.add_le_add_left hdc 8) (by omega) ?_
        refine G_if_lt 120 dr_cX14_symbol_113 (by decide +kernel) (fun hc666258 => ?_) (fun hc666258 => ?_)
        · have r666259 : o666254.toInt < 0 := gj_lt hc666258 (show Int32.toInt 0 = 0 by decide)
          have bo666254' : gB o666254 (-2147483646) (-1) := ⟨by omega, by omega⟩
          refine G_iconst 0 dr_cX14_symbol_120 (by decide +kernel) ?_
          refine G_istore_n (L' := [(3, .int 0), (2, .ref q666057), (0, .ref q665607), (1, .int p665609)]) dr_cX14_symbol_121 (Nat.le_of_ble_eq_true rfl) rfl ?_
          clear he666068 he666071 hm666072 hm666074 hm666076 hm666077 hsb666082 he666083 he666084 hfr666085 he666103 he666104 he666105 he666106 he666107 hm666108 hm666109 hm666110 hm666111 hm666112 hq666113 hfr666114 hsb666115 hsb666124 hfr666125 he666126 he666127 hm666128 hq666129 hm666130 hm666131 hm666132 hm666133 hm666134 hq666135 hsb666136 he666137 he666138 he666139 he666140 hfr666141 hne666142 hfr666157 he666158 he666159 bf666150 he666160 he666161 he666162 he666163 hfr666164 hfr666178 he666179 he666180 he666181 he666182 bf666171 he666183 he666184 hfr666185 hfr666200 he666201 he666202 bf666193 he666203 he666204 he666205 he666206 hfr666207 hsb666222 hfr666223 he666224 he666225 he666226 he666227 hm666228 hq666229 hm666230 hq666231 bf666216 hm666236 hm666237 hq666238 hq666239 hne666246 hne666247 hne666248; try clear r666119; try clear w666120; try clear dc666116; try clear ds666117; try clear hp666118; try clear r666147; try clear w666148; try clear dc666144; try clear ds666145; try clear hp666146; try clear x666152; try clear x666153; try clear r666168; try clear w666169; try clear dc666165; try clear ds666166; try clear hp666167; try clear x666173; try clear x666174; try clear r666190; try clear w666191; try clear dc666187; try clear ds666188; try clear hp666189; try clear x666195; try clear x666196; try clear r666211; try clear w666212; try clear dc666208; try clear ds666209; try clear hp666210; try clear x666218; try clear r666252; try clear w666253; try clear dc666249; try clear ds666250; try clear hp666251; try clear x666256
          refine G_aload_n 2 dr_cX14_symbol_122 rfl ?_
          refine G_iload_n 0 dr_cX14_symbol_123 rfl ?_
          refine G_if_ne 143 dr_cX14_symbol_124 (by decide +kernel) (fun hc => absurd hc (by decide)) (fun _ => ?_)
          refine G_iload_n 3 dr_cX14_symbol_127 rfl ?_
          refine G_bipush 32 dr_cX14_symbol_128 (by decide +kernel) ?_
          refine G_icmp_le 147 dr_cX14_symbol_130 (by decide +kernel) (fun hc => absurd (show False by have := gj_le hc (show Int32.toInt 32 = 32 by decide); omega) not_false) (fun _ => ?_)
          refine G_ldcK (a := D.2 1000 37) dr_cX14_symbol_133 (fun _ _ _ h => gx_vk 37 rfl rfl h) ?_
          have hl37_666259 : (sb_37.length : Int) = 14 := rfl
          refine G_iload_n 3 dr_cX14_symbol_135 rfl ?_
          refine G_i2c dr_cX14_symbol_136 (G_nam fun z666261 hz666261 => ?_)
          have ez666261 : z666261.toInt = p665609.toInt := gI_i2c hz666261 (by omega) (by omega)
          have bz666261 : gB z666261 33 127 := ⟨by omega, by omega⟩
          refine Gw_callVk (As := [.int z666261]) (gV_ok D I) (cp_664190_String_indexOf l hl0 D I P666220 F666221 (D.2 1000 37) (D.2 1001 37) sb_37 z666261 (gx_sc 37 rfl rfl) (by omega) (by decide +kernel) (gB_w bz666261 (by decide) (by decide))) dr_cX14_symbol_137 ⟨wr_8_230, wr_1_21, wr_8_233, by decide, rfl, (Nat.le_of_ble_eq_true rfl), (Nat.le_of_ble_eq_true rfl)⟩ wr_8_231 wr_8_232 (fun _ _ _ h => ((gx_sc 37 rfl rfl) _ _ _ h).1) (Nat.le_trans (show 8 + 0 ≤ 16 by decide) hMC) (show 20 + (o666040.toInt.toNat + 4) + 0 + 4 + 16 + 0 + 0 + 0 + (o666192.toInt.toNat + 4) + 0 + 0 ≤ ((160 * (p665610.toInt - p665611.toInt)).toNat) by first | omega | decide) (Nat.le_of_ble_eq_true rfl) (fun r666265 w666266 dc666262 ds666263 hp666264 => ?_) (fun _ _ _ _ _ z => z.elim)
          obtain ⟨o666267, rfl, rfl, hdc, hds, bo666267, ht666268⟩ := hp666264
          change G _ _ _ _ _ _ _ (.int o666267 :: _) _ _ _
          refine G_widen (cs' := 8) (sl' := 20 + (o666040.toInt.toNat + 4) + 0 + 4 + 16 + 0 + 0 + 0 + (o666192.toInt.toNat + 4) + 0 + 0) (Nat.add_le_add_left hdc 8) (by omega) ?_
          refine G_if_lt 147 dr_cX14_symbol_140 (by decide +kernel) (fun hc666269 => ?_) (fun hc666269 => ?_)
          · have r666270 : o666267.toInt < 0 := gj_lt hc666269 (show Int32.toInt 0 = 0 by decide)
            have bo666267' : gB o666267 (-1) (-1) := ⟨by omega, by omega⟩
            refine G_bipush 6 dr_cX14_symbol_147 (by decide +kernel) ?_
            refine Gp_put 3 hm666232 he666241 dr_cX14_symbol_149 (gk_X14 D I) (Nat.le_of_ble_eq_true rfl) wr_9_39 rfl rfl rfl (Nat.le_of_ble_eq_true rfl) (fun F666271 e666272 n666273 => ?_)
            have he666274 : F666271 q665608 = .inl (I .byte, 8192, .inl f665623) := (n666273 q665608 (rn_ao he666242 he666241)).trans he666242
            have he666275 : F666271 q666057 = .inr (0, [.ref q666058, .int 0, .int 0, .int 0]) := (n666273 q666057 (fun h => hq666080 (h ▸ hmq665607))).trans he666243
            have he666276 : F666271 q666058 = .inl (I .byte, n666059, .inl f666060) := (n666273 q666058 (fun h => hq666081 (h ▸ hmq665607))).trans he666244
            have he666277 : F666271 q665607 = .inr (19, [.ref q665608, .int p665610, .int p665611, .int 6, .int p665613, .int p665614, .int p665615, .ref qo665616, .int p665617, .int p665618, .int p665619, .ref qo665620, .ref qo665621, .int p665622]) := e666272
            have hfr666278 : rFr [q665607] P665605 F665606 F666271 := rFr_put hfr666245 n666273
            clear he666241 he666242 he666243 he666244 hfr666245 ez666261 bz666261 bo666267'; try clear r666265; try clear w666266; try clear dc666262; try clear ds666263; try clear hp666264
            refine G_aload_n 2 dr_cX14_symbol_152 rfl ?_
            refine G_iload_n 0 dr_cX14_symbol_153 rfl ?_
            refine G_if_eq 161 dr_cX14_symbol_154 (by decide +kernel) (fun _ => ?_) (fun hc => absurd hc (by decide))
            refine G_iload_n 3 dr_cX14_symbol_161 rfl ?_
            refine G_bipush 32 dr_cX14_symbol_162 (by decide +kernel) ?_
            refine G_icmp_le 190 dr_cX14_symbol_164 (by decide +kernel) (fun hc => absurd (show False by have := gj_le hc (show Int32.toInt 32 = 32 by decide); omega) not_false) (fun _ => ?_)
            refine G_new [.null, .int 0, .int 0, .int 0] dr_cX14_symbol_167 (gk_J4 D I) wr_7_235 wr_7_44 wr_1_20 (gfs_J4) (Nat.le_trans (show 8 + 1 ≤ 16 by decide) hMC) (show 20 + (o666040.toInt.toNat + 4) + 0 + 4 + 16 + 0 + 0 + 0 + (o666192.toInt.toNat + 4) + 0 + 0 + 4 ≤ ((160 * (p665610.toInt - p665611.toInt)).toNat) by first | omega | decide) (fun q666279 => Gp_in (fun P666280 F666281 hq666282 hP666283 e666284 n666285 => ?_))
            refine G_widen (cs' := 9) (sl' := 20 + (o666040.toInt.toNat + 4) + 0 + 4 + 16 + 0 + 0 + 0 + (o666192.toInt.toNat + 4) + 0 + 0 + 4) (by omega) (by omega) ?_
            have he666286 : F666281 q665607 = .inr (19, [.ref q665608, .int p665610, .int p665611, .int 6, .int p665613, .int p665614, .int p665615, .ref qo665616, .int p665617, .int p665618, .int p665619, .ref qo665620, .ref qo665621, .int p665622]) := (n666285 q665607 (fun h => hq666282 (h ▸ hm666232))).trans he666277
            have he666287 : F666281 q665608 = .inl (I .byte, 8192, .inl f665623) := (n666285 q665608 (fun h => hq666282 (h ▸ hm666233))).trans he666274
            have he666288 : F666281 q666057 = .inr (0, [.ref q666058, .int 0, .int 0, .int 0]) := (n666285 q666057 (fun h => hq666282 (h ▸ hm666234))).trans he666275
            have he666289 : F666281 q666058 = .inl (I .byte, n666059, .inl f666060) := (n666285 q666058 (fun h => hq666282 (h ▸ hm666235))).trans he666276
            have he666290 : F666281 q666279 = .inr (1, [.null, .int 0, .int 0, .int 0]) := e666284
            have hm666291 : q665607 ∈ P666280 := (hP666283 q665607).mpr (Or.inl hm666232)
            have hm666292 : q665608 ∈ P666280 := (hP666283 q665608).mpr (Or.inl hm666233)
            have hm666293 : q666057 ∈ P666280 := (hP666283 q666057).mpr (Or.inl hm666234)
            have hm666294 : q666058 ∈ P666280 := (hP666283 q666058).mpr (Or.inl hm666235)
            have hm666295 : q666279 ∈ P666280 := (hP666283 q666279).mpr (Or.inr rfl)
            have hq666296 : q666279 ∉ P665605 := fun z => hq666282 (hsb666240 q666279 z)
            have hfr666297 : rFr [q665607] P665605 F665606 F666281 := rFr_new hsb666240 hq666282 hfr666278 n666285
            have hsb666298 : rSub P665605 P666280 := rSub_new hsb666240 hP666283
            refine G_dup dr_cX14_symbol_170 rfl ?_
            refine Gw_callI (As := []) (gV_ok D I) (cp_655881_StringBuilder_init l hl0 D I P666280 F666281 q666279 0 0 hm666295 he666290 (gB_w (gBl (show Int32.toInt 0 = 0 by decide)) (by decide) (by decide)) (gB_w (gBl (show Int32.toInt 0 = 0 by decide)) (by decide) (by decide))) dr_cX14_symbol_171 ⟨wr_7_236, wr_1_20, wr_7_47, by decide, rfl, (Nat.le_of_ble_eq_true rfl), (Nat.le_of_ble_eq_true rfl)⟩ wr_7_46 rfl (Nat.le_trans (show 9 + 1 ≤ 16 by decide) hMC) (show 20 + (o666040.toInt.toNat + 4) + 0 + 4 + 16 + 0 + 0 + 0 + (o666192.toInt.toNat + 4) + 0 + 0 + 4 + 16 ≤ ((160 * (p665610.toInt - p665611.toInt)).toNat) by first | omega | decide) (Nat.le_of_ble_eq_true rfl) (fun r666302 w666303 dc666299 ds666300 hp666301 => ?_)
            obtain ⟨P666305, F666306, q666304, rfl, rfl, hsb666307, hfr666308, he666309, he666310, hm666311, hq666312, hdc, hds⟩ := hp666301
            have hm666313 : q665607 ∈ P666305 := hsb666307 q665607 hm666291
            have hm666314 : q665608 ∈ P666305 := hsb666307 q665608 hm666292
            have hm666315 : q666057 ∈ P666305 := hsb666307 q666057 hm666293
            have hm666316 : q666058 ∈ P666305 := hsb666307 q666058 hm666294
            have hm666317 : q666279 ∈ P666305 := hsb666307 q666279 hm666295
            have hq666318 : q666304 ∉ P665605 := fun z => hq666312 (hsb666298 q666304 z)
            have hsb666319 : rSub P665605 P666305 := rSub_tr hsb666298 hsb666307
            have he666320 : F666306 q665607 = .inr (19, [.ref q665608, .int p665610, .int p665611, .int 6, .int p665613, .int p665614, .int p665615, .ref qo665616, .int p665617, .int p665618, .int p665619, .ref qo665620, .ref qo665621, .int p665622]) := (hfr666308 q665607 hm666291 (nm_c (fun h => hq666296 (h ▸ hmq665607)) nm_n)).trans he666286
            have he666321 : F666306 q665608 = .inl (I .byte, 8192, .inl f665623) := (hfr666308 q665608 hm666292 (nm_c (fun h => hq666296 (h ▸ hmq665608)) nm_n)).trans he666287
            have he666322 : F666306 q666057 = .inr (0, [.ref q666058, .int 0, .int 0, .int 0]) := (hfr666308 q666057 hm666293 (nm_c (rn_oo he666288 he666290 (by decide)) nm_n)).trans he666288
            have he666323 : F666306 q666058 = .inl (I .byte, n666059, .inl f666060) := (hfr666308 q666058 hm666294 (nm_c (rn_ao he666289 he666290) nm_n)).trans he666289
            have hfr666324 : rFr [q665607] P665605 F665606 F666306 := rFr_call hsb666298 hfr666297 hfr666308 (fun b hb hn => ⟨(nm_c (fun e => hn (e ▸ List.mem_cons_self)) nm_n), (nm_c (fun e => hq666296 (e ▸ hb)) nm_n)⟩)
            have hne666325 : q666058 ≠ q666304 := fun h => hq666312 (h ▸ hm666294)
            change G _ _ _ _ _ _ _ _ _ _ _
            refine G_widen (cs' := 10) (sl' := 20 + (o666040.toInt.toNat + 4) + 0 + 4 + 16 + 0 + 0 + 0 + (o666192.toInt.toNat + 4) + 0 + 0 + 4 + 16) (Nat.add_le_add_left hdc 9) (by omega) ?_
            refine G_ldcK (a := D.2 1000 32) dr_cX14_symbol_174 (fun _ _ _ h => gx_vk 32 rfl rfl h) ?_
            have hl32_666325 : (sb_32.length : Int) = 0 := rfl
            refine Gw_callV (As := [.ref (D.2 1000 32)]) (gV_ok D I) (cp_656183_StringBuilder_append l hl0 D I P666305 F666306 q666279 q666304 (D.2 1000 32) (D.2 1001 32) sb_32 0 0 (fun _ => 0) 16 hm666317 hm666311 he666309 he666310 (gx_sc 32 rfl rfl) (by omega) (by decide +kernel) (gB_w (gBl (show Int32.toInt 0 = 0 by decide)) (by decide) (by decide)) (gB_w (gBl (show Int32.toInt 0 = 0 by decide)) (by decide) (by decide)) (gF_w gF_0 (by decide) (by decide)) (by have qa0 : Int32.toInt 0 = 0 := (by decide); have qa1 : Int32.toInt 6 = 6 := (by decide); omega) (by have qa0 : Int32.toInt 0 = 0 := (by decide); have qa1 : Int32.toInt 6 = 6 := (by decide); omega)) dr_cX14_symbol_176 ⟨wr_8_195, wr_1_20, wr_8_143, by decide, rfl, (Nat.le_of_ble_eq_true rfl), (Nat.le_of_ble_eq_true rfl)⟩ wr_8_141 wr_8_142 hm666317 he666309 rfl (Nat.le_trans (show 10 + 0 ≤ 16 by decide) hMC) (show 20 + (o666040.toInt.toNat + 4) + 0 + 4 + 16 + 0 + 0 + 0 + (o666192.toInt.toNat + 4) + 0 + 0 + 4 + 16 + 0 ≤ ((160 * (p665610.toInt - p665611.toInt)).toNat) by first | omega | decide) (Nat.le_of_ble_eq_true rfl) (fun r666330 w666331 dc666327 ds666328 hp666329 => ?_) (fun _ _ _ _ _ z => z.elim)
            obtain ⟨F666338, o666332, f666333, rfl, rfl, hfr666340, he666341, he666342, hdc, hds, bo666332, bf666333, x666334, x666335, x666336, ht666337⟩ := hp666329
            have he666343 : F666338 q665607 = .inr (19, [.ref q665608, .int p665610, .int p665611, .int 6, .int p665613, .int p665614, .int p665615, .ref qo665616, .int p665617, .int p665618, .int p665619, .ref qo665620, .ref qo665621, .int p665622]) := (hfr666340 q665607 hm666313 (nm_c (fun h => hq666296 (h ▸ hmq665607)) (nm_c (fun h => hq666318 (h ▸ hmq665607)) nm_n))).trans he666320
            have he666344 : F666338 q665608 = .inl (I .byte, 8192, .inl f665623) := (hfr666340 q665608 hm666314 (nm_c (fun h => hq666296 (h ▸ hmq665608)) (nm_c (fun h => hq666318 (h ▸ hmq665608)) nm_n))).trans he666321
            have he666345 : F666338 q666057 = .inr (0, [.ref q666058, .int 0, .int 0, .int 0]) := (hfr666340 q666057 hm666315 (nm_c (rn_oo he666322 he666309 (by decide)) (nm_c (rn_oa he666322 he666310) nm_n))).trans he666322
            have he666346 : F666338 q666058 = .inl (I .byte, n666059, .inl f666060) := (hfr666340 q666058 hm666316 (nm_c (rn_ao he666323 he666309) (nm_c hne666325 nm_n))).trans he666323
            have hfr666347 : rFr [q665607] P665605 F665606 F666338 := rFr_call hsb666319 hfr666324 hfr666340 (fun b hb hn => ⟨(nm_c (fun e => hn (e ▸ List.mem_cons_self)) nm_n), (nm_c (fun e => hq666296 (e ▸ hb)) (nm_c (fun e => hq666318 (e ▸ hb)) nm_n))⟩)
            rw [show Int32.toInt 0 = 0 from by decide] at x666334
            have bo666332' : gB o666332 0 0 := ⟨by omega, by omega⟩
            rw [show Int32.toInt 0 = 0 from by decide] at x666335
            rw [show Int32.toInt 0 = 0 from by decide] at x666336
            change G _ _ _ _ _ _ _ (.ref q666279 :: _) _ _ _
            refine G_widen (cs' := 10) (sl' := 20 + (o666040.toInt.toNat + 4) + 0 + 4 + 16 + 0 + 0 + 0 + (o666192.toInt.toNat + 4) + 0 + 0 + 4 + 16 + 0) (Nat.add_le_add_left hdc 10) (by omega) ?_
            refine G_iload_n 3 dr_cX14_symbol_179 rfl ?_
            refine G_i2c dr_cX14_symbol_180 (G_nam fun z666348 hz666348 => ?_)
            have ez666348 : z666348.toInt = p665609.toInt := gI_i2c hz666348 (by omega) (by omega)
            have bz666348 : gB z666348 33 127 := ⟨by omega, by omega⟩
            refine Gw_callV (As := [.int z666348]) (gV_ok D I) (cp_655442_StringBuilder_append l hl0 D I P666305 F666338 q666279 q666304 z666348 0 o666332 f666333 16 hm666317 hm666311 he666341 he666342 (gB_w bz666348 (by decide) (by decide)) (gB_w (gBl (show Int32.toInt 0 = 0 by decide)) (by decide) (by decide)) (gB_w bo666332' (by decide) (by decide)) bf666333 (by have qa0 : Int32.toInt 0 = 0 := (by decide); have qa1 : Int32.toInt 6 = 6 := (by decide); omega) (by have qa0 : Int32.toInt 0 = 0 := (by decide); have qa1 : Int32.toInt 6 = 6 := (by decide); omega)) dr_cX14_symbol_181 ⟨wr_7_237, wr_1_20, wr_8_0, by decide, rfl, (Nat.le_of_ble_eq_true rfl), (Nat.le_of_ble_eq_true rfl)⟩ wr_7_238 wr_7_239 hm666317 he666341 rfl (Nat.le_trans (show 10 + 0 ≤ 16 by decide) hMC) (show 20 + (o666040.toInt.toNat + 4) + 0 + 4 + 16 + 0 + 0 + 0 + (o666192.toInt.toNat + 4) + 0 + 0 + 4 + 16 + 0 + 0 ≤ ((160 * (p665610.toInt - p665611.toInt)).toNat) by first | omega | decide) (Nat.le_of_ble_eq_true rfl) (fun r666352 w666353 dc666349 ds666350 hp666351 => ?_) (fun _ _ _ _ _ z => z.elim)
            obtain ⟨F666358, o666354, f666355, rfl, rfl, hfr666360, he666361, he666362, hdc, hds, bo666354, bf666355, x666356, ht666357⟩ := hp666351
            have he666363 : F666358 q665607 = .inr (19, [.ref q665608, .int p665610, .int p665611, .int 6, .int p665613, .int p665614, .int p665615, .ref qo665616, .int p665617, .int p665618, .int p665619, .ref qo665620, .ref qo665621, .int p665622]) := (hfr666360 q665607 hm666313 (nm_c (fun h => hq666318 (h ▸ hmq665607)) (nm_c (fun h => hq666296 (h ▸ hmq665607)) nm_n))).trans he666343
            have he666364 : F666358 q665608 = .inl (I .byte, 8192, .inl f665623) := (hfr666360 q665608 hm666314 (nm_c (fun h => hq666318 (h ▸ hmq665608)) (nm_c (fun h => hq666296 (h ▸ hmq665608)) nm_n))).trans he666344
            have he666365 : F666358 q666057 = .inr (0, [.ref q666058, .int 0, .int 0, .int 0]) := (hfr666360 q666057 hm666315 (nm_c (rn_oa he666345 he666342) (nm_c (rn_oo he666345 he666341 (by decide)) nm_n))).trans he666345
            have he666366 : F666358 q666058 = .inl (I .byte, n666059, .inl f666060) := (hfr666360 q666058 hm666316 (nm_c hne666325 (nm_c (rn_ao he666346 he666341) nm_n))).trans he666346
            have hfr666367 : rFr [q665607] P665605 F665606 F666358 := rFr_call hsb666319 hfr666347 hfr666360 (fun b hb hn => ⟨(nm_c (fun e => hn (e ▸ List.mem_cons_self)) nm_n), (nm_c (fun e => hq666318 (e ▸ hb)) (nm_c (fun e => hq666296 (e ▸ hb)) nm_n))⟩)
            have bo666354' : gB o666354 1 1 := ⟨by omega, by omega⟩
            change G _ _ _ _ _ _ _ (.ref q666279 :: _) _ _ _
            refine G_widen (cs' := 10) (sl' := 20 + (o666040.toInt.toNat + 4) + 0 + 4 + 16 + 0 + 0 + 0 + (o666192.toInt.toNat + 4) + 0 + 0 + 4 + 16 + 0 + 0) (Nat.add_le_add_left hdc 10) (by omega) ?_
            refine Gw_callV (As := []) (gV_ok D I) (cp_656656_StringBuilder_toString l hl0 D I P666305 F666358 q666279 q666304 0 o666354 f666355 16 hm666317 hm666311 he666361 he666362 (gB_w (gBl (show Int32.toInt 0 = 0 by decide)) (by decide) (by decide)) (gB_w bo666354' (by decide) (by decide)) bf666355 (by have qa0 : Int32.toInt 0 = 0 := (by decide); have qa1 : Int32.toInt 6 = 6 := (by decide); omega) (by have qa0 : Int32.toInt 0 = 0 := (by decide); have qa1 : Int32.toInt 6 = 6 := (by decide); omega)) dr_cX14_symbol_184 ⟨wr_8_66, wr_1_20, wr_8_69, by decide, rfl, (Nat.le_of_ble_eq_true rfl), (Nat.le_of_ble_eq_true rfl)⟩ wr_8_67 wr_8_68 hm666317 he666361 rfl (Nat.le_trans (show 10 + 2 ≤ 16 by decide) hMC) (show 20 + (o666040.toInt.toNat + 4) + 0 + 4 + 16 + 0 + 0 + 0 + (o666192.toInt.toNat + 4) + 0 + 0 + 4 + 16 + 0 + 0 + (o666354.toInt.toNat + 4) ≤ ((160 * (p665610.toInt - p665611.toInt)).toNat) by first | omega | decide) (Nat.le_of_ble_eq_true rfl) (fun r666371 w666372 dc666368 ds666369 hp666370 => ?_) (fun _ _ _ _ _ z => z.elim)
            obtain ⟨P666380, F666381, q666373, q666374, n666375, f666376, rfl, rfl, hsb666382, hfr666383, he666384, he666385, he666386, he666387, hm666388, hq666389, hm666390, hq666391, hdc, hds, bf666376, x666377, x666378, ht666379⟩ := hp666370
            have hm666392 : q665607 ∈ P666380 := hsb666382 q665607 hm666313
            have hm666393 : q665608 ∈ P666380 := hsb666382 q665608 hm666314
            have hm666394 : q666057 ∈ P666380 := hsb666382 q666057 hm666315
            have hm666395 : q666058 ∈ P666380 := hsb666382 q666058 hm666316
            have hm666396 : q666279 ∈ P666380 := hsb666382 q666279 hm666317
            have hm666397 : q666304 ∈ P666380 := hsb666382 q666304 hm666311
            have hq666398 : q666373 ∉ P665605 := fun z => hq666389 (hsb666319 q666373 z)
            have hq666399 : q666374 ∉ P665605 := fun z => hq666391 (hsb666319 q666374 z)
            have hsb666400 : rSub P665605 P666380 := rSub_tr hsb666319 hsb666382
            have he666401 : F666381 q665607 = .inr (19, [.ref q665608, .int p665610, .int p665611, .int 6, .int p665613, .int p665614, .int p665615, .ref qo665616, .int p665617, .int p665618, .int p665619, .ref qo665620, .ref qo665621, .int p665622]) := (hfr666383 q665607 hm666313 nm_n).trans he666363
            have he666402 : F666381 q665608 = .inl (I .byte, 8192, .inl f665623) := (hfr666383 q665608 hm666314 nm_n).trans he666364
            have he666403 : F666381 q666057 = .inr (0, [.ref q666058, .int 0, .int 0, .int 0]) := (hfr666383 q666057 hm666315 nm_n).trans he666365
            have he666404 : F666381 q666058 = .inl (I .byte, n666059, .inl f666060) := (hfr666383 q666058 hm666316 nm_n).trans he666366
            have hfr666405 : rFr [q665607] P665605 F665606 F666381 := rFr_call hsb666319 hfr666367 hfr666383 (fun b hb hn => ⟨(nm_c (fun e => hn (e ▸ List.mem_cons_self)) nm_n), nm_n⟩)
            have hne666406 : q666057 ≠ q666373 := fun h => hq666389 (h ▸ hm666315)
            have hne666407 : q666058 ≠ q666374 := fun h => hq666391 (h ▸ hm666316)
            have hne666408 : q666304 ≠ q666374 := fun h => hq666391 (h ▸ hm666311)
            change G _ _ _ _ _ _ _ (.ref q666373 :: _) _ _ _
            refine G_widen (cs' := 12) (sl' := 20 + (o666040.toInt.toNat + 4) + 0 + 4 + 16 + 0 + 0 + 0 + (o666192.toInt.toNat + 4) + 0 + 0 + 4 + 16 + 0 + 0 + (o666354.toInt.toNat + 4)) (Nat.add_le_add_left hdc 10) (by omega) ?_
            refine G_goto 192 dr_cX14_symbol_187 (by decide +kernel) ?_
            refine Gp_put 7 hm666392 he666401 dr_cX14_symbol_192 (gk_X14 D I) (Nat.le_of_ble_eq_true rfl) wr_9_43 rfl rfl rfl (Nat.le_of_ble_eq_true rfl) (fun F666409 e666410 n666411 => ?_)
            have he666412 : F666409 q665608 = .inl (I .byte, 8192, .inl f665623) := (n666411 q665608 (rn_ao he666402 he666401)).trans he666402
            have he666413 : F666409 q666057 = .inr (0, [.ref q666058, .int 0, .int 0, .int 0]) := (n666411 q666057 (fun h => hq666080 (h ▸ hmq665607))).trans he666403
            have he666414 : F666409 q666058 = .inl (I .byte, n666059, .inl f666060) := (n666411 q666058 (fun h => hq666081 (h ▸ hmq665607))).trans he666404
            have he666415 : F666409 q666373 = .inr (0, [.ref q666374, .int 0, .int 0, .int 0]) := (n666411 q666373 (fun h => hq666398 (h ▸ hmq665607))).trans he666384
            have he666416 : F666409 q666279 = .inr (1, [.ref q666304, .int 0, .int 0, .int o666354]) := (n666411 q666279 (fun h => hq666296 (h ▸ hmq665607))).trans he666385
            have he666417 : F666409 q666304 = .inl (I .byte, 16, .inl f666355) := (n666411 q666304 (fun h => hq666318 (h ▸ hmq665607))).trans he666386
            have he666418 : F666409 q666374 = .inl (I .byte, n666375, .inl f666376) := (n666411 q666374 (fun h => hq666399 (h ▸ hmq665607))).trans he666387
            have he666419 : F666409 q665607 = .inr (19, [.ref q665608, .int p665610, .int p665611, .int 6, .int p665613, .int p665614, .int p665615, .ref q666373, .int p665617, .int p665618, .int p665619, .ref qo665620, .ref qo665621, .int p665622]) := e666410
            have hfr666420 : rFr [q665607] P665605 F665606 F666409 := rFr_put' List.mem_cons_self hfr666405 n666411
            clear hm666232 hm666233 hm666234 hm666235 hsb666240 he666274 he666275 he666276 he666277 hfr666278 he666286 he666287 he666288 he666289 he666290 hm666291 hm666292 hm666293 hm666294 hm666295 hq666296 hfr666297 hsb666298 hsb666307 hfr666308 he666309 he666310 hm666311 hq666312 hm666313 hm666314 hm666315 hm666316 hm666317 hq666318 hsb666319 he666320 he666321 he666322 he666323 hfr666324 hne666325 hfr666340 he666341 he666342 bf666333 he666343 he666344 he666345 he666346 hfr666347 ez666348 bz666348 hfr666360 he666361 he666362 bf666355 he666363 he666364 he666365 he666366 hfr666367 hsb666382 hfr666383 he666384 he666385 he666386 he666387 hq666389 hq666391 hm666396 hm666397 he666401 he666402 he666403 he666404 hfr666405 hne666408 he666416 he666417; try clear r666302; try clear w666303; try clear dc666299; try clear ds666300; try clear hp666301; try clear r666330; try clear w666331; try clear dc666327; try clear ds666328; try clear hp666329; try clear x666335; try clear x666336; try clear r666352; try clear w666353; try clear dc666349; try clear ds666350; try clear hp666351; try clear r666371; try clear w666372; try clear dc666368; try clear ds666369; try clear hp666370; try clear x666378
            refine G_aload_n 2 dr_cX14_symbol_195 rfl ?_
            refine G_dup dr_cX14_symbol_196 rfl ?_
            refine Gp_get 2 hm666392 he666419 dr_cX14_symbol_197 (gk_X14 D I) (Nat.le_of_ble_eq_true rfl) wr_9_38 rfl ?_
            refine G_iload_n 0 dr_cX14_symbol_200 rfl ?_
            refine G_if_eq 208 dr_cX14_symbol_201 (by decide +kernel) (fun _ => ?_) (fun hc => absurd hc (by decide))
            refine G_iconst 1 dr_cX14_symbol_208 (by decide +kernel) ?_
            refine G_iadd dr_cX14_symbol_209 (G_eqi (y := z665947) hz665947.symm ?_)
            refine Gp_put 2 hm666392 he666419 dr_cX14_symbol_210 (gk_X14 D I) (Nat.le_of_ble_eq_true rfl) wr_9_38 rfl rfl rfl (Nat.le_of_ble_eq_true rfl) (fun F666421 e666422 n666423 => ?_)
            have he666424 : F666421 q665608 = .inl (I .byte, 8192, .inl f665623) := (n666423 q665608 (rn_ao he666412 he666419)).trans he666412
            have he666425 : F666421 q666057 = .inr (0, [.ref q666058, .int 0, .int 0, .int 0]) := (n666423 q666057 (fun h => hq666080 (h ▸ hmq665607))).trans he666413
            have he666426 : F666421 q666058 = .inl (I .byte, n666059, .inl f666060) := (n666423 q666058 (fun h => hq666081 (h ▸ hmq665607))).trans he666414
            have he666427 : F666421 q666373 = .inr (0, [.ref q666374, .int 0, .int 0, .int 0]) := (n666423 q666373 (fun h => hq666398 (h ▸ hmq665607))).trans he666415
            have he666428 : F666421 q666374 = .inl (I .byte, n666375, .inl f666376) := (n666423 q666374 (fun h => hq666399 (h ▸ hmq665607))).trans he666418
            have he666429 : F666421 q665607 = .inr (19, [.ref q665608, .int p665610, .int z665947, .int 6, .int p665613, .int p665614, .int p665615, .ref q666373, .int p665617, .int p665618, .int p665619, .ref qo665620, .ref qo665621, .int p665622]) := e666422
            have hfr666430 : rFr [q665607] P665605 F665606 F666421 := rFr_put' List.mem_cons_self hfr666420 n666423
            exact G_vretA dr_cX14_symbol_213 rfl (show 12 ≤ ((16 * (p665610.toInt - p665611.toInt)).toNat) by omega) (show 20 + (o666040.toInt.toNat + 4) + 0 + 4 + 16 + 0 + 0 + 0 + (o666192.toInt.toNat + 4) + 0 + 0 + 4 + 16 + 0 + 0 + (o666354.toInt.toNat + 4) ≤ ((160 * (p665610.toInt - p665611.toInt)).toNat) by omega) ⟨P666380, F666421, z665947, 6, q666373, (0, fun _ => 0), rfl, rfl, hsb666400, hfr666430, he666429, he666424, (by omega), (by omega), (gB_w bz665947' (by decide) (by decide)), (gB_w (gBl (show Int32.toInt 6 = 6 by decide)) (by decide) (by decide)), (by have qa0 : Int32.toInt 0 = 0 := (by decide); have qa1 : Int32.toInt 6 = 6 := (by decide); omega), (by have qa0 : Int32.toInt 0 = 0 := (by decide); have qa1 : Int32.toInt 6 = 6 := (by decide); omega), (tP_no (by decide) (by decide)), (vP_no (by decide) (by decide)), (fun R c1 c2 c3 c4 c5 c6 => c4 z665947 z665951 o666002 f666003 z666016 o666022 f666023 z666034 o666040 f666041 n666059 f666060 o666092 o666149 f666150 o666170 f666171 o666192 f666193 n666215 f666216 o666254 z666261 o666267 o666332 f666333 z666348 o666354 f666355 n666375 f666376 ez665947 r665950 hz665951 bz665951 r665954 r665957 bo666002 ht666007 hz666016 bo666022 ht666025 hz666034 bo666040 ht666043 ht666063 bo666092 ht666094 bo666149 ht666154 bo666170 ht666175 bo666192 ht666197 ht666219 bo666254 ht666257 r666259 hz666261 bo666267 ht666268 r666270 bo666332 ht666337 hz666348 bo666354 ht666357 ht666379)⟩
          · have r666431 : 0 ≤ o666267.toInt := gj_nlt hc666269 (show Int32.toInt 0 = 0 by decide)
            have bo666267' : gB o666267 0 65534 := ⟨by omega, by omega⟩
            refine G_iconst 5 dr_cX14_symbol_143 (by decide +kernel) ?_
            refine G_goto 149 dr_cX14_symbol_144 (by decide +kernel) ?_
            refine Gp_put 3 hm666232 he666241 dr_cX14_symbol_149 (gk_X14 D I) (Nat.le_of_ble_eq_true rfl) wr_9_39 rfl rfl rfl (Nat.le_of_ble_eq_true rfl) (fun F666432 e666433 n666434 => ?_)
            have he666435 : F666432 q665608 = .inl (I .byte, 8192, .inl f665623) := (n666434 q665608 (rn_ao he666242 he666241)).trans he666242
            have he666436 : F666432 q666057 = .inr (0, [.ref q666058, .int 0, .int 0, .int 0]) := (n666434 q666057 (fun h => hq666080 (h ▸ hmq665607))).trans he666243
            have he666437 : F666432 q666058 = .inl (I .byte, n666059, .inl f666060) := (n666434 q666058 (fun h => hq666081 (h ▸ hmq665607))).trans he666244
            have he666438 : F666432 q665607 = .inr (19, [.ref q665608, .int p665610, .int p665611, .int 5, .int p665613, .int p665614, .int p665615, .ref qo665616, .int p665617, .int p665618, .int p665619, .ref qo665620, .ref qo665621, .int p665622]) := e666433
            have hfr666439 : rFr [q665607] P665605 F665606 F666432 := rFr_put hfr666245 n666434
            clear he666241 he666242 he666243 he666244 hfr666245 ez666261 bz666261 bo666267'; try clear r666265; try clear w666266; try clear dc666262; try clear ds666263; try clear hp666264
            refine G_aload_n 2 dr_cX14_symbol_152 rfl ?_
            refine G_iload_n 0 dr_cX14_symbol_153 rfl ?_
            refine G_if_eq 161 dr_cX14_symbol_154 (by decide +kernel) (fun _ => ?_) (fun hc => absurd hc (by decide))
            refine G_iload_n 3 dr_cX14_symbol_161 rfl ?_
            refine G_bipush 32 dr_cX14_symbol_162 (by decide +kernel) ?_
            refine G_icmp_le 190 dr_cX14_symbol_164 (by decide +kernel) (fun hc => absurd (show False by have := gj_le hc (show Int32.toInt 32 = 32 by decide); omega) not_false) (fun _ => ?_)
            refine G_new [.null, .int 0, .int 0, .int 0] dr_cX14_symbol_167 (gk_J4 D I) wr_7_235 wr_7_44 wr_1_20 (gfs_J4) (Nat.le_trans (show 8 + 1 ≤ 16 by decide) hMC) (show 20 + (o666040.toInt.toNat + 4) + 0 + 4 + 16 + 0 + 0 + 0 + (o666192.toInt.toNat + 4) + 0 + 0 + 4 ≤ ((160 * (p665610.toInt - p665611.toInt)).toNat) by first | omega | decide) (fun q666440 => Gp_in (fun P666441 F666442 hq666443 hP666444 e666445 n666446 => ?_))
            refine G_widen (cs' := 9) (sl' := 20 + (o666040.toInt.toNat + 4) + 0 + 4 + 16 + 0 + 0 + 0 + (o666192.toInt.toNat + 4) + 0 + 0 + 4) (by omega) (by omega) ?_
            have he666447 : F666442 q665607 = .inr (19, [.ref q665608, .int p665610, .int p665611, .int 5, .int p665613, .int p665614, .int p665615, .ref qo665616, .int p665617, .int p665618, .int p665619, .ref qo665620, .ref qo665621, .int p665622]) := (n666446 q665607 (fun h => hq666443 (h ▸ hm666232))).trans he666438
            have he666448 : F666442 q665608 = .inl (I .byte, 8192, .inl f665623) := (n666446 q665608 (fun h => hq666443 (h ▸ hm666233))).trans he666435
            have he666449 : F666442 q666057 = .inr (0, [.ref q666058, .int 0, .int 0, .int 0]) := (n666446 q666057 (fun h => hq666443 (h ▸ hm666234))).trans he666436
            have he666450 : F666442 q666058 = .inl (I .byte, n666059, .inl f666060) := (n666446 q666058 (fun h => hq666443 (h ▸ hm666235))).trans he666437
            have he666451 : F666442 q666440 = .inr (1, [.null, .int 0, .int 0, .int 0]) := e666445
            have hm666452 : q665607 ∈ P666441 := (hP666444 q665607).mpr (Or.inl hm666232)
            have hm666453 : q665608 ∈ P666441 := (hP666444 q665608).mpr (Or.inl hm666233)
            have hm666454 : q666057 ∈ P666441 := (hP666444 q666057).mpr (Or.inl hm666234)
            have hm666455 : q666058 ∈ P666441 := (hP666444 q666058).mpr (Or.inl hm666235)
            have hm666456 : q666440 ∈ P666441 := (hP666444 q666440).mpr (Or.inr rfl)
            have hq666457 : q666440 ∉ P665605 := fun z => hq666443 (hsb666240 q666440 z)
            have hfr666458 : rFr [q665607] P665605 F665606 F666442 := rFr_new hsb666240 hq666443 hfr666439 n666446
            have hsb666459 : rSub P665605 P666441 := rSub_new hsb666240 hP666444
            refine G_dup dr_cX14_symbol_170 rfl ?_
            refine Gw_callI (As := []) (gV_ok D I) (cp_655881_StringBuilder_init l hl0 D I P666441 F666442 q666440 0 0 hm666456 he666451 (gB_w (gBl (show Int32.toInt 0 = 0 by decide)) (by decide) (by decide)) (gB_w (gBl (show Int32.toInt 0 = 0 by decide)) (by decide) (by decide))) dr_cX14_symbol_171 ⟨wr_7_236, wr_1_20, wr_7_47, by decide, rfl, (Nat.le_of_ble_eq_true rfl), (Nat.le_of_ble_eq_true rfl)⟩ wr_7_46 rfl (Nat.le_trans (show 9 + 1 ≤ 16 by decide) hMC) (show 20 + (o666040.toInt.toNat + 4) + 0 + 4 + 16 + 0 + 0 + 0 + (o666192.toInt.toNat + 4) + 0 + 0 + 4 + 16 ≤ ((160 * (p665610.toInt - p665611.toInt)).toNat) by first | omega | decide) (Nat.le_of_ble_eq_true rfl) (fun r666463 w666464 dc666460 ds666461 hp666462 => ?_)
            obtain ⟨P666466, F666467, q666465, rfl, rfl, hsb666468, hfr666469, he666470, he666471, hm666472, hq666473, hdc, hds⟩ := hp666462
            have hm666474 : q665607 ∈ P666466 := hsb666468 q665607 hm666452
            have hm666475 : q665608 ∈ P666466 := hsb666468 q665608 hm666453
            have hm666476 : q666057 ∈ P666466 := hsb666468 q666057 hm666454
            have hm666477 : q666058 ∈ P666466 := hsb666468 q666058 hm666455
            have hm666478 : q666440 ∈ P666466 := hsb666468 q666440 hm666456
            have hq666479 : q666465 ∉ P665605 := fun z => hq666473 (hsb666459 q666465 z)
            have hsb666480 : rSub P665605 P666466 := rSub_tr hsb666459 hsb666468
            have he666481 : F666467 q665607 = .inr (19, [.ref q665608, .int p665610, .int p665611, .int 5, .int p665613, .int p665614, .int p665615, .ref qo665616, .int p665617, .int p665618, .int p665619, .ref qo665620, .ref qo665621, .int p665622]) := (hfr666469 q665607 hm666452 (nm_c (fun h => hq666457 (h ▸ hmq665607)) nm_n)).trans he666447
            have he666482 : F666467 q665608 = .inl (I .byte, 8192, .inl f665623) := (hfr666469 q665608 hm666453 (nm_c (fun h => hq666457 (h ▸ hmq665608)) nm_n)).trans he666448
            have he666483 : F666467 q666057 = .inr (0, [.ref q666058, .int 0, .int 0, .int 0]) := (hfr666469 q666057 hm666454 (nm_c (rn_oo he666449 he666451 (by decide)) nm_n)).trans he666449
            have he666484 : F666467 q666058 = .inl (I .byte, n666059, .inl f666060) := (hfr666469 q666058 hm666455 (nm_c (rn_ao he666450 he666451) nm_n)).trans he666450
            have hfr666485 : rFr [q665607] P665605 F665606 F666467 := rFr_call hsb666459 hfr666458 hfr666469 (fun b hb hn => ⟨(nm_c (fun e => hn (e ▸ List.mem_cons_self)) nm_n), (nm_c (fun e => hq666457 (e ▸ hb)) nm_n)⟩)
            have hne666486 : q666058 ≠ q666465 := fun h => hq666473 (h ▸ hm666455)
            change G _ _ _ _ _ _ _ _ _ _ _
            refine G_widen (cs' := 10) (sl' := 20 + (o666040.toInt.toNat + 4) + 0 + 4 + 16 + 0 + 0 + 0 + (o666192.toInt.toNat + 4) + 0 + 0 + 4 + 16) (Nat.add_le_add_left hdc 9) (by omega) ?_
            refine G_ldcK (a := D.2 1000 32) dr_cX14_symbol_174 (fun _ _ _ h => gx_vk 32 rfl rfl h) ?_
            have hl32_666486 : (sb_32.length : Int) = 0 := rfl
            refine Gw_callV (As := [.ref (D.2 1000 32)]) (gV_ok D I) (cp_656183_StringBuilder_append l hl0 D I P666466 F666467 q666440 q666465 (D.2 1000 32) (D.2 1001 32) sb_32 0 0 (fun _ => 0) 16 hm666478 hm666472 he666470 he666471 (gx_sc 32 rfl rfl) (by omega) (by decide +kernel) (gB_w (gBl (show Int32.toInt 0 = 0 by decide)) (by decide) (by decide)) (gB_w (gBl (show Int32.toInt 0 = 0 by decide)) (by decide) (by decide)) (gF_w gF_0 (by decide) (by decide)) (by have qa0 : Int32.toInt 0 = 0 := (by decide); have qa1 : Int32.toInt 5 = 5 := (by decide); omega) (by have qa0 : Int32.toInt 0 = 0 := (by decide); have qa1 : Int32.toInt 5 = 5 := (by decide); omega)) dr_cX14_symbol_176 ⟨wr_8_195, wr_1_20, wr_8_143, by decide, rfl, (Nat.le_of_ble_eq_true rfl), (Nat.le_of_ble_eq_true rfl)⟩ wr_8_141 wr_8_142 hm666478 he666470 rfl (Nat.le_trans (show 10 + 0 ≤ 16 by decide) hMC) (show 20 + (o666040.toInt.toNat + 4) + 0 + 4 + 16 + 0 + 0 + 0 + (o666192.toInt.toNat + 4) + 0 + 0 + 4 + 16 + 0 ≤ ((160 * (p665610.toInt - p665611.toInt)).toNat) by first | omega | decide) (Nat.le_of_ble_eq_true rfl) (fun r666491 w666492 dc666488 ds666489 hp666490 => ?_) (fun _ _ _ _ _ z => z.elim)
            obtain ⟨F666499, o666493, f666494, rfl, rfl, hfr666501, he666502, he666503, hdc, hds, bo666493, bf666494, x666495, x666496, x666497, ht666498⟩ := hp666490
            have he666504 : F666499 q665607 = .inr (19, [.ref q665608, .int p665610, .int p665611, .int 5, .int p665613, .int p665614, .int p665615, .ref qo665616, .int p665617, .int p665618, .int p665619, .ref qo665620, .ref qo665621, .int p665622]) := (hfr666501 q665607 hm666474 (nm_c (fun h => hq666457 (h ▸ hmq665607)) (nm_c (fun h => hq666479 (h ▸ hmq665607)) nm_n))).trans he666481
            have he666505 : F666499 q665608 = .inl (I .byte, 8192, .inl f665623) := (hfr666501 q665608 hm666475 (nm_c (fun h => hq666457 (h ▸ hmq665608)) (nm_c (fun h => hq666479 (h ▸ hmq665608)) nm_n))).trans he666482
            have he666506 : F666499 q666057 = .inr (0, [.ref q666058, .int 0, .int 0, .int 0]) := (hfr666501 q666057 hm666476 (nm_c (rn_oo he666483 he666470 (by decide)) (nm_c (rn_oa he666483 he666471) nm_n))).trans he666483
            have he666507 : F666499 q666058 = .inl (I .byte, n666059, .inl f666060) := (hfr666501 q666058 hm666477 (nm_c (rn_ao he666484 he666470) (nm_c hne666486 nm_n))).trans he666484
            have hfr666508 : rFr [q665607] P665605 F665606 F666499 := rFr_call hsb666480 hfr666485 hfr666501 (fun b hb hn => ⟨(nm_c (fun e => hn (e ▸ List.mem_cons_self)) nm_n), (nm_c (fun e => hq666457 (e ▸ hb)) (nm_c (fun e => hq666479 (e ▸ hb)) nm_n))⟩)
            rw [show Int32.toInt 0 = 0 from by decide] at x666495
            have bo666493' : gB o666493 0 0 := ⟨by omega, by omega⟩
            rw [show Int32.toInt 0 = 0 from by decide] at x666496
            rw [show Int32.toInt 0 = 0 from by decide] at x666497
            change G _ _ _ _ _ _ _ (.ref q666440 :: _) _ _ _
            refine G_widen (cs' := 10) (sl' := 20 + (o666040.toInt.toNat + 4) + 0 + 4 + 16 + 0 + 0 + 0 + (o666192.toInt.toNat + 4) + 0 + 0 + 4 + 16 + 0) (Nat.add_le_add_left hdc 10) (by omega) ?_
            refine G_iload_n 3 dr_cX14_symbol_179 rfl ?_
            refine G_i2c dr_cX14_symbol_180 (G_nam fun z666509 hz666509 => ?_)
            have ez666509 : z666509.toInt = p665609.toInt := gI_i2c hz666509 (by omega) (by omega)
            have bz666509 : gB z666509 33 127 := ⟨by omega, by omega⟩
            refine Gw_callV (As := [.int z666509]) (gV_ok D I) (cp_655442_StringBuilder_append l hl0 D I P666466 F666499 q666440 q666465 z666509 0 o666493 f666494 16 hm666478 hm666472 he666502 he666503 (gB_w bz666509 (by decide) (by decide)) (gB_w (gBl (show Int32.toInt 0 = 0 by decide)) (by decide) (by decide)) (gB_w bo666493' (by decide) (by decide)) bf666494 (by have qa0 : Int32.toInt 0 = 0 := (by decide); have qa1 : Int32.toInt 5 = 5 := (by decide); omega) (by have qa0 : Int32.toInt 0 = 0 := (by decide); have qa1 : Int32.toInt 5 = 5 := (by decide); omega)) dr_cX14_symbol_181 ⟨wr_7_237, wr_1_20, wr_8_0, by decide, rfl, (Nat.le_of_ble_eq_true rfl), (Nat.le_of_ble_eq_true rfl)⟩ wr_7_238 wr_7_239 hm666478 he666502 rfl (Nat.le_trans (show 10 + 0 ≤ 16 by decide) hMC) (show 20 + (o666040.toInt.toNat + 4) + 0 + 4 + 16 + 0 + 0 + 0 + (o666192.toInt.toNat + 4) + 0 + 0 + 4 + 16 + 0 + 0 ≤ ((160 * (p665610.toInt - p665611.toInt)).toNat) by first | omega | decide) (Nat.le_of_ble_eq_true rfl) (fun r666513 w666514 dc666510 ds666511 hp666512 => ?_) (fun _ _ _ _ _ z => z.elim)
            obtain ⟨F666519, o666515, f666516, rfl, rfl, hfr666521, he666522, he666523, hdc, hds, bo666515, bf666516, x666517, ht666518⟩ := hp666512
            have he666524 : F666519 q665607 = .inr (19, [.ref q665608, .int p665610, .int p665611, .int 5, .int p665613, .int p665614, .int p665615, .ref qo665616, .int p665617, .int p665618, .int p665619, .ref qo665620, .ref qo665621, .int p665622]) := (hfr666521 q665607 hm666474 (nm_c (fun h => hq666479 (h ▸ hmq665607)) (nm_c (fun h => hq666457 (h ▸ hmq665607)) nm_n))).trans he666504
            have he666525 : F666519 q665608 = .inl (I .byte, 8192, .inl f665623) := (hfr666521 q665608 hm666475 (nm_c (fun h => hq666479 (h ▸ hmq665608)) (nm_c (fun h => hq666457 (h ▸ hmq665608)) nm_n))).trans he666505
            have he666526 : F666519 q666057 = .inr (0, [.ref q666058, .int 0, .int 0, .int 0]) := (hfr666521 q666057 hm666476 (nm_c (rn_oa he666506 he666503) (nm_c (rn_oo he666506 he666502 (by decide)) nm_n))).trans he666506
            have he666527 : F666519 q666058 = .inl (I .byte, n666059, .inl f666060) := (hfr666521 q666058 hm666477 (nm_c hne666486 (nm_c (rn_ao he666507 he666502) nm_n))).trans he666507
            have hfr666528 : rFr [q665607] P665605 F665606 F666519 := rFr_call hsb666480 hfr666508 hfr666521 (fun b hb hn => ⟨(nm_c (fun e => hn (e ▸ List.mem_cons_self)) nm_n), (nm_c (fun e => hq666479 (e ▸ hb)) (nm_c (fun e => hq666457 (e ▸ hb)) nm_n))⟩)
            have bo666515' : gB o666515 1 1 := ⟨by omega, by omega⟩
            change G _ _ _ _ _ _ _ (.ref q666440 :: _) _ _ _
            refine G_widen (cs' := 10) (sl' := 20 + (o666040.toInt.toNat + 4) + 0 + 4 + 16 + 0 + 0 + 0 + (o666192.toInt.toNat + 4) + 0 + 0 + 4 + 16 + 0 + 0) (Nat.add_le_add_left hdc 10) (by omega) ?_
            refine Gw_callV (As := []) (gV_ok D I) (cp_656656_StringBuilder_toString l hl0 D I P666466 F666519 q666440 q666465 0 o666515 f666516 16 hm666478 hm666472 he666522 he666523 (gB_w (gBl (show Int32.toInt 0 = 0 by decide)) (by decide) (by decide)) (gB_w bo666515' (by decide) (by decide)) bf666516 (by have qa0 : Int32.toInt 0 = 0 := (by decide); have qa1 : Int32.toInt 5 = 5 := (by decide); omega) (by have qa0 : Int32.toInt 0 = 0 := (by decide); have qa1 : Int32.toInt 5 = 5 := (by decide); omega)) dr_cX14_symbol_184 ⟨wr_8_66, wr_1_20, wr_8_69, by decide, rfl, (Nat.le_of_ble_eq_true rfl), (Nat.le_of_ble_eq_true rfl)⟩ wr_8_67 wr_8_68 hm666478 he666522 rfl (Nat.le_trans (show 10 + 2 ≤ 16 by decide) hMC) (show 20 + (o666040.toInt.toNat + 4) + 0 + 4 + 16 + 0 + 0 + 0 + (o666192.toInt.toNat + 4) + 0 + 0 + 4 + 16 + 0 + 0 + (o666515.toInt.toNat + 4) ≤ ((160 * (p665610.toInt - p665611.toInt)).toNat) by first | omega | decide) (Nat.le_of_ble_eq_true rfl) (fun r666532 w666533 dc666529 ds666530 hp666531 => ?_) (fun _ _ _ _ _ z => z.elim)
            obtain ⟨P666541, F666542, q666534, q666535, n666536, f666537, rfl, rfl, hsb666543, hfr666544, he666545, he666546, he666547, he666548, hm666549, hq666550, hm666551, hq666552, hdc, hds, bf666537, x666538, x666539, ht666540⟩ := hp666531
            have hm666553 : q665607 ∈ P666541 := hsb666543 q665607 hm666474
            have hm666554 : q665608 ∈ P666541 := hsb666543 q665608 hm666475
            have hm666555 : q666057 ∈ P666541 := hsb666543 q666057 hm666476
            have hm666556 : q666058 ∈ P666541 := hsb666543 q666058 hm666477
            have hm666557 : q666440 ∈ P666541 := hsb666543 q666440 hm666478
            have hm666558 : q666465 ∈ P666541 := hsb666543 q666465 hm666472
            have hq666559 : q666534 ∉ P665605 := fun z => hq666550 (hsb666480 q666534 z)
            have hq666560 : q666535 ∉ P665605 := fun z => hq666552 (hsb666480 q666535 z)
            have hsb666561 : rSub P665605 P666541 := rSub_tr hsb666480 hsb666543
            have he666562 : F666542 q665607 = .inr (19, [.ref q665608, .int p665610, .int p665611, .int 5, .int p665613, .int p665614, .int p665615, .ref qo665616, .int p665617, .int p665618, .int p665619, .ref qo665620, .ref qo665621, .int p665622]) := (hfr666544 q665607 hm666474 nm_n).trans he666524
            have he666563 : F666542 q665608 = .inl (I .byte, 8192, .inl f665623) := (hfr666544 q665608 hm666475 nm_n).trans he666525
            have he666564 : F666542 q666057 = .inr (0, [.ref q666058, .int 0, .int 0, .int 0]) := (hfr666544 q666057 hm666476 nm_n).trans he666526
            have he666565 : F666542 q666058 = .inl (I .byte, n666059, .inl f666060) := (hfr666544 q666058 hm666477 nm_n).trans he666527
            have hfr666566 : rFr [q665607] P665605 F665606 F666542 := rFr_call hsb666480 hfr666528 hfr666544 (fun b hb hn => ⟨(nm_c (fun e => hn (e ▸ List.mem_cons_self)) nm_n), nm_n⟩)
            have hne666567 : q666057 ≠ q666534 := fun h => hq666550 (h ▸ hm666476)
            have hne666568 : q666058 ≠ q666535 := fun h => hq666552 (h ▸ hm666477)
            have hne666569 : q666465 ≠ q666535 := fun h => hq666552 (h ▸ hm666472)
            change G _ _ _ _ _ _ _ (.ref q666534 :: _) _ _ _
            refine G_widen (cs' := 12) (sl' := 20 + (o666040.toInt.toNat + 4) + 0 + 4 + 16 + 0 + 0 + 0 + (o666192.toInt.toNat + 4) + 0 + 0 + 4 + 16 + 0 + 0 + (o666515.toInt.toNat + 4)) (Nat.add_le_add_left hdc 10) (by omega) ?_
            refine G_goto 192 dr_cX14_symbol_187 (by decide +kernel) ?_
            refine Gp_put 7 hm666553 he666562 dr_cX14_symbol_192 (gk_X14 D I) (Nat.le_of_ble_eq_true rfl) wr_9_43 rfl rfl rfl (Nat.le_of_ble_eq_true rfl) (fun F666570 e666571 n666572 => ?_)
            have he666573 : F666570 q665608 = .inl (I .byte, 8192, .inl f665623) := (n666572 q665608 (rn_ao he666563 he666562)).trans he666563
            have he666574 : F666570 q666057 = .inr (0, [.ref q666058, .int 0, .int 0, .int 0]) := (n666572 q666057 (fun h => hq666080 (h ▸ hmq665607))).trans he666564
            have he666575 : F666570 q666058 = .inl (I .byte, n666059, .inl f666060) := (n666572 q666058 (fun h => hq666081 (h ▸ hmq665607))).trans he666565
            have he666576 : F666570 q666534 = .inr (0, [.ref q666535, .int 0, .int 0, .int 0]) := (n666572 q666534 (fun h => hq666559 (h ▸ hmq665607))).trans he666545
            have he666577 : F666570 q666440 = .inr (1, [.ref q666465, .int 0, .int 0, .int o666515]) := (n666572 q666440 (fun h => hq666457 (h ▸ hmq665607))).trans he666546
            have he666578 : F666570 q666465 = .inl (I .byte, 16, .inl f666516) := (n666572 q666465 (fun h => hq666479 (h ▸ hmq665607))).trans he666547
            have he666579 : F666570 q666535 = .inl (I .byte, n666536, .inl f666537) := (n666572 q666535 (fun h => hq666560 (h ▸ hmq665607))).trans he666548
            have he666580 : F666570 q665607 = .inr (19, [.ref q665608, .int p665610, .int p665611, .int 5, .int p665613, .int p665614, .int p665615, .ref q666534, .int p665617, .int p665618, .int p665619, .ref qo665620, .ref qo665621, .int p665622]) := e666571
            have hfr666581 : rFr [q665607] P665605 F665606 F666570 := rFr_put' List.mem_cons_self hfr666566 n666572
            clear hm666232 hm666233 hm666234 hm666235 hsb666240 he666435 he666436 he666437 he666438 hfr666439 he666447 he666448 he666449 he666450 he666451 hm666452 hm666453 hm666454 hm666455 hm666456 hq666457 hfr666458 hsb666459 hsb666468 hfr666469 he666470 he666471 hm666472 hq666473 hm666474 hm666475 hm666476 hm666477 hm666478 hq666479 hsb666480 he666481 he666482 he666483 he666484 hfr666485 hne666486 hfr666501 he666502 he666503 bf666494 he666504 he666505 he666506 he666507 hfr666508 ez666509 bz666509 hfr666521 he666522 he666523 bf666516 he666524 he666525 he666526 he666527 hfr666528 hsb666543 hfr666544 he666545 he666546 he666547 he666548 hq666550 hq666552 hm666557 hm666558 he666562 he666563 he666564 he666565 hfr666566 hne666569 he666577 he666578; try clear r666463; try clear w666464; try clear dc666460; try clear ds666461; try clear hp666462; try clear r666491; try clear w666492; try clear dc666488; try clear ds666489; try clear hp666490; try clear x666496; try clear x666497; try clear r666513; try clear w666514; try clear dc666510; try clear ds666511; try clear hp666512; try clear r666532; try clear w666533; try clear dc666529; try clear ds666530; try clear hp666531; try clear x666539
            refine G_aload_n 2 dr_cX14_symbol_195 rfl ?_
            refine G_dup dr_cX14_symbol_196 rfl ?_
            refine Gp_get 2 hm666553 he666580 dr_cX14_symbol_197 (gk_X14 D I) (Nat.le_of_ble_eq_true rfl) wr_9_38 rfl ?_
            refine G_iload_n 0 dr_cX14_symbol_200 rfl ?_
            refine G_if_eq 208 dr_cX14_symbol_201 (by decide +kernel) (fun _ => ?_) (fun hc => absurd hc (by decide))
            refine G_iconst 1 dr_cX14_symbol_208 (by decide +kernel) ?_
            refine G_iadd dr_cX14_symbol_209 (G_eqi (y := z665947) hz665947.symm ?_)
            refine Gp_put 2 hm666553 he666580 dr_cX14_symbol_210 (gk_X14 D I) (Nat.le_of_ble_eq_true rfl) wr_9_38 rfl rfl rfl (Nat.le_of_ble_eq_true rfl) (fun F666582 e666583 n666584 => ?_)
            have he666585 : F666582 q665608 = .inl (I .byte, 8192, .inl f665623) := (n666584 q665608 (rn_ao he666573 he666580)).trans he666573
            have he666586 : F666582 q666057 = .inr (0, [.ref q666058, .int 0, .int 0, .int 0]) := (n666584 q666057 (fun h => hq666080 (h ▸ hmq665607))).trans he666574
            have he666587 : F666582 q666058 = .inl (I .byte, n666059, .inl f666060) := (n666584 q666058 (fun h => hq666081 (h ▸ hmq665607))).trans he666575
            have he666588 : F666582 q666534 = .inr (0, [.ref q666535, .int 0, .int 0, .int 0]) := (n666584 q666534 (fun h => hq666559 (h ▸ hmq665607))).trans he666576
            have he666589 : F666582 q666535 = .inl (I .byte, n666536, .inl f666537) := (n666584 q666535 (fun h => hq666560 (h ▸ hmq665607))).trans he666579
            have he666590 : F666582 q665607 = .inr (19, [.ref q665608, .int p665610, .int z665947, .int 5, .int p665613, .int p665614, .int p665615, .ref q666534, .int p665617, .int p665618, .int p665619, .ref qo665620, .ref qo665621, .int p665622]) := e666583
            have hfr666591 : rFr [q665607] P665605 F665606 F666582 := rFr_put' List.mem_cons_self hfr666581 n666584
            exact G_vretA dr_cX14_symbol_213 rfl (show 12 ≤ ((16 * (p665610.toInt - p665611.toInt)).toNat) by omega) (show 20 + (o666040.toInt.toNat + 4) + 0 + 4 + 16 + 0 + 0 + 0 + (o666192.toInt.toNat + 4) + 0 + 0 + 4 + 16 + 0 + 0 + (o666515.toInt.toNat + 4) ≤ ((160 * (p665610.toInt - p665611.toInt)).toNat) by omega) ⟨P666541, F666582, z665947, 5, q666534, (n666536, f666537), rfl, rfl, hsb666561, hfr666591, he666590, he666585, (by omega), (by omega), (gB_w bz665947' (by decide) (by decide)), (gB_w (gBl (show Int32.toInt 5 = 5 by decide)) (by decide) (by decide)), (by have qa0 : Int32.toInt 0 = 0 := (by decide); have qa1 : Int32.toInt 5 = 5 := (by decide); omega), (by have qa0 : Int32.toInt 0 = 0 := (by decide); have qa1 : Int32.toInt 5 = 5 := (by decide); omega), (tP_5 hm666549 he666588 hm666551 he666589 bf666537 (by omega) (gB_w (gBl (show Int32.toInt 0 = 0 by decide)) (by decide) (by decide)) (fun e => hq666560 (e ▸ x665626)) (fun e => hq666560 (e ▸ x665627))), (vP_no (by decide) (by decide)), (fun R c1 c2 c3 c4 c5 c6 => c5 z665947 z665951 o666002 f666003 z666016 o666022 f666023 z666034 o666040 f666041 n666059 f666060 o666092 o666149 f666150 o666170 f666171 o666192 f666193 n666215 f666216 o666254 z666261 o666267 o666493 f666494 z666509 o666515 f666516 n666536 f666537 ez665947 r665950 hz665951 bz665951 r665954 r665957 bo666002 ht666007 hz666016 bo666022 ht666025 hz666034 bo666040 ht666043 ht666063 bo666092 ht666094 bo666149 ht666154 bo666170 ht666175 bo666192 ht666197 ht666219 bo666254 ht666257 r666259 hz666261 bo666267 ht666268 r666431 bo666493 ht666498 hz666509 bo666515 ht666518 ht666540)⟩
        · have r666592 : 0 ≤ o666254.toInt := gj_nlt hc666258 (show Int32.toInt 0 = 0 by decide)
          have bo666254' : gB o666254 0 16777215 := ⟨by omega, by omega⟩
          refine G_iconst 1 dr_cX14_symbol_116 (by decide +kernel) ?_
          refine G_goto 121 dr_cX14_symbol_117 (by decide +kernel) ?_
          refine G_istore_n (L' := [(3, .int 1), (2, .ref q666057), (0, .ref q665607), (1, .int p665609)]) dr_cX14_symbol_121 (Nat.le_of_ble_eq_true rfl) rfl ?_
          clear he666068 he666071 hm666072 hm666074 hm666076 hm666077 hsb666082 he666083 he666084 hfr666085 he666103 he666104 he666105 he666106 he666107 hm666108 hm666109 hm666110 hm666111 hm666112 hq666113 hfr666114 hsb666115 hsb666124 hfr666125 he666126 he666127 hm666128 hq666129 hm666130 hm666131 hm666132 hm666133 hm666134 hq666135 hsb666136 he666137 he666138 he666139 he666140 hfr666141 hne666142 hfr666157 he666158 he666159 bf666150 he666160 he666161 he666162 he666163 hfr666164 hfr666178 he666179 he666180 he666181 he666182 bf666171 he666183 he666184 hfr666185 hfr666200 he666201 he666202 bf666193 he666203 he666204 he666205 he666206 hfr666207 hsb666222 hfr666223 he666224 he666225 he666226 he666227 hm666228 hq666229 hm666230 hq666231 bf666216 hm666236 hm666237 hq666238 hq666239 hne666246 hne666247 hne666248; try clear r666119; try clear w666120; try clear dc666116; try clear ds666117; try clear hp666118; try clear r666147; try clear w666148; try clear dc666144; try clear ds666145; try clear hp666146; try clear x666152; try clear x666153; try clear r666168; try clear w666169; try clear dc666165; try clear ds666166; try clear hp666167; try clear x666173; try clear x666174; try clear r666190; try clear w666191; try clear dc666187; try clear ds666188; try clear hp666189; try clear x666195; try clear x666196; try clear r666211; try clear w666212; try clear dc666208; try clear ds666209; try clear hp666210; try clear x666218; try clear r666252; try clear w666253; try clear dc666249; try clear ds666250; try clear hp666251; try clear x666256
          refine G_aload_n 2 dr_cX14_symbol_122 rfl ?_
          refine G_iload_n 0 dr_cX14_symbol_123 rfl ?_
          refine G_if_ne 143 dr_cX14_symbol_124 (by decide +kernel) (fun _ => ?_) (fun hc => absurd hc (by decide))
          refine G_iconst 5 dr_cX14_symbol_143 (by decide +kernel) ?_
          refine G_goto 149 dr_cX14_symbol_144 (by decide +kernel) ?_
          refine Gp_put 3 hm666232 he666241 dr_cX14_symbol_149 (gk_X14 D I) (Nat.le_of_ble_eq_true rfl) wr_9_39 rfl rfl rfl (Nat.le_of_ble_eq_true rfl) (fun F666593 e666594 n666595 => ?_)
          have he666596 : F666593 q665608 = .inl (I .byte, 8192, .inl f665623) := (n666595 q665608 (rn_ao he666242 he666241)).trans he666242
          have he666597 : F666593 q666057 = .inr (0, [.ref q666058, .int 0, .int 0, .int 0]) := (n666595 q666057 (fun h => hq666080 (h ▸ hmq665607))).trans he666243
          have he666598 : F666593 q666058 = .inl (I .byte, n666059, .inl f666060) := (n666595 q666058 (fun h => hq666081 (h ▸ hmq665607))).trans he666244
          have he666599 : F666593 q665607 = .inr (19, [.ref q665608, .int p665610, .int p665611, .int 5, .int p665613, .int p665614, .int p665615, .ref qo665616, .int p665617, .int p665618, .int p665619, .ref qo665620, .ref qo665621, .int p665622]) := e666594
          have hfr666600 : rFr [q665607] P665605 F665606 F666593 := rFr_put hfr666245 n666595
          clear he666241 he666242 he666243 he666244 hfr666245
          refine G_aload_n 2 dr_cX14_symbol_152 rfl ?_
          refine G_iload_n 0 dr_cX14_symbol_153 rfl ?_
          refine G_if_eq 161 dr_cX14_symbol_154 (by decide +kernel) (fun hc => absurd hc (by decide)) (fun _ => ?_)
          refine G_aload_n 1 dr_cX14_symbol_157 rfl ?_
          refine G_goto 192 dr_cX14_symbol_158 (by decide +kernel) ?_
          refine Gp_put 7 hm666232 he666599 dr_cX14_symbol_192 (gk_X14 D I) (Nat.le_of_ble_eq_true rfl) wr_9_43 rfl rfl rfl (Nat.le_of_ble_eq_true rfl) (fun F666601 e666602 n666603 => ?_)
          have he666604 : F666601 q665608 = .inl (I .byte, 8192, .inl f665623) := (n666603 q665608 (rn_ao he666596 he666599)).trans he666596
          have he666605 : F666601 q666057 = .inr (0, [.ref q666058, .int 0, .int 0, .int 0]) := (n666603 q666057 (fun h => hq666080 (h ▸ hmq665607))).trans he666597
          have he666606 : F666601 q666058 = .inl (I .byte, n666059, .inl f666060) := (n666603 q666058 (fun h => hq666081 (h ▸ hmq665607))).trans he666598
          have he666607 : F666601 q665607 = .inr (19, [.ref q665608, .int p665610, .int p665611, .int 5, .int p665613, .int p665614, .int p665615, .ref q666057, .int p665617, .int p665618, .int p665619, .ref qo665620, .ref qo665621, .int p665622]) := e666602
          have hfr666608 : rFr [q665607] P665605 F665606 F666601 := rFr_put' List.mem_cons_self hfr666600 n666603
          clear he666596 he666597 he666598 he666599 hfr666600
          refine G_aload_n 2 dr_cX14_symbol_195 rfl ?_
          refine G_dup dr_cX14_symbol_196 rfl ?_
          refine Gp_get 2 hm666232 he666607 dr_cX14_symbol_197 (gk_X14 D I) (Nat.le_of_ble_eq_true rfl) wr_9_38 rfl ?_
          refine G_iload_n 0 dr_cX14_symbol_200 rfl ?_
          refine G_if_eq 208 dr_cX14_symbol_201 (by decide +kernel) (fun hc => absurd hc (by decide)) (fun _ => ?_)
          refine G_iconst 2 dr_cX14_symbol_204 (by decide +kernel) ?_
          refine G_goto 209 dr_cX14_symbol_205 (by decide +kernel) ?_
          refine G_iadd dr_cX14_symbol_209 (G_nam fun z666609 hz666609 => ?_)
          have ez666609 : z666609.toInt = p665611.toInt + 2 := by rw [gI_add hz666609 bp665611 (gBl (show Int32.toInt 2 = 2 by decide)) (by decide) (by decide), show Int32.toInt 2 = 2 from by decide]
          have bz666609 : gB z666609 2 8194 := gB_add (gI_add hz666609 bp665611 (gBl (show Int32.toInt 2 = 2 by decide)) (by decide) (by decide)) bp665611 (gBl (show Int32.toInt 2 = 2 by decide)) (by decide) (by decide)
          refine Gp_put 2 hm666232 he666607 dr_cX14_symbol_210 (gk_X14 D I) (Nat.le_of_ble_eq_true rfl) wr_9_38 rfl rfl rfl (Nat.le_of_ble_eq_true rfl) (fun F666610 e666611 n666612 => ?_)
          have he666613 : F666610 q665608 = .inl (I .byte, 8192, .inl f665623) := (n666612 q665608 (rn_ao he666604 he666607)).trans he666604
          have he666614 : F666610 q666057 = .inr (0, [.ref q666058, .int 0, .int 0, .int 0]) := (n666612 q666057 (fun h => hq666080 (h ▸ hmq665607))).trans he666605
          have he666615 : F666610 q666058 = .inl (I .byte, n666059, .inl f666060) := (n666612 q666058 (fun h => hq666081 (h ▸ hmq665607))).trans he666606
          have he666616 : F666610 q665607 = .inr (19, [.ref q665608, .int p665610, .int z666609, .int 5, .int p665613, .int p665614, .int p665615, .ref q666057, .int p665617, .int p665618, .int p665619, .ref qo665620, .ref qo665621, .int p665622]) := e666611
          have hfr666617 : rFr [q665607] P665605 F665606 F666610 := rFr_put' List.mem_cons_self hfr666608 n666612
          exact G_vretA dr_cX14_symbol_213 rfl (show 8 ≤ ((16 * (p665610.toInt - p665611.toInt)).toNat) by omega) (show 20 + (o666040.toInt.toNat + 4) + 0 + 4 + 16 + 0 + 0 + 0 + (o666192.toInt.toNat + 4) + 0 ≤ ((160 * (p665610.toInt - p665611.toInt)).toNat) by omega) ⟨P666220, F666610, z666609, 5, q666057, (n666059, f666060), rfl, rfl, hsb666240, hfr666617, he666616, he666613, (by omega), (by omega), ⟨by omega, by omega⟩, (gB_w (gBl (show Int32.toInt 5 = 5 by decide)) (by decide) (by decide)), (by have qa0 : Int32.toInt 0 = 0 := (by decide); have qa1 : Int32.toInt 1 = 1 := (by decide); have qa2 : Int32.toInt 5 = 5 := (by decide); omega), (by have qa0 : Int32.toInt 0 = 0 := (by decide); have qa1 : Int32.toInt 1 = 1 := (by decide); have qa2 : Int32.toInt 5 = 5 := (by decide); omega), (tP_5 hm666234 he666614 hm666235 he666615 bf666060 (by omega) (gB_w (gBl (show Int32.toInt 0 = 0 by decide)) (by decide) (by decide)) (fun e => hq666081 (e ▸ x665626)) (fun e => hq666081 (e ▸ x665627))), (vP_no (by decide) (by decide)), (fun R c1 c2 c3 c4 c5 c6 => c6 z665947 z665951 o666002 f666003 z666016 o666022 f666023 z666034 o666040 f666041 n666059 f666060 o666092 o666149 f666150 o666170 f666171 o666192 f666193 n666215 f666216 o666254 z666609 ez665947 r665950 hz665951 bz665951 r665954 r665957 bo666002 ht666007 hz666016 bo666022 ht666025 hz666034 bo666040 ht666043 ht666063 bo666092 ht666094 bo666149 ht666154 bo666170 ht666175 bo666192 ht666197 ht666219 bo666254 ht666257 r666592 ez666609)⟩
/- tr_RReader_isLetter2: result -/
def tr_RReader_isLetter2 (a0 : Int32) (o1 : Int32) : Prop := ∀ R : (Int32) → Prop,
  (a0.toInt < 97 → R (0 : Int32)) →
  (97 ≤ a0.toInt → 122 < a0.toInt → R (0 : Int32)) →
  (97 ≤ a0.toInt → a0.toInt ≤ 122 → R (1 : Int32)) →
  R o1
