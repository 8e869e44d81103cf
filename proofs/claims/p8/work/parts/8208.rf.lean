theorem dr_cX14_number_0 : decode cX14_number 0 = .ok (.iload_n 1, 1) := by decide +kernel
theorem dr_cX14_number_1 : decode cX14_number 1 = .ok (.ifCond .eq 13, 3) := by decide +kernel
theorem dr_cX14_number_14 : decode cX14_number 14 = .ok (.lconst 0, 1) := by decide +kernel
theorem dr_cX14_number_15 : decode cX14_number 15 = .ok (.lstore_n 2, 1) := by decide +kernel
theorem dr_cX14_number_16 : decode cX14_number 16 = .ok (.aload_n 0, 1) := by decide +kernel
theorem dr_cX14_number_17 : decode cX14_number 17 = .ok (.getfield 44, 3) := by decide +kernel
theorem wr_9_38 : (Jvm.Cond.fieldLink "SpillForgeModel$Reader" (44 : Nat) "SpillForgeModel$Reader" "at" "I") ∈ gw := gw_9 38 rfl rfl
theorem dr_cX14_number_20 : decode cX14_number 20 = .ok (.aload_n 0, 1) := by decide +kernel
theorem dr_cX14_number_21 : decode cX14_number 21 = .ok (.getfield 32, 3) := by decide +kernel
theorem wr_9_37 : (Jvm.Cond.fieldLink "SpillForgeModel$Reader" (32 : Nat) "SpillForgeModel$Reader" "n" "I") ∈ gw := gw_9 37 rfl rfl
theorem dr_cX14_number_24 : decode cX14_number 24 = .ok (.if_icmp .ge 58, 3) := by decide +kernel
theorem dr_cX14_number_82 : decode cX14_number 82 = .ok (.iload_n 1, 1) := by decide +kernel
theorem dr_cX14_number_83 : decode cX14_number 83 = .ok (.ifCond .eq 6, 3) := by decide +kernel
theorem dr_cX14_number_89 : decode cX14_number 89 = .ok (.aload_n 0, 1) := by decide +kernel
theorem dr_cX14_number_90 : decode cX14_number 90 = .ok (.lload_n 2, 1) := by decide +kernel
theorem dr_cX14_number_91 : decode cX14_number 91 = .ok (.l2i, 1) := by decide +kernel
theorem dr_cX14_number_92 : decode cX14_number 92 = .ok (.putfield 80, 3) := by decide +kernel
theorem wr_9_41 : (Jvm.Cond.fieldLink "SpillForgeModel$Reader" (80 : Nat) "SpillForgeModel$Reader" "value" "I") ∈ gw := gw_9 41 rfl rfl
theorem dr_cX14_number_95 : decode cX14_number 95 = .ok (.aload_n 0, 1) := by decide +kernel
theorem dr_cX14_number_96 : decode cX14_number 96 = .ok (.lload_n 2, 1) := by decide +kernel
theorem dr_cX14_number_97 : decode cX14_number 97 = .ok (.lload_n 2, 1) := by decide +kernel
theorem dr_cX14_number_98 : decode cX14_number 98 = .ok (.l2i, 1) := by decide +kernel
theorem dr_cX14_number_99 : decode cX14_number 99 = .ok (.i2l, 1) := by decide +kernel
theorem dr_cX14_number_100 : decode cX14_number 100 = .ok (.lcmp, 1) := by decide +kernel
theorem dr_cX14_number_101 : decode cX14_number 101 = .ok (.ifCond .ne 7, 3) := by decide +kernel
theorem dr_cX14_number_108 : decode cX14_number 108 = .ok (.bipush 6, 2) := by decide +kernel
theorem dr_cX14_number_110 : decode cX14_number 110 = .ok (.putfield 38, 3) := by decide +kernel
theorem wr_9_39 : (Jvm.Cond.fieldLink "SpillForgeModel$Reader" (38 : Nat) "SpillForgeModel$Reader" "kind" "I") ∈ gw := gw_9 39 rfl rfl
theorem dr_cX14_number_113 : decode cX14_number 113 = .ok (.return_, 1) := by decide +kernel
theorem dr_cX14_number_104 : decode cX14_number 104 = .ok (.iconst 4, 1) := by decide +kernel
theorem dr_cX14_number_105 : decode cX14_number 105 = .ok (.goto 5, 3) := by decide +kernel
theorem dr_cX14_number_27 : decode cX14_number 27 = .ok (.aload_n 0, 1) := by decide +kernel
theorem dr_cX14_number_28 : decode cX14_number 28 = .ok (.getfield 28, 3) := by decide +kernel
theorem wr_9_36 : (Jvm.Cond.fieldLink "SpillForgeModel$Reader" (28 : Nat) "SpillForgeModel$Reader" "t" "[B") ∈ gw := gw_9 36 rfl rfl
theorem dr_cX14_number_31 : decode cX14_number 31 = .ok (.aload_n 0, 1) := by decide +kernel
theorem dr_cX14_number_32 : decode cX14_number 32 = .ok (.getfield 44, 3) := by decide +kernel
theorem dr_cX14_number_35 : decode cX14_number 35 = .ok (.baload, 1) := by decide +kernel
theorem dr_cX14_number_36 : decode cX14_number 36 = .ok (.invokestatic 50, 3) := by decide +kernel
theorem wr_7_219 : (Jvm.Cond.methodLink "SpillForgeModel$Reader" (50 : Nat) ({ cls := "SpillForgeModel$Reader", name := "isDigit", desc := "(I)Z" } : Jvm.MethodName)) ∈ gw := gw_7 219 rfl rfl
theorem wr_1_32 : (Jvm.Cond.initialized "SpillForgeModel$Reader") ∈ gw := gw_1 32 rfl rfl
theorem wr_7_221 : (Jvm.Cond.code ({ cls := "SpillForgeModel$Reader", name := "isDigit", desc := "(I)Z" } : Jvm.MethodName) prog_17_method_2_code (1 : Nat) (Option.some Jvm.ClassFile.FieldType.boolean)) ∈ gw := gw_7 221 rfl rfl
theorem wr_7_220 : (Jvm.Cond.static ({ cls := "SpillForgeModel$Reader", name := "isDigit", desc := "(I)Z" } : Jvm.MethodName)) ∈ gw := gw_7 220 rfl rfl
theorem dr_cX14_number_39 : decode cX14_number 39 = .ok (.ifCond .eq 43, 3) := by decide +kernel
theorem dr_cX14_number_42 : decode cX14_number 42 = .ok (.lload_n 2, 1) := by decide +kernel
theorem dr_cX14_number_43 : decode cX14_number 43 = .ok (.ldc2_w 68, 3) := by decide +kernel
theorem wr_7_229 : (Jvm.Cond.constantLong "SpillForgeModel$Reader" (68 : Nat) (10 : Int64)) ∈ gw := gw_7 229 rfl rfl
theorem dr_cX14_number_46 : decode cX14_number 46 = .ok (.lmul, 1) := by decide +kernel
theorem dr_cX14_number_47 : decode cX14_number 47 = .ok (.aload_n 0, 1) := by decide +kernel
theorem dr_cX14_number_48 : decode cX14_number 48 = .ok (.getfield 28, 3) := by decide +kernel
theorem dr_cX14_number_51 : decode cX14_number 51 = .ok (.aload_n 0, 1) := by decide +kernel
theorem dr_cX14_number_52 : decode cX14_number 52 = .ok (.getfield 44, 3) := by decide +kernel
theorem dr_cX14_number_55 : decode cX14_number 55 = .ok (.baload, 1) := by decide +kernel
theorem dr_cX14_number_56 : decode cX14_number 56 = .ok (.i2l, 1) := by decide +kernel
theorem dr_cX14_number_57 : decode cX14_number 57 = .ok (.ladd, 1) := by decide +kernel
theorem dr_cX14_number_58 : decode cX14_number 58 = .ok (.ldc2_w 70, 3) := by decide +kernel
theorem wr_7_230 : (Jvm.Cond.constantLong "SpillForgeModel$Reader" (70 : Nat) (48 : Int64)) ∈ gw := gw_7 230 rfl rfl
theorem dr_cX14_number_61 : decode cX14_number 61 = .ok (.lsub, 1) := by decide +kernel
theorem dr_cX14_number_62 : decode cX14_number 62 = .ok (.ldc2_w 111, 3) := by decide +kernel
theorem wr_8_222 : (Jvm.Cond.constantLong "SpillForgeModel$Reader" (111 : Nat) (1099511627776 : Int64)) ∈ gw := gw_8 222 rfl rfl
theorem dr_cX14_number_65 : decode cX14_number 65 = .ok (.invokestatic 74, 3) := by decide +kernel
theorem wr_7_232 : (Jvm.Cond.methodLink "SpillForgeModel$Reader" (74 : Nat) ({ cls := "java/lang/Math", name := "min", desc := "(JJ)J" } : Jvm.MethodName)) ∈ gw := gw_7 232 rfl rfl
theorem wr_3_40 : (Jvm.Cond.code ({ cls := "java/lang/Math", name := "min", desc := "(JJ)J" } : Jvm.MethodName) prog_32_method_70_code (4 : Nat) (Option.some Jvm.ClassFile.FieldType.long)) ∈ gw := gw_3 40 rfl rfl
theorem wr_3_39 : (Jvm.Cond.static ({ cls := "java/lang/Math", name := "min", desc := "(JJ)J" } : Jvm.MethodName)) ∈ gw := gw_3 39 rfl rfl
theorem dr_cX14_number_68 : decode cX14_number 68 = .ok (.lstore_n 2, 1) := by decide +kernel
theorem dr_cX14_number_69 : decode cX14_number 69 = .ok (.aload_n 0, 1) := by decide +kernel
theorem dr_cX14_number_70 : decode cX14_number 70 = .ok (.dup, 1) := by decide +kernel
theorem dr_cX14_number_71 : decode cX14_number 71 = .ok (.getfield 44, 3) := by decide +kernel
theorem dr_cX14_number_74 : decode cX14_number 74 = .ok (.iconst 1, 1) := by decide +kernel
theorem dr_cX14_number_75 : decode cX14_number 75 = .ok (.iadd, 1) := by decide +kernel
theorem dr_cX14_number_76 : decode cX14_number 76 = .ok (.putfield 44, 3) := by decide +kernel
theorem dr_cX14_number_79 : decode cX14_number 79 = .ok (.goto (-63), 3) := by decide +kernel
theorem dr_cX14_number_4 : decode cX14_number 4 = .ok (.aload_n 0, 1) := by decide +kernel
theorem dr_cX14_number_5 : decode cX14_number 5 = .ok (.dup, 1) := by decide +kernel
theorem dr_cX14_number_6 : decode cX14_number 6 = .ok (.getfield 44, 3) := by decide +kernel
theorem dr_cX14_number_9 : decode cX14_number 9 = .ok (.iconst 1, 1) := by decide +kernel
theorem dr_cX14_number_10 : decode cX14_number 10 = .ok (.iadd, 1) := by decide +kernel
theorem dr_cX14_number_11 : decode cX14_number 11 = .ok (.putfield 44, 3) := by decide +kernel
theorem dr_cX14_number_86 : decode cX14_number 86 = .ok (.lload_n 2, 1) := by decide +kernel
theorem dr_cX14_number_87 : decode cX14_number 87 = .ok (.lneg, 1) := by decide +kernel
theorem dr_cX14_number_88 : decode cX14_number 88 = .ok (.lstore_n 2, 1) := by decide +kernel
theorem dr_cX14_symbol_73 : decode cX14_symbol 73 = .ok (.ldc 9, 2) := by decide +kernel
theorem dr_cX14_symbol_75 : decode cX14_symbol 75 = .ok (.astore_n 2, 1) := by decide +kernel
theorem dr_cX14_symbol_76 : decode cX14_symbol 76 = .ok (.aload_n 2, 1) := by decide +kernel
theorem dr_cX14_symbol_77 : decode cX14_symbol 77 = .ok (.invokevirtual 113, 3) := by decide +kernel
theorem wr_8_227 : (Jvm.Cond.methodLink "SpillForgeModel$Reader" (113 : Nat) ({ cls := "java/lang/String", name := "length", desc := "()I" } : Jvm.MethodName)) ∈ gw := gw_8 227 rfl rfl
theorem dr_cX14_symbol_80 : decode cX14_symbol 80 = .ok (.iconst 2, 1) := by decide +kernel
theorem dr_cX14_symbol_81 : decode cX14_symbol 81 = .ok (.if_icmp .ne 39, 3) := by decide +kernel
theorem dr_cX14_symbol_120 : decode cX14_symbol 120 = .ok (.iconst 0, 1) := by decide +kernel
theorem dr_cX14_symbol_121 : decode cX14_symbol 121 = .ok (.istore_n 3, 1) := by decide +kernel
theorem dr_cX14_symbol_122 : decode cX14_symbol 122 = .ok (.aload_n 0, 1) := by decide +kernel
theorem dr_cX14_symbol_123 : decode cX14_symbol 123 = .ok (.iload_n 3, 1) := by decide +kernel
theorem dr_cX14_symbol_124 : decode cX14_symbol 124 = .ok (.ifCond .ne 19, 3) := by decide +kernel
theorem dr_cX14_symbol_127 : decode cX14_symbol 127 = .ok (.iload_n 1, 1) := by decide +kernel
theorem dr_cX14_symbol_128 : decode cX14_symbol 128 = .ok (.bipush 32, 2) := by decide +kernel
theorem dr_cX14_symbol_130 : decode cX14_symbol 130 = .ok (.if_icmp .le 17, 3) := by decide +kernel
theorem dr_cX14_symbol_147 : decode cX14_symbol 147 = .ok (.bipush 6, 2) := by decide +kernel
theorem dr_cX14_symbol_149 : decode cX14_symbol 149 = .ok (.putfield 38, 3) := by decide +kernel
theorem dr_cX14_symbol_152 : decode cX14_symbol 152 = .ok (.aload_n 0, 1) := by decide +kernel
theorem dr_cX14_symbol_153 : decode cX14_symbol 153 = .ok (.iload_n 3, 1) := by decide +kernel
theorem dr_cX14_symbol_154 : decode cX14_symbol 154 = .ok (.ifCond .eq 7, 3) := by decide +kernel
theorem dr_cX14_symbol_161 : decode cX14_symbol 161 = .ok (.iload_n 1, 1) := by decide +kernel
theorem dr_cX14_symbol_162 : decode cX14_symbol 162 = .ok (.bipush 32, 2) := by decide +kernel
theorem dr_cX14_symbol_164 : decode cX14_symbol 164 = .ok (.if_icmp .le 26, 3) := by decide +kernel
theorem dr_cX14_symbol_190 : decode cX14_symbol 190 = .ok (.ldc 9, 2) := by decide +kernel
theorem dr_cX14_symbol_192 : decode cX14_symbol 192 = .ok (.putfield 11, 3) := by decide +kernel
theorem wr_9_43 : (Jvm.Cond.fieldLink "SpillForgeModel$Reader" (11 : Nat) "SpillForgeModel$Reader" "text" "Ljava/lang/String;") ∈ gw := gw_9 43 rfl rfl
theorem dr_cX14_symbol_195 : decode cX14_symbol 195 = .ok (.aload_n 0, 1) := by decide +kernel
theorem dr_cX14_symbol_196 : decode cX14_symbol 196 = .ok (.dup, 1) := by decide +kernel
theorem dr_cX14_symbol_197 : decode cX14_symbol 197 = .ok (.getfield 44, 3) := by decide +kernel
theorem dr_cX14_symbol_200 : decode cX14_symbol 200 = .ok (.iload_n 3, 1) := by decide +kernel
theorem dr_cX14_symbol_201 : decode cX14_symbol 201 = .ok (.ifCond .eq 7, 3) := by decide +kernel
theorem dr_cX14_symbol_208 : decode cX14_symbol 208 = .ok (.iconst 1, 1) := by decide +kernel
theorem dr_cX14_symbol_209 : decode cX14_symbol 209 = .ok (.iadd, 1) := by decide +kernel
theorem dr_cX14_symbol_210 : decode cX14_symbol 210 = .ok (.putfield 44, 3) := by decide +kernel
theorem dr_cX14_symbol_213 : decode cX14_symbol 213 = .ok (.return_, 1) := by decide +kernel
theorem dr_cX14_symbol_133 : decode cX14_symbol 133 = .ok (.ldc 119, 2) := by decide +kernel
theorem dr_cX14_symbol_135 : decode cX14_symbol 135 = .ok (.iload_n 1, 1) := by decide +kernel
theorem dr_cX14_symbol_136 : decode cX14_symbol 136 = .ok (.i2c, 1) := by decide +kernel
theorem dr_cX14_symbol_137 : decode cX14_symbol 137 = .ok (.invokevirtual 121, 3) := by decide +kernel
theorem wr_8_230 : (Jvm.Cond.methodLink "SpillForgeModel$Reader" (121 : Nat) ({ cls := "java/lang/String", name := "indexOf", desc := "(I)I" } : Jvm.MethodName)) ∈ gw := gw_8 230 rfl rfl
theorem wr_8_233 : (Jvm.Cond.code ({ cls := "java/lang/String", name := "indexOf", desc := "(I)I" } : Jvm.MethodName) prog_34_method_79_code (2 : Nat) (Option.some Jvm.ClassFile.FieldType.int)) ∈ gw := gw_8 233 rfl rfl
theorem wr_8_231 : (Jvm.Cond.instanceMethod ({ cls := "java/lang/String", name := "indexOf", desc := "(I)I" } : Jvm.MethodName)) ∈ gw := gw_8 231 rfl rfl
theorem wr_8_232 : (Jvm.Cond.selects "java/lang/String" ({ cls := "java/lang/String", name := "indexOf", desc := "(I)I" } : Jvm.MethodName) ({ cls := "java/lang/String", name := "indexOf", desc := "(I)I" } : Jvm.MethodName)) ∈ gw := gw_8 232 rfl rfl
theorem dr_cX14_symbol_140 : decode cX14_symbol 140 = .ok (.ifCond .lt 7, 3) := by decide +kernel
theorem dr_cX14_symbol_167 : decode cX14_symbol 167 = .ok (.new 87, 3) := by decide +kernel
theorem wr_7_235 : (Jvm.Cond.classLink "SpillForgeModel$Reader" (87 : Nat) "java/lang/StringBuilder") ∈ gw := gw_7 235 rfl rfl
theorem dr_cX14_symbol_170 : decode cX14_symbol 170 = .ok (.dup, 1) := by decide +kernel
theorem dr_cX14_symbol_171 : decode cX14_symbol 171 = .ok (.invokespecial 89, 3) := by decide +kernel
theorem wr_7_236 : (Jvm.Cond.methodLink "SpillForgeModel$Reader" (89 : Nat) ({ cls := "java/lang/StringBuilder", name := "<init>", desc := "()V" } : Jvm.MethodName)) ∈ gw := gw_7 236 rfl rfl
theorem wr_7_47 : (Jvm.Cond.code ({ cls := "java/lang/StringBuilder", name := "<init>", desc := "()V" } : Jvm.MethodName) prog_35_method_1_code (1 : Nat) (Option.none : Option Jvm.ClassFile.FieldType)) ∈ gw := gw_7 47 rfl rfl
theorem wr_7_46 : (Jvm.Cond.instanceMethod ({ cls := "java/lang/StringBuilder", name := "<init>", desc := "()V" } : Jvm.MethodName)) ∈ gw := gw_7 46 rfl rfl
theorem dr_cX14_symbol_174 : decode cX14_symbol 174 = .ok (.ldc 9, 2) := by decide +kernel
theorem dr_cX14_symbol_176 : decode cX14_symbol 176 = .ok (.invokevirtual 102, 3) := by decide +kernel
theorem wr_8_195 : (Jvm.Cond.methodLink "SpillForgeModel$Reader" (102 : Nat) ({ cls := "java/lang/StringBuilder", name := "append", desc := "(Ljava/lang/String;)Ljava/lang/StringBuilder;" } : Jvm.MethodName)) ∈ gw := gw_8 195 rfl rfl
theorem wr_8_143 : (Jvm.Cond.code ({ cls := "java/lang/StringBuilder", name := "append", desc := "(Ljava/lang/String;)Ljava/lang/StringBuilder;" } : Jvm.MethodName) prog_35_method_7_code (2 : Nat) (Option.some (Jvm.ClassFile.FieldType.object "java/lang/StringBuilder"))) ∈ gw := gw_8 143 rfl rfl
theorem wr_8_141 : (Jvm.Cond.instanceMethod ({ cls := "java/lang/StringBuilder", name := "append", desc := "(Ljava/lang/String;)Ljava/lang/StringBuilder;" } : Jvm.MethodName)) ∈ gw := gw_8 141 rfl rfl
theorem wr_8_142 : (Jvm.Cond.selects "java/lang/StringBuilder" ({ cls := "java/lang/StringBuilder", name := "append", desc := "(Ljava/lang/String;)Ljava/lang/StringBuilder;" } : Jvm.MethodName) ({ cls := "java/lang/StringBuilder", name := "append", desc := "(Ljava/lang/String;)Ljava/lang/StringBuilder;" } : Jvm.MethodName)) ∈ gw := gw_8 142 rfl rfl
theorem dr_cX14_symbol_179 : decode cX14_symbol 179 = .ok (.iload_n 1, 1) := by decide +kernel
theorem dr_cX14_symbol_180 : decode cX14_symbol 180 = .ok (.i2c, 1) := by decide +kernel
theorem dr_cX14_symbol_181 : decode cX14_symbol 181 = .ok (.invokevirtual 90, 3) := by decide +kernel
theorem wr_7_237 : (Jvm.Cond.methodLink "SpillForgeModel$Reader" (90 : Nat) ({ cls := "java/lang/StringBuilder", name := "append", desc := "(C)Ljava/lang/StringBuilder;" } : Jvm.MethodName)) ∈ gw := gw_7 237 rfl rfl
theorem wr_8_0 : (Jvm.Cond.code ({ cls := "java/lang/StringBuilder", name := "append", desc := "(C)Ljava/lang/StringBuilder;" } : Jvm.MethodName) prog_35_method_14_code (2 : Nat) (Option.some (Jvm.ClassFile.FieldType.object "java/lang/StringBuilder"))) ∈ gw := gw_8 0 rfl rfl
theorem wr_7_238 : (Jvm.Cond.instanceMethod ({ cls := "java/lang/StringBuilder", name := "append", desc := "(C)Ljava/lang/StringBuilder;" } : Jvm.MethodName)) ∈ gw := gw_7 238 rfl rfl
theorem wr_7_239 : (Jvm.Cond.selects "java/lang/StringBuilder" ({ cls := "java/lang/StringBuilder", name := "append", desc := "(C)Ljava/lang/StringBuilder;" } : Jvm.MethodName) ({ cls := "java/lang/StringBuilder", name := "append", desc := "(C)Ljava/lang/StringBuilder;" } : Jvm.MethodName)) ∈ gw := gw_7 239 rfl rfl
theorem dr_cX14_symbol_184 : decode cX14_symbol 184 = .ok (.invokevirtual 94, 3) := by decide +kernel
theorem wr_8_66 : (Jvm.Cond.methodLink "SpillForgeModel$Reader" (94 : Nat) ({ cls := "java/lang/StringBuilder", name := "toString", desc := "()Ljava/lang/String;" } : Jvm.MethodName)) ∈ gw := gw_8 66 rfl rfl
theorem wr_8_69 : (Jvm.Cond.code ({ cls := "java/lang/StringBuilder", name := "toString", desc := "()Ljava/lang/String;" } : Jvm.MethodName) prog_35_method_42_code (1 : Nat) (Option.some (Jvm.ClassFile.FieldType.object "java/lang/String"))) ∈ gw := gw_8 69 rfl rfl
theorem wr_8_67 : (Jvm.Cond.instanceMethod ({ cls := "java/lang/StringBuilder", name := "toString", desc := "()Ljava/lang/String;" } : Jvm.MethodName)) ∈ gw := gw_8 67 rfl rfl
theorem wr_8_68 : (Jvm.Cond.selects "java/lang/StringBuilder" ({ cls := "java/lang/StringBuilder", name := "toString", desc := "()Ljava/lang/String;" } : Jvm.MethodName) ({ cls := "java/lang/StringBuilder", name := "toString", desc := "()Ljava/lang/String;" } : Jvm.MethodName)) ∈ gw := gw_8 68 rfl rfl
theorem dr_cX14_symbol_187 : decode cX14_symbol 187 = .ok (.goto 5, 3) := by decide +kernel
theorem dr_cX14_symbol_143 : decode cX14_symbol 143 = .ok (.iconst 5, 1) := by decide +kernel
theorem dr_cX14_symbol_144 : decode cX14_symbol 144 = .ok (.goto 5, 3) := by decide +kernel
theorem dr_cX14_symbol_0 : decode cX14_symbol 0 = .ok (.aload_n 0, 1) := by decide +kernel
theorem dr_cX14_symbol_1 : decode cX14_symbol 1 = .ok (.getfield 44, 3) := by decide +kernel
theorem dr_cX14_symbol_4 : decode cX14_symbol 4 = .ok (.iconst 1, 1) := by decide +kernel
theorem dr_cX14_symbol_5 : decode cX14_symbol 5 = .ok (.iadd, 1) := by decide +kernel
theorem dr_cX14_symbol_6 : decode cX14_symbol 6 = .ok (.aload_n 0, 1) := by decide +kernel
theorem dr_cX14_symbol_7 : decode cX14_symbol 7 = .ok (.getfield 32, 3) := by decide +kernel
theorem dr_cX14_symbol_10 : decode cX14_symbol 10 = .ok (.if_icmp .ge 63, 3) := by decide +kernel
theorem dr_cX14_symbol_13 : decode cX14_symbol 13 = .ok (.aload_n 0, 1) := by decide +kernel
theorem dr_cX14_symbol_14 : decode cX14_symbol 14 = .ok (.getfield 28, 3) := by decide +kernel
theorem dr_cX14_symbol_17 : decode cX14_symbol 17 = .ok (.aload_n 0, 1) := by decide +kernel
theorem dr_cX14_symbol_18 : decode cX14_symbol 18 = .ok (.getfield 44, 3) := by decide +kernel
theorem dr_cX14_symbol_21 : decode cX14_symbol 21 = .ok (.iconst 1, 1) := by decide +kernel
theorem dr_cX14_symbol_22 : decode cX14_symbol 22 = .ok (.iadd, 1) := by decide +kernel
theorem dr_cX14_symbol_23 : decode cX14_symbol 23 = .ok (.baload, 1) := by decide +kernel
theorem dr_cX14_symbol_24 : decode cX14_symbol 24 = .ok (.bipush 32, 2) := by decide +kernel
theorem dr_cX14_symbol_26 : decode cX14_symbol 26 = .ok (.if_icmp .le 47, 3) := by decide +kernel
theorem dr_cX14_symbol_29 : decode cX14_symbol 29 = .ok (.iload_n 1, 1) := by decide +kernel
theorem dr_cX14_symbol_30 : decode cX14_symbol 30 = .ok (.bipush 32, 2) := by decide +kernel
theorem dr_cX14_symbol_32 : decode cX14_symbol 32 = .ok (.if_icmp .le 41, 3) := by decide +kernel
theorem dr_cX14_symbol_35 : decode cX14_symbol 35 = .ok (.new 87, 3) := by decide +kernel
theorem dr_cX14_symbol_38 : decode cX14_symbol 38 = .ok (.dup, 1) := by decide +kernel
theorem dr_cX14_symbol_39 : decode cX14_symbol 39 = .ok (.invokespecial 89, 3) := by decide +kernel
theorem dr_cX14_symbol_42 : decode cX14_symbol 42 = .ok (.ldc 9, 2) := by decide +kernel
theorem dr_cX14_symbol_44 : decode cX14_symbol 44 = .ok (.invokevirtual 102, 3) := by decide +kernel
theorem dr_cX14_symbol_47 : decode cX14_symbol 47 = .ok (.iload_n 1, 1) := by decide +kernel
theorem dr_cX14_symbol_48 : decode cX14_symbol 48 = .ok (.i2c, 1) := by decide +kernel
theorem dr_cX14_symbol_49 : decode cX14_symbol 49 = .ok (.invokevirtual 90, 3) := by decide +kernel
theorem dr_cX14_symbol_52 : decode cX14_symbol 52 = .ok (.aload_n 0, 1) := by decide +kernel
theorem dr_cX14_symbol_53 : decode cX14_symbol 53 = .ok (.getfield 28, 3) := by decide +kernel
theorem dr_cX14_symbol_56 : decode cX14_symbol 56 = .ok (.aload_n 0, 1) := by decide +kernel
theorem dr_cX14_symbol_57 : decode cX14_symbol 57 = .ok (.getfield 44, 3) := by decide +kernel
theorem dr_cX14_symbol_60 : decode cX14_symbol 60 = .ok (.iconst 1, 1) := by decide +kernel
theorem dr_cX14_symbol_61 : decode cX14_symbol 61 = .ok (.iadd, 1) := by decide +kernel
theorem dr_cX14_symbol_62 : decode cX14_symbol 62 = .ok (.baload, 1) := by decide +kernel
theorem dr_cX14_symbol_63 : decode cX14_symbol 63 = .ok (.i2c, 1) := by decide +kernel
theorem dr_cX14_symbol_64 : decode cX14_symbol 64 = .ok (.invokevirtual 90, 3) := by decide +kernel
theorem dr_cX14_symbol_67 : decode cX14_symbol 67 = .ok (.invokevirtual 94, 3) := by decide +kernel
theorem dr_cX14_symbol_70 : decode cX14_symbol 70 = .ok (.goto 5, 3) := by decide +kernel
theorem dr_cX14_symbol_84 : decode cX14_symbol 84 = .ok (.ldc 117, 2) := by decide +kernel
theorem dr_cX14_symbol_86 : decode cX14_symbol 86 = .ok (.new 87, 3) := by decide +kernel
theorem dr_cX14_symbol_89 : decode cX14_symbol 89 = .ok (.dup, 1) := by decide +kernel
theorem dr_cX14_symbol_90 : decode cX14_symbol 90 = .ok (.invokespecial 89, 3) := by decide +kernel
theorem dr_cX14_symbol_93 : decode cX14_symbol 93 = .ok (.ldc 100, 2) := by decide +kernel
theorem dr_cX14_symbol_95 : decode cX14_symbol 95 = .ok (.invokevirtual 102, 3) := by decide +kernel
theorem dr_cX14_symbol_98 : decode cX14_symbol 98 = .ok (.aload_n 2, 1) := by decide +kernel
theorem dr_cX14_symbol_99 : decode cX14_symbol 99 = .ok (.invokevirtual 102, 3) := by decide +kernel
theorem dr_cX14_symbol_102 : decode cX14_symbol 102 = .ok (.ldc 100, 2) := by decide +kernel
theorem dr_cX14_symbol_104 : decode cX14_symbol 104 = .ok (.invokevirtual 102, 3) := by decide +kernel
theorem dr_cX14_symbol_107 : decode cX14_symbol 107 = .ok (.invokevirtual 94, 3) := by decide +kernel
theorem dr_cX14_symbol_110 : decode cX14_symbol 110 = .ok (.invokevirtual 105, 3) := by decide +kernel
theorem wr_8_196 : (Jvm.Cond.methodLink "SpillForgeModel$Reader" (105 : Nat) ({ cls := "java/lang/String", name := "indexOf", desc := "(Ljava/lang/String;)I" } : Jvm.MethodName)) ∈ gw := gw_8 196 rfl rfl
theorem wr_8_199 : (Jvm.Cond.code ({ cls := "java/lang/String", name := "indexOf", desc := "(Ljava/lang/String;)I" } : Jvm.MethodName) prog_34_method_84_code (3 : Nat) (Option.some Jvm.ClassFile.FieldType.int)) ∈ gw := gw_8 199 rfl rfl
theorem wr_8_197 : (Jvm.Cond.instanceMethod ({ cls := "java/lang/String", name := "indexOf", desc := "(Ljava/lang/String;)I" } : Jvm.MethodName)) ∈ gw := gw_8 197 rfl rfl
theorem wr_8_198 : (Jvm.Cond.selects "java/lang/String" ({ cls := "java/lang/String", name := "indexOf", desc := "(Ljava/lang/String;)I" } : Jvm.MethodName) ({ cls := "java/lang/String", name := "indexOf", desc := "(Ljava/lang/String;)I" } : Jvm.MethodName)) ∈ gw := gw_8 198 rfl rfl
theorem dr_cX14_symbol_113 : decode cX14_symbol 113 = .ok (.ifCond .lt 7, 3) := by decide +kernel
theorem dr_cX14_symbol_116 : decode cX14_symbol 116 = .ok (.iconst 1, 1) := by decide +kernel
theorem dr_cX14_symbol_117 : decode cX14_symbol 117 = .ok (.goto 4, 3) := by decide +kernel
theorem dr_cX14_symbol_157 : decode cX14_symbol 157 = .ok (.aload_n 2, 1) := by decide +kernel
theorem dr_cX14_symbol_158 : decode cX14_symbol 158 = .ok (.goto 34, 3) := by decide +kernel
theorem dr_cX14_symbol_204 : decode cX14_symbol 204 = .ok (.iconst 2, 1) := by decide +kernel
theorem dr_cX14_symbol_205 : decode cX14_symbol 205 = .ok (.goto 4, 3) := by decide +kernel
abbrev ky_665334_Reader_number : gKey := (cX14_number, 4, "SpillForgeModel$Reader", none, [], "number", fun _ _ => True)
def pp_665334_Reader_number (D : va_G) (I : FieldType → ClassId) (P665310 : List Nat) (F665311 : Nat → va_E) (q665312 : Nat) (q665313 : Nat) (p665314 : Int32) (p665315 : Int32) (p665316 : Int32) (p665317 : Int32) (p665318 : Int32) (p665319 : Int32) (p665320 : Int32) (qo665321 : Nat) (p665322 : Int32) (p665323 : Int32) (p665324 : Int32) (qo665325 : Nat) (qo665326 : Nat) (p665327 : Int32) (f665328 : Nat → Int32) : Option Value → va_W → Nat → Nat → Prop := fun r w dc ds => ∃ (F665932 : Nat → va_E) (o665928 : Int32) (o665929 : Int32) (o665930 : Int32) (xt665933 : gTx), r = none ∧ w = va_pl P665310 F665932 ∧ rFr [q665312] P665310 F665311 F665932 ∧ F665932 q665312 = .inr (19, [.ref q665313, .int p665315, .int o665928, .int o665929, .int p665318, .int o665930, .int p665320, .ref qo665321, .int p665322, .int p665323, .int p665324, .ref qo665325, .ref qo665326, .int p665327]) ∧ F665932 q665313 = .inl (I .byte, 8192, .inl f665328) ∧ dc ≤ (16 * (o665928.toInt - p665316.toInt)).toNat ∧ ds ≤ (160 * (o665928.toInt - p665316.toInt)).toNat ∧ gB o665928 0 8192 ∧ gB o665929 4 6 ∧ p665316.toInt < o665928.toInt ∧ o665928.toInt ≤ p665315.toInt ∧ tP I P665310 F665932 o665929 qo665321 qo665326 qo665325 xt665933 ∧ vP o665929 o665930 ∧ tr_RReader_number p665314 p665315 p665316 f665328 o665928 o665929 o665930 xt665933
set_option maxRecDepth 100000 in
set_option maxHeartbeats 4000000 in
theorem cp_665334_Reader_number (l : Launch) (hl0 : l.stackTraces = false) (D : va_G) (I : FieldType → ClassId) (P665310 : List Nat) (F665311 : Nat → va_E) (q665312 : Nat) (q665313 : Nat) (p665314 : Int32) (p665315 : Int32) (p665316 : Int32) (p665317 : Int32) (p665318 : Int32) (p665319 : Int32) (p665320 : Int32) (qo665321 : Nat) (p665322 : Int32) (p665323 : Int32) (p665324 : Int32) (qo665325 : Nat) (qo665326 : Nat) (p665327 : Int32) (f665328 : Nat → Int32) (hmq665312 : q665312 ∈ P665310) (hmq665313 : q665313 ∈ P665310) (heq665312 : F665311 q665312 = .inr (19, [.ref q665313, .int p665315, .int p665316, .int p665317, .int p665318, .int p665319, .int p665320, .ref qo665321, .int p665322, .int p665323, .int p665324, .ref qo665325, .ref qo665326, .int p665327])) (heq665313 : F665311 q665313 = .inl (I .byte, 8192, .inl f665328)) (bp665314 : gB p665314 0 1) (bp665315 : gB p665315 0 8192) (bp665316 : gB p665316 0 8192) (bp665317 : gB p665317 0 6) (bp665318 : gB p665318 0 8192) (bp665320 : gB p665320 0 6) (bp665322 : gB p665322 (-1) 8192) (bp665323 : gB p665323 0 4) (bp665324 : gB p665324 0 1000000) (bp665327 : gB p665327 0 1000000) (bf665328 : gF f665328 (-128) 127) (x665329 : p665316.toInt ≤ p665315.toInt) (x665330 : p665316.toInt < p665315.toInt) (x665331 : cDg f665328 p665316 p665314) (x665332 : qo665326 ∈ P665310) (x665333 : qo665325 ∈ P665310) : CtA (gV D I) l yX14_number cX14_number 4 none 1 23 ((16 * (p665315.toInt - p665316.toInt)).toNat) ((160 * (p665315.toInt - p665316.toInt)).toNat) [.ref q665312, .int p665314] (va_pl P665310 F665311) (pp_665334_Reader_number D I P665310 F665311 q665312 q665313 p665314 p665315 p665316 p665317 p665318 p665319 p665320 qo665321 p665322 p665323 p665324 qo665325 qo665326 p665327 f665328) gNA := by
  refine CtA_of hl0 (by decide) (Nat.le_of_ble_eq_true rfl) ?_
  have bp665319 := gB_any p665319
  refine G_iload_n 1 dr_cX14_number_0 rfl ?_
  refine G_if_eq 14 dr_cX14_number_1 (by decide +kernel) (fun hc665335 => ?_) (fun hc665335 => ?_)
  · have r665336 : p665314.toInt = 0 := gj_eq hc665335 (show Int32.toInt 0 = 0 by decide)
    have bp665314' : gB p665314 0 0 := ⟨by omega, by omega⟩
    refine G_lconst 0 dr_cX14_number_14 rfl ?_
    refine G_lstore_n (L' := [(2, .long 0), (0, .ref q665312), (1, .int p665314)]) dr_cX14_number_15 (Nat.le_of_ble_eq_true rfl) rfl ?_
    have hlp16_665546 : ∀ (n16_665546 : Nat) (F665540 : Nat → va_E) (gl665538 : Int64) (g665539 : Int32), gB g665539 0 8192 → rFr [q665312] P665310 F665311 F665540 → F665540 q665312 = .inr (19, [.ref q665313, .int p665315, .int g665539, .int p665317, .int p665318, .int p665319, .int p665320, .ref qo665321, .int p665322, .int p665323, .int p665324, .ref qo665325, .ref qo665326, .int p665327]) → F665540 q665313 = .inl (I .byte, 8192, .inl f665328) → p665316.toInt ≤ g665539.toInt → g665539.toInt ≤ p665315.toInt → (p665314.toInt = 0 ∨ p665316.toInt < g665539.toInt) → (∀ (k : Nat) (e1 : Int64) (e2 : Int32), tl_RReader_number_16 p665315 f665328 gl665538 g665539 k e1 e2 → tl_RReader_number_16 p665315 f665328 (0 : Int64) p665316 k e1 e2) → ((8193 : Int) - g665539.toInt).toNat < n16_665546 → G (gV D I) l (gRm 1 23 ((16 * (p665315.toInt - p665316.toInt)).toNat) ((160 * (p665315.toInt - p665316.toInt)).toNat)) (gMA (gV D I) (pp_665334_Reader_number D I P665310 F665311 q665312 q665313 p665314 p665315 p665316 p665317 p665318 p665319 p665320 qo665321 p665322 p665323 p665324 qo665325 qo665326 p665327 f665328) gNA ((16 * (p665315.toInt - p665316.toInt)).toNat) ((160 * (p665315.toInt - p665316.toInt)).toNat)) ky_665334_Reader_number 16 [(2, .long gl665538), (0, .ref q665312), (1, .int p665314)] [] (va_pl P665310 F665540) 0 0 := by
      intro n16_665546
      induction n16_665546 with
      | zero => intro F665540 gl665538 g665539 bg665539 hfr665543 he665541 he665542 x665544 x665545 x665546 kt16_665546 hm16_665546; exact absurd hm16_665546 (Nat.not_lt_zero _)
      | succ n16_665546 ih16_665546 =>
        intro F665540 gl665538 g665539 bg665539 hfr665543 he665541 he665542 x665544 x665545 x665546 kt16_665546 hm16_665546
        refine G_aload_n 1 dr_cX14_number_16 rfl ?_
        refine Gp_get 2 hmq665312 he665541 dr_cX14_number_17 (gk_X14 D I) (Nat.le_of_ble_eq_true rfl) wr_9_38 rfl ?_
        refine G_aload_n 1 dr_cX14_number_20 rfl ?_
        refine Gp_get 1 hmq665312 he665541 dr_cX14_number_21 (gk_X14 D I) (Nat.le_of_ble_eq_true rfl) wr_9_37 rfl ?_
        refine G_icmp_ge 82 dr_cX14_number_24 (by decide +kernel) (fun hc665547 => ?_) (fun hc665547 => ?_)
        · have r665548 : p665315.toInt ≤ g665539.toInt := gC_le hc665547
          have hx665549 : tl_RReader_number_16 p665315 f665328 (0 : Int64) p665316 82 gl665538 g665539 := kt16_665546 82 gl665538 g665539 (fun R c1 c2 c3 => c1 gl665538 g665539 bg665539 r665548)
          have x665550 : p665316.toInt < g665539.toInt := by first | omega | exact cDg_lt x665331 (by omega) (by assumption) (isP_0 (by assumption) (by omega)) (by omega)
          refine G_iload_n 2 dr_cX14_number_82 rfl ?_
          refine G_if_eq 89 dr_cX14_number_83 (by decide +kernel) (fun _ => ?_) (fun hc => absurd (show False by have := gj_neq hc (show Int32.toInt 0 = 0 by decide); omega) not_false)
          refine G_aload_n 1 dr_cX14_number_89 rfl ?_
          refine G_lload_n 0 dr_cX14_number_90 rfl ?_
          refine G_l2i dr_cX14_number_91 (G_nam fun z665551 hz665551 => ?_)
          have bz665551 : gB z665551 (-2147483648) 2147483647 := gB_any z665551
          refine Gp_put 5 hmq665312 he665541 dr_cX14_number_92 (gk_X14 D I) (Nat.le_of_ble_eq_true rfl) wr_9_41 rfl rfl rfl (Nat.le_of_ble_eq_true rfl) (fun F665552 e665553 n665554 => ?_)
          have he665555 : F665552 q665313 = .inl (I .byte, 8192, .inl f665328) := (n665554 q665313 (rn_ao he665542 he665541)).trans he665542
          have he665556 : F665552 q665312 = .inr (19, [.ref q665313, .int p665315, .int g665539, .int p665317, .int p665318, .int z665551, .int p665320, .ref qo665321, .int p665322, .int p665323, .int p665324, .ref qo665325, .ref qo665326, .int p665327]) := e665553
          have hfr665557 : rFr [q665312] P665310 F665311 F665552 := rFr_put' List.mem_cons_self hfr665543 n665554
          refine G_aload_n 1 dr_cX14_number_95 rfl ?_
          refine G_lload_n 0 dr_cX14_number_96 rfl ?_
          refine G_lload_n 0 dr_cX14_number_97 rfl ?_
          refine G_l2i dr_cX14_number_98 (G_nam fun z665558 hz665558 => ?_)
          have bz665558 : gB z665558 (-2147483648) 2147483647 := gB_any z665558
          refine G_i2l dr_cX14_number_99 (G_namL fun u665559 hu665559 => ?_)
          refine G_lcmp dr_cX14_number_100 (G_nam fun z665560 hz665560 => ?_)
          have bz665560 : gB z665560 (-1) 1 := gB_cmp hz665560
          refine G_if_ne 108 dr_cX14_number_101 (by decide +kernel) (fun hc665561 => ?_) (fun hc665561 => ?_)
          · have r665562 : z665560.toInt ≠ 0 := gj_neq hc665561 (show Int32.toInt 0 = 0 by decide)
            have lhc665561 := gC_cmpN hz665560 hc665561
            refine G_bipush 6 dr_cX14_number_108 (by decide +kernel) ?_
            refine Gp_put 3 hmq665312 he665556 dr_cX14_number_110 (gk_X14 D I) (Nat.le_of_ble_eq_true rfl) wr_9_39 rfl rfl rfl (Nat.le_of_ble_eq_true rfl) (fun F665563 e665564 n665565 => ?_)
            have he665566 : F665563 q665313 = .inl (I .byte, 8192, .inl f665328) := (n665565 q665313 (rn_ao he665555 he665556)).trans he665555
            have he665567 : F665563 q665312 = .inr (19, [.ref q665313, .int p665315, .int g665539, .int 6, .int p665318, .int z665551, .int p665320, .ref qo665321, .int p665322, .int p665323, .int p665324, .ref qo665325, .ref qo665326, .int p665327]) := e665564
            have hfr665568 : rFr [q665312] P665310 F665311 F665563 := rFr_put' List.mem_cons_self hfr665557 n665565
            exact G_vretA dr_cX14_number_113 rfl (show 0 ≤ ((16 * (p665315.toInt - p665316.toInt)).toNat) by omega) (show 0 ≤ ((160 * (p665315.toInt - p665316.toInt)).toNat) by omega) ⟨F665563, g665539, 6, z665551, (0, fun _ => 0), rfl, rfl, hfr665568, he665567, he665566, (by omega), (by omega), bg665539, (gB_w (gBl (show Int32.toInt 6 = 6 by decide)) (by decide) (by decide)), (by have qa0 : Int32.toInt 6 = 6 := (by decide); omega), (by have qa0 : Int32.toInt 6 = 6 := (by decide); omega), (tP_no (by decide) (by decide)), (vP_no (by decide) (by decide)), (fun R c1 c2 c3 c4 => c1 gl665538 g665539 z665551 z665558 u665559 r665336 hx665549 hz665551 hz665558 hu665559 lhc665561)⟩
          · have r665569 : z665560.toInt = 0 := gj_eq hc665561 (show Int32.toInt 0 = 0 by decide)
            have bz665560' : gB z665560 0 0 := ⟨by omega, by omega⟩
            have lhc665561 := gC_cmpE hz665560 hc665561
            refine G_iconst 4 dr_cX14_number_104 (by decide +kernel) ?_
            refine G_goto 110 dr_cX14_number_105 (by decide +kernel) ?_
            refine Gp_put 3 hmq665312 he665556 dr_cX14_number_110 (gk_X14 D I) (Nat.le_of_ble_eq_true rfl) wr_9_39 rfl rfl rfl (Nat.le_of_ble_eq_true rfl) (fun F665570 e665571 n665572 => ?_)
            have he665573 : F665570 q665313 = .inl (I .byte, 8192, .inl f665328) := (n665572 q665313 (rn_ao he665555 he665556)).trans he665555
            have he665574 : F665570 q665312 = .inr (19, [.ref q665313, .int p665315, .int g665539, .int 4, .int p665318, .int z665551, .int p665320, .ref qo665321, .int p665322, .int p665323, .int p665324, .ref qo665325, .ref qo665326, .int p665327]) := e665571
            have hfr665575 : rFr [q665312] P665310 F665311 F665570 := rFr_put' List.mem_cons_self hfr665557 n665572
            exact G_vretA dr_cX14_number_113 rfl (show 0 ≤ ((16 * (p665315.toInt - p665316.toInt)).toNat) by omega) (show 0 ≤ ((160 * (p665315.toInt - p665316.toInt)).toNat) by omega) ⟨F665570, g665539, 4, z665551, (0, fun _ => 0), rfl, rfl, hfr665575, he665574, he665573, (by omega), (by omega), bg665539, (gB_w (gBl (show Int32.toInt 4 = 4 by decide)) (by decide) (by decide)), (by have qa0 : Int32.toInt 4 = 4 := (by decide); omega), (by have qa0 : Int32.toInt 4 = 4 := (by decide); omega), (tP_no (by decide) (by decide)), (vP_no (by decide) (by decide)), (fun R c1 c2 c3 c4 => c2 gl665538 g665539 z665551 z665558 u665559 r665336 hx665549 hz665551 hz665558 hu665559 lhc665561)⟩
        · have r665576 : g665539.toInt < p665315.toInt := gC_nle hc665547
          have bg665539' : gB g665539 0 8191 := ⟨by omega, by omega⟩
          have bp665315' : gB p665315 1 8192 := ⟨by omega, by omega⟩
          refine G_aload_n 1 dr_cX14_number_27 rfl ?_
          refine Gp_get 0 hmq665312 he665541 dr_cX14_number_28 (gk_X14 D I) (Nat.le_of_ble_eq_true rfl) wr_9_36 rfl ?_
          refine G_aload_n 1 dr_cX14_number_31 rfl ?_
          refine Gp_get 2 hmq665312 he665541 dr_cX14_number_32 (gk_X14 D I) (Nat.le_of_ble_eq_true rfl) wr_9_38 rfl ?_
          refine Gp_bald 1 hmq665313 he665542 dr_cX14_number_35 rfl (gB_in bg665539' (by decide) (by decide)) (G_nam fun z665577 hz665577 => ?_)
          have bz665577 : gB z665577 (-128) 127 := by rw [hz665577]; exact bf665328 _
          refine Gw_callS (As := [.int z665577]) (gV_ok D I) (cp_665370_Reader_isDigit l hl0 D I P665310 F665540 z665577 ) dr_cX14_number_36 ⟨wr_7_219, wr_1_32, wr_7_221, by decide, rfl, (Nat.le_of_ble_eq_true rfl), (Nat.le_of_ble_eq_true rfl)⟩ wr_7_220 (show 0 + 0 ≤ ((16 * (p665315.toInt - p665316.toInt)).toNat) by first | omega | decide) (show 0 + 0 ≤ ((160 * (p665315.toInt - p665316.toInt)).toNat) by first | omega | decide) (Nat.le_of_ble_eq_true rfl) (fun r665581 w665582 dc665578 ds665579 hp665580 => ?_) (fun _ _ _ _ _ z => z.elim)
          obtain ⟨o665583, rfl, rfl, hdc, hds, bo665583, x665584, ht665585⟩ := hp665580
          change G _ _ _ _ _ _ _ (.int o665583 :: _) _ _ _
          refine G_widen (cs' := 0) (sl' := 0) (by omega) (by omega) ?_
          refine G_if_eq 82 dr_cX14_number_39 (by decide +kernel) (fun hc665586 => ?_) (fun hc665586 => ?_)
          · have r665587 : o665583.toInt = 0 := gj_eq hc665586 (show Int32.toInt 0 = 0 by decide)
            have bo665583' : gB o665583 0 0 := ⟨by omega, by omega⟩
            have hx665588 : tl_RReader_number_16 p665315 f665328 (0 : Int64) p665316 82 gl665538 g665539 := kt16_665546 82 gl665538 g665539 (fun R c1 c2 c3 => c2 gl665538 g665539 z665577 o665583 bg665539 r665576 hz665577 bz665577 bo665583 ht665585 r665587)
            have x665589 : p665316.toInt < g665539.toInt := by first | omega | exact cDg_lt x665331 (by omega) (by assumption) (isP_0 (by assumption) (by omega)) (by omega)
            refine G_iload_n 2 dr_cX14_number_82 rfl ?_
            refine G_if_eq 89 dr_cX14_number_83 (by decide +kernel) (fun _ => ?_) (fun hc => absurd (show False by have := gj_neq hc (show Int32.toInt 0 = 0 by decide); omega) not_false)
            refine G_aload_n 1 dr_cX14_number_89 rfl ?_
            refine G_lload_n 0 dr_cX14_number_90 rfl ?_
            refine G_l2i dr_cX14_number_91 (G_nam fun z665590 hz665590 => ?_)
            have bz665590 : gB z665590 (-2147483648) 2147483647 := gB_any z665590
            refine Gp_put 5 hmq665312 he665541 dr_cX14_number_92 (gk_X14 D I) (Nat.le_of_ble_eq_true rfl) wr_9_41 rfl rfl rfl (Nat.le_of_ble_eq_true rfl) (fun F665591 e665592 n665593 => ?_)
            have he665594 : F665591 q665313 = .inl (I .byte, 8192, .inl f665328) := (n665593 q665313 (rn_ao he665542 he665541)).trans he665542
            have he665595 : F665591 q665312 = .inr (19, [.ref q665313, .int p665315, .int g665539, .int p665317, .int p665318, .int z665590, .int p665320, .ref qo665321, .int p665322, .int p665323, .int p665324, .ref qo665325, .ref qo665326, .int p665327]) := e665592
            have hfr665596 : rFr [q665312] P665310 F665311 F665591 := rFr_put' List.mem_cons_self hfr665543 n665593
            refine G_aload_n 1 dr_cX14_number_95 rfl ?_
            refine G_lload_n 0 dr_cX14_number_96 rfl ?_
            refine G_lload_n 0 dr_cX14_number_97 rfl ?_
            refine G_l2i dr_cX14_number_98 (G_nam fun z665597 hz665597 => ?_)
            have bz665597 : gB z665597 (-2147483648) 2147483647 := gB_any z665597
            refine G_i2l dr_cX14_number_99 (G_namL fun u665598 hu665598 => ?_)
            refine G_lcmp dr_cX14_number_100 (G_nam fun z665599 hz665599 => ?_)
            have bz665599 : gB z665599 (-1) 1 := gB_cmp hz665599
            refine G_if_ne 108 dr_cX14_number_101 (by decide +kernel) (fun hc665600 => ?_) (fun hc665600 => ?_)
            · have r665601 : z665599.toInt ≠ 0 := gj_neq hc665600 (show Int32.toInt 0 = 0 by decide)
              have lhc665600 := gC_cmpN hz665599 hc665600
              refine G_bipush 6 dr_cX14_number_108 (by decide +kernel) ?_
              refine Gp_put 3 hmq665312 he665595 dr_cX14_number_110 (gk_X14 D I) (Nat.le_of_ble_eq_true rfl) wr_9_39 rfl rfl rfl (Nat.le_of_ble_eq_true rfl) (fun F665602 e665603 n665604 => ?_)
              have he665605 : F665602 q665313 = .inl (I .byte, 8192, .inl f665328) := (n665604 q665313 (rn_ao he665594 he665595)).trans he665594
              have he665606 : F665602 q665312 = .inr (19, [.ref q665313, .int p665315, .int g665539, .int 6, .int p665318, .int z665590, .int p665320, .ref qo665321, .int p665322, .int p665323, .int p665324, .ref qo665325, .ref qo665326, .int p665327]) := e665603
              have hfr665607 : rFr [q665312] P665310 F665311 F665602 := rFr_put' List.mem_cons_self hfr665596 n665604
              exact G_vretA dr_cX14_number_113 rfl (show 0 ≤ ((16 * (p665315.toInt - p665316.toInt)).toNat) by omega) (show 0 ≤ ((160 * (p665315.toInt - p665316.toInt)).toNat) by omega) ⟨F665602, g665539, 6, z665590, (0, fun _ => 0), rfl, rfl, hfr665607, he665606, he665605, (by omega), (by omega), (gB_w bg665539' (by decide) (by decide)), (gB_w (gBl (show Int32.toInt 6 = 6 by decide)) (by decide) (by decide)), (by have qa0 : Int32.toInt 6 = 6 := (by decide); omega), (by have qa0 : Int32.toInt 6 = 6 := (by decide); omega), (tP_no (by decide) (by decide)), (vP_no (by decide) (by decide)), (fun R c1 c2 c3 c4 => c1 gl665538 g665539 z665590 z665597 u665598 r665336 hx665588 hz665590 hz665597 hu665598 lhc665600)⟩
            · have r665608 : z665599.toInt = 0 := gj_eq hc665600 (show Int32.toInt 0 = 0 by decide)
              have bz665599' : gB z665599 0 0 := ⟨by omega, by omega⟩
              have lhc665600 := gC_cmpE hz665599 hc665600
              refine G_iconst 4 dr_cX14_number_104 (by decide +kernel) ?_
              refine G_goto 110 dr_cX14_number_105 (by decide +kernel) ?_
              refine Gp_put 3 hmq665312 he665595 dr_cX14_number_110 (gk_X14 D I) (Nat.le_of_ble_eq_true rfl) wr_9_39 rfl rfl rfl (Nat.le_of_ble_eq_true rfl) (fun F665609 e665610 n665611 => ?_)
              have he665612 : F665609 q665313 = .inl (I .byte, 8192, .inl f665328) := (n665611 q665313 (rn_ao he665594 he665595)).trans he665594
              have he665613 : F665609 q665312 = .inr (19, [.ref q665313, .int p665315, .int g665539, .int 4, .int p665318, .int z665590, .int p665320, .ref qo665321, .int p665322, .int p665323, .int p665324, .ref qo665325, .ref qo665326, .int p665327]) := e665610
              have hfr665614 : rFr [q665312] P665310 F665311 F665609 := rFr_put' List.mem_cons_self hfr665596 n665611
              exact G_vretA dr_cX14_number_113 rfl (show 0 ≤ ((16 * (p665315.toInt - p665316.toInt)).toNat) by omega) (show 0 ≤ ((160 * (p665315.toInt - p665316.toInt)).toNat) by omega) ⟨F665609, g665539, 4, z665590, (0, fun _ => 0), rfl, rfl, hfr665614, he665613, he665612, (by omega), (by omega), (gB_w bg665539' (by decide) (by decide)), (gB_w (gBl (show Int32.toInt 4 = 4 by decide)) (by decide) (by decide)), (by have qa0 : Int32.toInt 4 = 4 := (by decide); omega), (by have qa0 : Int32.toInt 4 = 4 := (by decide); omega), (tP_no (by decide) (by decide)), (vP_no (by decide) (by decide)), (fun R c1 c2 c3 c4 => c2 gl665538 g665539 z665590 z665597 u665598 r665336 hx665588 hz665590 hz665597 hu665598 lhc665600)⟩
          · have r665615 : o665583.toInt ≠ 0 := gj_neq hc665586 (show Int32.toInt 0 = 0 by decide)
            have bo665583' : gB o665583 1 1 := ⟨by omega, by omega⟩
            have bi665616 : gB z665577 48 57 := isP_1 x665584 (by omega)
            refine G_lload_n 0 dr_cX14_number_42 rfl ?_
            refine G_ldc2 10 dr_cX14_number_43 wr_7_229 ?_
            refine G_lmul dr_cX14_number_46 (G_namL fun u665617 hu665617 => ?_)
            refine G_aload_n 1 dr_cX14_number_47 rfl ?_
            refine Gp_get 0 hmq665312 he665541 dr_cX14_number_48 (gk_X14 D I) (Nat.le_of_ble_eq_true rfl) wr_9_36 rfl ?_
            refine G_aload_n 1 dr_cX14_number_51 rfl ?_
            refine Gp_get 2 hmq665312 he665541 dr_cX14_number_52 (gk_X14 D I) (Nat.le_of_ble_eq_true rfl) wr_9_38 rfl ?_
            refine Gp_bald 1 hmq665313 he665542 dr_cX14_number_55 rfl (gB_in bg665539' (by decide) (by decide)) (G_eqi (y := z665577) hz665577.symm ?_)
            refine G_i2l dr_cX14_number_56 (G_namL fun u665618 hu665618 => ?_)
            refine G_ladd dr_cX14_number_57 (G_namL fun u665619 hu665619 => ?_)
            refine G_ldc2 48 dr_cX14_number_58 wr_7_230 ?_
            refine G_lsub dr_cX14_number_61 (G_namL fun u665620 hu665620 => ?_)
            refine G_ldc2 1099511627776 dr_cX14_number_62 wr_8_222 ?_
            refine Gw_callS (As := [.long u665620, .long 1099511627776]) (gV_ok D I) (cp_665424_Math_min l hl0 D I P665310 F665540 u665620 1099511627776 ) dr_cX14_number_65 ⟨wr_7_232, wr_1_6, wr_3_40, by decide, rfl, (Nat.le_of_ble_eq_true rfl), (Nat.le_of_ble_eq_true rfl)⟩ wr_3_39 (show 0 + 0 ≤ ((16 * (p665315.toInt - p665316.toInt)).toNat) by first | omega | decide) (show 0 + 0 ≤ ((160 * (p665315.toInt - p665316.toInt)).toNat) by first | omega | decide) (Nat.le_of_ble_eq_true rfl) (fun r665624 w665625 dc665621 ds665622 hp665623 => ?_) (fun _ _ _ _ _ z => z.elim)
            obtain ⟨ol665626, rfl, rfl, hdc, hds, x665627, ht665628⟩ := hp665623
            change G _ _ _ _ _ _ _ (.long ol665626 :: _) _ _ _
            refine G_widen (cs' := 0) (sl' := 0) (by omega) (by omega) ?_
            refine G_lstore_n (L' := [(2, .long ol665626), (0, .ref q665312), (1, .int p665314)]) dr_cX14_number_68 (Nat.le_of_ble_eq_true rfl) rfl ?_
            refine G_aload_n 1 dr_cX14_number_69 rfl ?_
            refine G_dup dr_cX14_number_70 rfl ?_
            refine Gp_get 2 hmq665312 he665541 dr_cX14_number_71 (gk_X14 D I) (Nat.le_of_ble_eq_true rfl) wr_9_38 rfl ?_
            refine G_iconst 1 dr_cX14_number_74 (by decide +kernel) ?_
            refine G_iadd dr_cX14_number_75 (G_nam fun z665629 hz665629 => ?_)
            have ez665629 : z665629.toInt = g665539.toInt + 1 := by rw [gI_add hz665629 bg665539' (gBl (show Int32.toInt 1 = 1 by decide)) (by decide) (by decide), show Int32.toInt 1 = 1 from by decide]
            have bz665629 : gB z665629 1 8192 := gB_add (gI_add hz665629 bg665539' (gBl (show Int32.toInt 1 = 1 by decide)) (by decide) (by decide)) bg665539' (gBl (show Int32.toInt 1 = 1 by decide)) (by decide) (by decide)
            refine Gp_put 2 hmq665312 he665541 dr_cX14_number_76 (gk_X14 D I) (Nat.le_of_ble_eq_true rfl) wr_9_38 rfl rfl rfl (Nat.le_of_ble_eq_true rfl) (fun F665630 e665631 n665632 => ?_)
            have he665633 : F665630 q665313 = .inl (I .byte, 8192, .inl f665328) := (n665632 q665313 (rn_ao he665542 he665541)).trans he665542
            have he665634 : F665630 q665312 = .inr (19, [.ref q665313, .int p665315, .int z665629, .int p665317, .int p665318, .int p665319, .int p665320, .ref qo665321, .int p665322, .int p665323, .int p665324, .ref qo665325, .ref qo665326, .int p665327]) := e665631
            have hfr665635 : rFr [q665312] P665310 F665311 F665630 := rFr_put' List.mem_cons_self hfr665543 n665632
            refine G_goto 16 dr_cX14_number_79 (by decide +kernel) ?_
            exact ih16_665546 F665630 ol665626 z665629 (gB_w bz665629 (by decide) (by decide)) hfr665635 he665634 he665633 (by omega) (by omega) (by omega) (fun k e1 e2 ht => kt16_665546 k e1 e2 (fun R c1 c2 c3 => c3 gl665538 g665539 z665577 o665583 u665617 u665618 u665619 u665620 ol665626 z665629 k e1 e2 bg665539 r665576 hz665577 bz665577 bo665583 ht665585 r665615 hu665617 hu665618 hu665619 hu665620 ht665628 ez665629 (ht R c1 c2 c3))) (by omega)
    exact hlp16_665546 (((8193 : Int) - p665316.toInt).toNat + 1) F665311 0 p665316 bp665316 (rFr_v (rFr_rf (W := []) (P := P665310) (F := F665311)) (fun b hn => nm_n)) heq665312 heq665313 (by omega) (by omega) (by omega) (fun k e1 e2 ht => ht) (Nat.lt_succ_self _)
  · have r665636 : p665314.toInt ≠ 0 := gj_neq hc665335 (show Int32.toInt 0 = 0 by decide)
    have bp665314' : gB p665314 1 1 := ⟨by omega, by omega⟩
    refine G_aload_n 0 dr_cX14_number_4 rfl ?_
    refine G_dup dr_cX14_number_5 rfl ?_
    refine Gp_get 2 hmq665312 heq665312 dr_cX14_number_6 (gk_X14 D I) (Nat.le_of_ble_eq_true rfl) wr_9_38 rfl ?_
    refine G_iconst 1 dr_cX14_number_9 (by decide +kernel) ?_
    refine G_iadd dr_cX14_number_10 (G_nam fun z665637 hz665637 => ?_)
    have ez665637 : z665637.toInt = p665316.toInt + 1 := by rw [gI_add hz665637 bp665316 (gBl (show Int32.toInt 1 = 1 by decide)) (by decide) (by decide), show Int32.toInt 1 = 1 from by decide]
    have bz665637 : gB z665637 1 8193 := gB_add (gI_add hz665637 bp665316 (gBl (show Int32.toInt 1 = 1 by decide)) (by decide) (by decide)) bp665316 (gBl (show Int32.toInt 1 = 1 by decide)) (by decide) (by decide)
    refine Gp_put 2 hmq665312 heq665312 dr_cX14_number_11 (gk_X14 D I) (Nat.le_of_ble_eq_true rfl) wr_9_38 rfl rfl rfl (Nat.le_of_ble_eq_true rfl) (fun F665638 e665639 n665640 => ?_)
    have he665641 : F665638 q665313 = .inl (I .byte, 8192, .inl f665328) := (n665640 q665313 (rn_ao heq665313 heq665312)).trans heq665313
    have he665642 : F665638 q665312 = .inr (19, [.ref q665313, .int p665315, .int z665637, .int p665317, .int p665318, .int p665319, .int p665320, .ref qo665321, .int p665322, .int p665323, .int p665324, .ref qo665325, .ref qo665326, .int p665327]) := e665639
    have hfr665643 : rFr [q665312] P665310 F665311 F665638 := rFr_put (rFr_rf (W := []) (P := P665310) (F := F665311)) n665640
    refine G_lconst 0 dr_cX14_number_14 rfl ?_
    refine G_lstore_n (L' := [(2, .long 0), (0, .ref q665312), (1, .int p665314)]) dr_cX14_number_15 (Nat.le_of_ble_eq_true rfl) rfl ?_
    have hlp16_665836 : ∀ (n16_665836 : Nat) (F665830 : Nat → va_E) (gl665828 : Int64) (g665829 : Int32), gB g665829 0 8192 → rFr [q665312] P665310 F665311 F665830 → F665830 q665312 = .inr (19, [.ref q665313, .int p665315, .int g665829, .int p665317, .int p665318, .int p665319, .int p665320, .ref qo665321, .int p665322, .int p665323, .int p665324, .ref qo665325, .ref qo665326, .int p665327]) → F665830 q665313 = .inl (I .byte, 8192, .inl f665328) → p665316.toInt ≤ g665829.toInt → g665829.toInt ≤ p665315.toInt → (p665314.toInt = 0 ∨ p665316.toInt < g665829.toInt) → (∀ (k : Nat) (e1 : Int64) (e2 : Int32), tl_RReader_number_16_2 p665315 f665328 gl665828 g665829 k e1 e2 → tl_RReader_number_16_2 p665315 f665328 (0 : Int64) z665637 k e1 e2) → ((8193 : Int) - g665829.toInt).toNat < n16_665836 → G (gV D I) l (gRm 1 23 ((16 * (p665315.toInt - p665316.toInt)).toNat) ((160 * (p665315.toInt - p665316.toInt)).toNat)) (gMA (gV D I) (pp_665334_Reader_number D I P665310 F665311 q665312 q665313 p665314 p665315 p665316 p665317 p665318 p665319 p665320 qo665321 p665322 p665323 p665324 qo665325 qo665326 p665327 f665328) gNA ((16 * (p665315.toInt - p665316.toInt)).toNat) ((160 * (p665315.toInt - p665316.toInt)).toNat)) ky_665334_Reader_number 16 [(2, .long gl665828), (0, .ref q665312), (1, .int p665314)] [] (va_pl P665310 F665830) 0 0 := by
      intro n16_665836
      induction n16_665836 with
      | zero => intro F665830 gl665828 g665829 bg665829 hfr665833 he665831 he665832 x665834 x665835 x665836 kt16_665836 hm16_665836; exact absurd hm16_665836 (Nat.not_lt_zero _)
      | succ n16_665836 ih16_665836 =>
        intro F665830 gl665828 g665829 bg665829 hfr665833 he665831 he665832 x665834 x665835 x665836 kt16_665836 hm16_665836
        refine G_aload_n 1 dr_cX14_number_16 rfl ?_
        refine Gp_get 2 hmq665312 he665831 dr_cX14_number_17 (gk_X14 D I) (Nat.le_of_ble_eq_true rfl) wr_9_38 rfl ?_
        refine G_aload_n 1 dr_cX14_number_20 rfl ?_
        refine Gp_get 1 hmq665312 he665831 dr_cX14_number_21 (gk_X14 D I) (Nat.le_of_ble_eq_true rfl) wr_9_37 rfl ?_
        refine G_icmp_ge 82 dr_cX14_number_24 (by decide +kernel) (fun hc665837 => ?_) (fun hc665837 => ?_)
        · have r665838 : p665315.toInt ≤ g665829.toInt := gC_le hc665837
          have hx665839 : tl_RReader_number_16_2 p665315 f665328 (0 : Int64) z665637 82 gl665828 g665829 := kt16_665836 82 gl665828 g665829 (fun R c1 c2 c3 => c1 gl665828 g665829 bg665829 r665838)
          have x665840 : p665316.toInt < g665829.toInt := by first | omega | exact cDg_lt x665331 (by omega) (by assumption) (isP_0 (by assumption) (by omega)) (by omega)
          refine G_iload_n 2 dr_cX14_number_82 rfl ?_
          refine G_if_eq 89 dr_cX14_number_83 (by decide +kernel) (fun hc => absurd (show False by have := gj_eq hc (show Int32.toInt 0 = 0 by decide); omega) not_false) (fun _ => ?_)
          refine G_lload_n 0 dr_cX14_number_86 rfl ?_
          refine G_lneg dr_cX14_number_87 (G_namL fun u665841 hu665841 => ?_)
          refine G_lstore_n (L' := [(2, .long u665841), (0, .ref q665312), (1, .int p665314)]) dr_cX14_number_88 (Nat.le_of_ble_eq_true rfl) rfl ?_
          refine G_aload_n 1 dr_cX14_number_89 rfl ?_
          refine G_lload_n 0 dr_cX14_number_90 rfl ?_
          refine G_l2i dr_cX14_number_91 (G_nam fun z665842 hz665842 => ?_)
          have bz665842 : gB z665842 (-2147483648) 2147483647 := gB_any z665842
          refine Gp_put 5 hmq665312 he665831 dr_cX14_number_92 (gk_X14 D I) (Nat.le_of_ble_eq_true rfl) wr_9_41 rfl rfl rfl (Nat.le_of_ble_eq_true rfl) (fun F665843 e665844 n665845 => ?_)
          have he665846 : F665843 q665313 = .inl (I .byte, 8192, .inl f665328) := (n665845 q665313 (rn_ao he665832 he665831)).trans he665832
          have he665847 : F665843 q665312 = .inr (19, [.ref q665313, .int p665315, .int g665829, .int p665317, .int p665318, .int z665842, .int p665320, .ref qo665321, .int p665322, .int p665323, .int p665324, .ref qo665325, .ref qo665326, .int p665327]) := e665844
          have hfr665848 : rFr [q665312] P665310 F665311 F665843 := rFr_put' List.mem_cons_self hfr665833 n665845
          refine G_aload_n 1 dr_cX14_number_95 rfl ?_
          refine G_lload_n 0 dr_cX14_number_96 rfl ?_
          refine G_lload_n 0 dr_cX14_number_97 rfl ?_
          refine G_l2i dr_cX14_number_98 (G_nam fun z665849 hz665849 => ?_)
          have bz665849 : gB z665849 (-2147483648) 2147483647 := gB_any z665849
          refine G_i2l dr_cX14_number_99 (G_namL fun u665850 hu665850 => ?_)
          refine G_lcmp dr_cX14_number_100 (G_nam fun z665851 hz665851 => ?_)
          have bz665851 : gB z665851 (-1) 1 := gB_cmp hz665851
          refine G_if_ne 108 dr_cX14_number_101 (by decide +kernel) (fun hc665852 => ?_) (fun hc665852 => ?_)
          · have r665853 : z665851.toInt ≠ 0 := gj_neq hc665852 (show Int32.toInt 0 = 0 by decide)
            have lhc665852 := gC_cmpN hz665851 hc665852
            refine G_bipush 6 dr_cX14_number_108 (by decide +kernel) ?_
            refine Gp_put 3 hmq665312 he665847 dr_cX14_number_110 (gk_X14 D I) (Nat.le_of_ble_eq_true rfl) wr_9_39 rfl rfl rfl (Nat.le_of_ble_eq_true rfl) (fun F665854 e665855 n665856 => ?_)
            have he665857 : F665854 q665313 = .inl (I .byte, 8192, .inl f665328) := (n665856 q665313 (rn_ao he665846 he665847)).trans he665846
            have he665858 : F665854 q665312 = .inr (19, [.ref q665313, .int p665315, .int g665829, .int 6, .int p665318, .int z665842, .int p665320, .ref qo665321, .int p665322, .int p665323, .int p665324, .ref qo665325, .ref qo665326, .int p665327]) := e665855
            have hfr665859 : rFr [q665312] P665310 F665311 F665854 := rFr_put' List.mem_cons_self hfr665848 n665856
            exact G_vretA dr_cX14_number_113 rfl (show 0 ≤ ((16 * (p665315.toInt - p665316.toInt)).toNat) by omega) (show 0 ≤ ((160 * (p665315.toInt - p665316.toInt)).toNat) by omega) ⟨F665854, g665829, 6, z665842, (0, fun _ => 0), rfl, rfl, hfr665859, he665858, he665857, (by omega), (by omega), bg665829, (gB_w (gBl (show Int32.toInt 6 = 6 by decide)) (by decide) (by decide)), (by have qa0 : Int32.toInt 6 = 6 := (by decide); omega), (by have qa0 : Int32.toInt 6 = 6 := (by decide); omega), (tP_no (by decide) (by decide)), (vP_no (by decide) (by decide)), (fun R c1 c2 c3 c4 => c3 z665637 gl665828 g665829 u665841 z665842 z665849 u665850 r665636 ez665637 hx665839 hu665841 hz665842 hz665849 hu665850 lhc665852)⟩
          · have r665860 : z665851.toInt = 0 := gj_eq hc665852 (show Int32.toInt 0 = 0 by decide)
            have bz665851' : gB z665851 0 0 := ⟨by omega, by omega⟩
            have lhc665852 := gC_cmpE hz665851 hc665852
            refine G_iconst 4 dr_cX14_number_104 (by decide +kernel) ?_
            refine G_goto 110 dr_cX14_number_105 (by decide +kernel) ?_
            refine Gp_put 3 hmq665312 he665847 dr_cX14_number_110 (gk_X14 D I) (Nat.le_of_ble_eq_true rfl) wr_9_39 rfl rfl rfl (Nat.le_of_ble_eq_true rfl) (fun F665861 e665862 n665863 => ?_)
            have he665864 : F665861 q665313 = .inl (I .byte, 8192, .inl f665328) := (n665863 q665313 (rn_ao he665846 he665847)).trans he665846
            have he665865 : F665861 q665312 = .inr (19, [.ref q665313, .int p665315, .int g665829, .int 4, .int p665318, .int z665842, .int p665320, .ref qo665321, .int p665322, .int p665323, .int p665324, .ref qo665325, .ref qo665326, .int p665327]) := e665862
            have hfr665866 : rFr [q665312] P665310 F665311 F665861 := rFr_put' List.mem_cons_self hfr665848 n665863
            exact G_vretA dr_cX14_number_113 rfl (show 0 ≤ ((16 * (p665315.toInt - p665316.toInt)).toNat) by omega) (show 0 ≤ ((160 * (p665315.toInt - p665316.toInt)).toNat) by omega) ⟨F665861, g665829, 4, z665842, (0, fun _ => 0), rfl, rfl, hfr665866, he665865, he665864, (by omega), (by omega), bg665829, (gB_w (gBl (show Int32.toInt 4 = 4 by decide)) (by decide) (by decide)), (by have qa0 : Int32.toInt 4 = 4 := (by decide); omega), (by have qa0 : Int32.toInt 4 = 4 := (by decide); omega), (tP_no (by decide) (by decide)), (vP_no (by decide) (by decide)), (fun R c1 c2 c3 c4 => c4 z665637 gl665828 g665829 u665841 z665842 z665849 u665850 r665636 ez665637 hx665839 hu665841 hz665842 hz665849 hu665850 lhc665852)⟩
        · have r665867 : g665829.toInt < p665315.toInt := gC_nle hc665837
          have bg665829' : gB g665829 0 8191 := ⟨by omega, by omega⟩
          have bp665315' : gB p665315 1 8192 := ⟨by omega, by omega⟩
          refine G_aload_n 1 dr_cX14_number_27 rfl ?_
          refine Gp_get 0 hmq665312 he665831 dr_cX14_number_28 (gk_X14 D I) (Nat.le_of_ble_eq_true rfl) wr_9_36 rfl ?_
          refine G_aload_n 1 dr_cX14_number_31 rfl ?_
          refine Gp_get 2 hmq665312 he665831 dr_cX14_number_32 (gk_X14 D I) (Nat.le_of_ble_eq_true rfl) wr_9_38 rfl ?_
          refine Gp_bald 1 hmq665313 he665832 dr_cX14_number_35 rfl (gB_in bg665829' (by decide) (by decide)) (G_nam fun z665868 hz665868 => ?_)
          have bz665868 : gB z665868 (-128) 127 := by rw [hz665868]; exact bf665328 _
          refine Gw_callS (As := [.int z665868]) (gV_ok D I) (cp_665370_Reader_isDigit l hl0 D I P665310 F665830 z665868 ) dr_cX14_number_36 ⟨wr_7_219, wr_1_32, wr_7_221, by decide, rfl, (Nat.le_of_ble_eq_true rfl), (Nat.le_of_ble_eq_true rfl)⟩ wr_7_220 (show 0 + 0 ≤ ((16 * (p665315.toInt - p665316.toInt)).toNat) by first | omega | decide) (show 0 + 0 ≤ ((160 * (p665315.toInt - p665316.toInt)).toNat) by first | omega | decide) (Nat.le_of_ble_eq_true rfl) (fun r665872 w665873 dc665869 ds665870 hp665871 => ?_) (fun _ _ _ _ _ z => z.elim)
          obtain ⟨o665874, rfl, rfl, hdc, hds, bo665874, x665875, ht665876⟩ := hp665871
          change G _ _ _ _ _ _ _ (.int o665874 :: _) _ _ _
          refine G_widen (cs' := 0) (sl' := 0) (by omega) (by omega) ?_
          refine G_if_eq 82 dr_cX14_number_39 (by decide +kernel) (fun hc665877 => ?_) (fun hc665877 => ?_)
          · have r665878 : o665874.toInt = 0 := gj_eq hc665877 (show Int32.toInt 0 = 0 by decide)
            have bo665874' : gB o665874 0 0 := ⟨by omega, by omega⟩
            have hx665879 : tl_RReader_number_16_2 p665315 f665328 (0 : Int64) z665637 82 gl665828 g665829 := kt16_665836 82 gl665828 g665829 (fun R c1 c2 c3 => c2 gl665828 g665829 z665868 o665874 bg665829 r665867 hz665868 bz665868 bo665874 ht665876 r665878)
            have x665880 : p665316.toInt < g665829.toInt := by first | omega | exact cDg_lt x665331 (by omega) (by assumption) (isP_0 (by assumption) (by omega)) (by omega)
            refine G_iload_n 2 dr_cX14_number_82 rfl ?_
            refine G_if_eq 89 dr_cX14_number_83 (by decide +kernel) (fun hc => absurd (show False by have := gj_eq hc (show Int32.toInt 0 = 0 by decide); omega) not_false) (fun _ => ?_)
            refine G_lload_n 0 dr_cX14_number_86 rfl ?_
            refine G_lneg dr_cX14_number_87 (G_namL fun u665881 hu665881 => ?_)
            refine G_lstore_n (L' := [(2, .long u665881), (0, .ref q665312), (1, .int p665314)]) dr_cX14_number_88 (Nat.le_of_ble_eq_true rfl) rfl ?_
            refine G_aload_n 1 dr_cX14_number_89 rfl ?_
            refine G_lload_n 0 dr_cX14_number_90 rfl ?_
            refine G_l2i dr_cX14_number_91 (G_nam fun z665882 hz665882 => ?_)
            have bz665882 : gB z665882 (-2147483648) 2147483647 := gB_any z665882
            refine Gp_put 5 hmq665312 he665831 dr_cX14_number_92 (gk_X14 D I) (Nat.le_of_ble_eq_true rfl) wr_9_41 rfl rfl rfl (Nat.le_of_ble_eq_true rfl) (fun F665883 e665884 n665885 => ?_)
            have he665886 : F665883 q665313 = .inl (I .byte, 8192, .inl f665328) := (n665885 q665313 (rn_ao he665832 he665831)).trans he665832
            have he665887 : F665883 q665312 = .inr (19, [.ref q665313, .int p665315, .int g665829, .int p665317, .int p665318, .int z665882, .int p665320, .ref qo665321, .int p665322, .int p665323, .int p665324, .ref qo665325, .ref qo665326, .int p665327]) := e665884
            have hfr665888 : rFr [q665312] P665310 F665311 F665883 := rFr_put' List.mem_cons_self hfr665833 n665885
            refine G_aload_n 1 dr_cX14_number_95 rfl ?_
            refine G_lload_n 0 dr_cX14_number_96 rfl ?_
            refine G_lload_n 0 dr_cX14_number_97 rfl ?_
            refine G_l2i dr_cX14_number_98 (G_nam fun z665889 hz665889 => ?_)
            have bz665889 : gB z665889 (-2147483648) 2147483647 := gB_any z665889
            refine G_i2l dr_cX14_number_99 (G_namL fun u665890 hu665890 => ?_)
            refine G_lcmp dr_cX14_number_100 (G_nam fun z665891 hz665891 => ?_)
            have bz665891 : gB z665891 (-1) 1 := gB_cmp hz665891
            refine G_if_ne 108 dr_cX14_number_101 (by decide +kernel) (fun hc665892 => ?_) (fun hc665892 => ?_)
            · have r665893 : z665891.toInt ≠ 0 := gj_neq hc665892 (show Int32.toInt 0 = 0 by decide)
              have lhc665892 := gC_cmpN hz665891 hc665892
              refine G_bipush 6 dr_cX14_number_108 (by decide +kernel) ?_
              refine Gp_put 3 hmq665312 he665887 dr_cX14_number_110 (gk_X14 D I) (Nat.le_of_ble_eq_true rfl) wr_9_39 rfl rfl rfl (Nat.le_of_ble_eq_true rfl) (fun F665894 e665895 n665896 => ?_)
              have he665897 : F665894 q665313 = .inl (I .byte, 8192, .inl f665328) := (n665896 q665313 (rn_ao he665886 he665887)).trans he665886
              have he665898 : F665894 q665312 = .inr (19, [.ref q665313, .int p665315, .int g665829, .int 6, .int p665318, .int z665882, .int p665320, .ref qo665321, .int p665322, .int p665323, .int p665324, .ref qo665325, .ref qo665326, .int p665327]) := e665895
              have hfr665899 : rFr [q665312] P665310 F665311 F665894 := rFr_put' List.mem_cons_self hfr665888 n665896
              exact G_vretA dr_cX14_number_113 rfl (show 0 ≤ ((16 * (p665315.toInt - p665316.toInt)).toNat) by omega) (show 0 ≤ ((160 * (p665315.toInt - p665316.toInt)).toNat) by omega) ⟨F665894, g665829, 6, z665882, (0, fun _ => 0), rfl, rfl, hfr665899, he665898, he665897, (by omega), (by omega), (gB_w bg665829' (by decide) (by decide)), (gB_w (gBl (show Int32.toInt 6 = 6 by decide)) (by decide) (by decide)), (by have qa0 : Int32.toInt 6 = 6 := (by decide); omega), (by have qa0 : Int32.toInt 6 = 6 := (by decide); omega), (tP_no (by decide) (by decide)), (vP_no (by decide) (by decide)), (fun R c1 c2 c3 c4 => c3 z665637 gl665828 g665829 u665881 z665882 z665889 u665890 r665636 ez665637 hx665879 hu665881 hz665882 hz665889 hu665890 lhc665892)⟩
            · have r665900 : z665891.toInt = 0 := gj_eq hc665892 (show Int32.toInt 0 = 0 by decide)
              have bz665891' : gB z665891 0 0 := ⟨by omega, by omega⟩
              have lhc665892 := gC_cmpE hz665891 hc665892
              refine G_iconst 4 dr_cX14_number_104 (by decide +kernel) ?_
              refine G_goto 110 dr_cX14_number_105 (by decide +kernel) ?_
              refine Gp_put 3 hmq665312 he665887 dr_cX14_number_110 (gk_X14 D I) (Nat.le_of_ble_eq_true rfl) wr_9_39 rfl rfl rfl (Nat.le_of_ble_eq_true rfl) (fun F665901 e665902 n665903 => ?_)
              have he665904 : F665901 q665313 = .inl (I .byte, 8192, .inl f665328) := (n665903 q665313 (rn_ao he665886 he665887)).trans he665886
              have he665905 : F665901 q665312 = .inr (19, [.ref q665313, .int p665315, .int g665829, .int 4, .int p665318, .int z665882, .int p665320, .ref qo665321, .int p665322, .int p665323, .int p665324, .ref qo665325, .ref qo665326, .int p665327]) := e665902
              have hfr665906 : rFr [q665312] P665310 F665311 F665901 := rFr_put' List.mem_cons_self hfr665888 n665903
              exact G_vretA dr_cX14_number_113 rfl (show 0 ≤ ((16 * (p665315.toInt - p665316.toInt)).toNat) by omega) (show 0 ≤ ((160 * (p665315.toInt - p665316.toInt)).toNat) by omega) ⟨F665901, g665829, 4, z665882, (0, fun _ => 0), rfl, rfl, hfr665906, he665905, he665904, (by omega), (by omega), (gB_w bg665829' (by decide) (by decide)), (gB_w (gBl (show Int32.toInt 4 = 4 by decide)) (by decide) (by decide)), (by have qa0 : Int32.toInt 4 = 4 := (by decide); omega), (by have qa0 : Int32.toInt 4 = 4 := (by decide); omega), (tP_no (by decide) (by decide)), (vP_no (by decide) (by decide)), (fun R c1 c2 c3 c4 => c4 z665637 gl665828 g665829 u665881 z665882 z665889 u665890 r665636 ez665637 hx665879 hu665881 hz665882 hz665889 hu665890 lhc665892)⟩
          · have r665907 : o665874.toInt ≠ 0 := gj_neq hc665877 (show Int32.toInt 0 = 0 by decide)
            have bo665874' : gB o665874 1 1 := ⟨by omega, by omega⟩
            have bi665908 : gB z665868 48 57 := isP_1 x665875 (by omega)
            refine G_lload_n 0 dr_cX14_number_42 rfl ?_
            refine G_ldc2 10 dr_cX14_number_43 wr_7_229 ?_
            refine G_lmul dr_cX14_number_46 (G_namL fun u665909 hu665909 => ?_)
            refine G_aload_n 1 dr_cX14_number_47 rfl ?_
            refine Gp_get 0 hmq665312 he665831 dr_cX14_number_48 (gk_X14 D I) (Nat.le_of_ble_eq_true rfl) wr_9_36 rfl ?_
            refine G_aload_n 1 dr_cX14_number_51 rfl ?_
            refine Gp_get 2 hmq665312 he665831 dr_cX14_number_52 (gk_X14 D I) (Nat.le_of_ble_eq_true rfl) wr_9_38 rfl ?_
            refine Gp_bald 1 hmq665313 he665832 dr_cX14_number_55 rfl (gB_in bg665829' (by decide) (by decide)) (G_eqi (y := z665868) hz665868.symm ?_)
            refine G_i2l dr_cX14_number_56 (G_namL fun u665910 hu665910 => ?_)
            refine G_ladd dr_cX14_number_57 (G_namL fun u665911 hu665911 => ?_)
            refine G_ldc2 48 dr_cX14_number_58 wr_7_230 ?_
            refine G_lsub dr_cX14_number_61 (G_namL fun u665912 hu665912 => ?_)
            refine G_ldc2 1099511627776 dr_cX14_number_62 wr_8_222 ?_
            refine Gw_callS (As := [.long u665912, .long 1099511627776]) (gV_ok D I) (cp_665424_Math_min l hl0 D I P665310 F665830 u665912 1099511627776 ) dr_cX14_number_65 ⟨wr_7_232, wr_1_6, wr_3_40, by decide, rfl, (Nat.le_of_ble_eq_true rfl), (Nat.le_of_ble_eq_true rfl)⟩ wr_3_39 (show 0 + 0 ≤ ((16 * (p665315.toInt - p665316.toInt)).toNat) by first | omega | decide) (show 0 + 0 ≤ ((160 * (p665315.toInt - p665316.toInt)).toNat) by first | omega | decide) (Nat.le_of_ble_eq_true rfl) (fun r665916 w665917 dc665913 ds665914 hp665915 => ?_) (fun _ _ _ _ _ z => z.elim)
            obtain ⟨ol665918, rfl, rfl, hdc, hds, x665919, ht665920⟩ := hp665915
            change G _ _ _ _ _ _ _ (.long ol665918 :: _) _ _ _
            refine G_widen (cs' := 0) (sl' := 0) (by omega) (by omega) ?_
            refine G_lstore_n (L' := [(2, .long ol665918), (0, .ref q665312), (1, .int p665314)]) dr_cX14_number_68 (Nat.le_of_ble_eq_true rfl) rfl ?_
            refine G_aload_n 1 dr_cX14_number_69 rfl ?_
            refine G_dup dr_cX14_number_70 rfl ?_
            refine Gp_get 2 hmq665312 he665831 dr_cX14_number_71 (gk_X14 D I) (Nat.le_of_ble_eq_true rfl) wr_9_38 rfl ?_
            refine G_iconst 1 dr_cX14_number_74 (by decide +kernel) ?_
            refine G_iadd dr_cX14_number_75 (G_nam fun z665921 hz665921 => ?_)
            have ez665921 : z665921.toInt = g665829.toInt + 1 := by rw [gI_add hz665921 bg665829' (gBl (show Int32.toInt 1 = 1 by decide)) (by decide) (by decide), show Int32.toInt 1 = 1 from by decide]
            have bz665921 : gB z665921 1 8192 := gB_add (gI_add hz665921 bg665829' (gBl (show Int32.toInt 1 = 1 by decide)) (by decide) (by decide)) bg665829' (gBl (show Int32.toInt 1 = 1 by decide)) (by decide) (by decide)
            refine Gp_put 2 hmq665312 he665831 dr_cX14_number_76 (gk_X14 D I) (Nat.le_of_ble_eq_true rfl) wr_9_38 rfl rfl rfl (Nat.le_of_ble_eq_true rfl) (fun F665922 e665923 n665924 => ?_)
            have he665925 : F665922 q665313 = .inl (I .byte, 8192, .inl f665328) := (n665924 q665313 (rn_ao he665832 he665831)).trans he665832
            have he665926 : F665922 q665312 = .inr (19, [.ref q665313, .int p665315, .int z665921, .int p665317, .int p665318, .int p665319, .int p665320, .ref qo665321, .int p665322, .int p665323, .int p665324, .ref qo665325, .ref qo665326, .int p665327]) := e665923
            have hfr665927 : rFr [q665312] P665310 F665311 F665922 := rFr_put' List.mem_cons_self hfr665833 n665924
            refine G_goto 16 dr_cX14_number_79 (by decide +kernel) ?_
            exact ih16_665836 F665922 ol665918 z665921 (gB_w bz665921 (by decide) (by decide)) hfr665927 he665926 he665925 (by omega) (by omega) (by omega) (fun k e1 e2 ht => kt16_665836 k e1 e2 (fun R c1 c2 c3 => c3 gl665828 g665829 z665868 o665874 u665909 u665910 u665911 u665912 ol665918 z665921 k e1 e2 bg665829 r665867 hz665868 bz665868 bo665874 ht665876 r665907 hu665909 hu665910 hu665911 hu665912 ht665920 ez665921 (ht R c1 c2 c3))) (by omega)
    exact hlp16_665836 (((8193 : Int) - z665637.toInt).toNat + 1) F665638 0 z665637 ⟨by omega, by omega⟩ hfr665643 he665642 he665641 (by omega) (by omega) (by omega) (fun k e1 e2 ht => ht) (Nat.lt_succ_self _)
/- tr_RReader_symbol: a.0...at, a.0...kind -/
def tr_RReader_symbol (a1 : Int32) (a0_n : Int32) (a0_at : Int32) (a0_t_v : Nat → Int32) (o1 : Int32) (o2 : Int32) (o3 : gTx) : Prop := ∀ R : (Int32) → (Int32) → (gTx) → Prop,
  (∀ (x1 : Int32) (x2 : Int32), (((∃ (y1 : Int32), y1.toInt = a0_at.toInt + 1 ∧ a0_n.toInt ≤ y1.toInt) ∨ (∃ (y1 : Int32) (y2 : Int32), y1.toInt = a0_at.toInt + 1 ∧ y1.toInt < a0_n.toInt ∧ y2 = a0_t_v y1.toNatClampNeg ∧ gB y2 (-128) 127 ∧ y2.toInt ≤ 32) ∨ (∃ (y1 : Int32) (y2 : Int32), y1.toInt = a0_at.toInt + 1 ∧ y1.toInt < a0_n.toInt ∧ y2 = a0_t_v y1.toNatClampNeg ∧ gB y2 (-128) 127 ∧ 32 < y2.toInt ∧ a1.toInt ≤ 32))) → gB x1 0 65535 → tr_RString_length2 sb_32 x1 → a1.toInt ≤ 32 → x2.toInt = a0_at.toInt + 1 → R x2 (6 : Int32) (0, fun _ => 0)) →
  (∀ (x1 : Int32) (x2 : Int32) (x3 : Int32) (x4 : Int32) (x5 : Nat → Int32) (x6 : Int32) (x7 : Int32) (x8 : Nat → Int32) (x9 : Nat) (x10 : Nat → Int32) (x11 : Int32), (((∃ (y1 : Int32), y1.toInt = a0_at.toInt + 1 ∧ a0_n.toInt ≤ y1.toInt) ∨ (∃ (y1 : Int32) (y2 : Int32), y1.toInt = a0_at.toInt + 1 ∧ y1.toInt < a0_n.toInt ∧ y2 = a0_t_v y1.toNatClampNeg ∧ gB y2 (-128) 127 ∧ y2.toInt ≤ 32) ∨ (∃ (y1 : Int32) (y2 : Int32), y1.toInt = a0_at.toInt + 1 ∧ y1.toInt < a0_n.toInt ∧ y2 = a0_t_v y1.toNatClampNeg ∧ gB y2 (-128) 127 ∧ 32 < y2.toInt ∧ a1.toInt ≤ 32))) → gB x1 0 65535 → tr_RString_length2 sb_32 x1 → 32 < a1.toInt → x2 = (a1.toUInt32 % 65536).toInt32 → gB x3 (-1) 65534 → tr_RString_indexOf2 sb_37 x2 x3 → x3.toInt < 0 → gB x4 0 16777216 → (tr_RStringBuilder_append4 sb_32 (0 : Int32) (fun _ => 0) 16 x4 x5) → x6 = (a1.toUInt32 % 65536).toInt32 → gB x7 1 16777216 → tr_RStringBuilder_append x6 x4 x5 16 x7 x8 → tr_RStringBuilder_toString x7 x8 16 x9 x10 → x11.toInt = a0_at.toInt + 1 → R x11 (6 : Int32) (0, fun _ => 0)) →
  (∀ (x1 : Int32) (x2 : Int32) (x3 : Int32) (x4 : Int32) (x5 : Nat → Int32) (x6 : Int32) (x7 : Int32) (x8 : Nat → Int32) (x9 : Nat) (x10 : Nat → Int32) (x11 : Int32), (((∃ (y1 : Int32), y1.toInt = a0_at.toInt + 1 ∧ a0_n.toInt ≤ y1.toInt) ∨ (∃ (y1 : Int32) (y2 : Int32), y1.toInt = a0_at.toInt + 1 ∧ y1.toInt < a0_n.toInt ∧ y2 = a0_t_v y1.toNatClampNeg ∧ gB y2 (-128) 127 ∧ y2.toInt ≤ 32) ∨ (∃ (y1 : Int32) (y2 : Int32), y1.toInt = a0_at.toInt + 1 ∧ y1.toInt < a0_n.toInt ∧ y2 = a0_t_v y1.toNatClampNeg ∧ gB y2 (-128) 127 ∧ 32 < y2.toInt ∧ a1.toInt ≤ 32))) → gB x1 0 65535 → tr_RString_length2 sb_32 x1 → 32 < a1.toInt → x2 = (a1.toUInt32 % 65536).toInt32 → gB x3 (-1) 65534 → tr_RString_indexOf2 sb_37 x2 x3 → 0 ≤ x3.toInt → gB x4 0 16777216 → (tr_RStringBuilder_append4 sb_32 (0 : Int32) (fun _ => 0) 16 x4 x5) → x6 = (a1.toUInt32 % 65536).toInt32 → gB x7 1 16777216 → tr_RStringBuilder_append x6 x4 x5 16 x7 x8 → tr_RStringBuilder_toString x7 x8 16 x9 x10 → x11.toInt = a0_at.toInt + 1 → R x11 (5 : Int32) (x9, x10)) →
  (∀ (x1 : Int32) (x2 : Int32) (x3 : Int32) (x4 : Nat → Int32) (x5 : Int32) (x6 : Int32) (x7 : Nat → Int32) (x8 : Int32) (x9 : Int32) (x10 : Nat → Int32) (x11 : Nat) (x12 : Nat → Int32) (x13 : Int32) (x14 : Int32) (x15 : Nat → Int32) (x16 : Int32) (x17 : Nat → Int32) (x18 : Int32) (x19 : Nat → Int32) (x20 : Nat) (x21 : Nat → Int32) (x22 : Int32) (x23 : Int32) (x24 : Int32) (x25 : Int32) (x26 : Nat → Int32) (x27 : Int32) (x28 : Int32) (x29 : Nat → Int32) (x30 : Nat) (x31 : Nat → Int32), x1.toInt = a0_at.toInt + 1 → x1.toInt < a0_n.toInt → x2 = a0_t_v x1.toNatClampNeg → gB x2 (-128) 127 → 32 < x2.toInt → 32 < a1.toInt → gB x3 0 16777216 → (tr_RStringBuilder_append4 sb_32 (0 : Int32) (fun _ => 0) 16 x3 x4) → x5 = (a1.toUInt32 % 65536).toInt32 → gB x6 1 16777216 → tr_RStringBuilder_append x5 x3 x4 16 x6 x7 → x8 = (x2.toUInt32 % 65536).toInt32 → gB x9 1 16777216 → tr_RStringBuilder_append x8 x6 x7 16 x9 x10 → tr_RStringBuilder_toString x9 x10 16 x11 x12 → gB x13 0 16777216 → tr_RString_length x11 x13 → gB x14 0 16777216 → (tr_RStringBuilder_append4 sb_35 (0 : Int32) (fun _ => 0) 16 x14 x15) → gB x16 0 16777216 → tr_RStringBuilder_append3 x14 x15 16 x12 x11 x16 x17 → gB x18 0 16777216 → tr_RStringBuilder_append4 sb_35 x16 x17 16 x18 x19 → tr_RStringBuilder_toString x18 x19 16 x20 x21 → gB x22 (-2147483646) 16777215 → tr_RString_indexOf sb_36 x21 x20 x22 → x22.toInt < 0 → x23 = (a1.toUInt32 % 65536).toInt32 → gB x24 (-1) 65534 → tr_RString_indexOf2 sb_37 x23 x24 → x24.toInt < 0 → gB x25 0 16777216 → (tr_RStringBuilder_append4 sb_32 (0 : Int32) (fun _ => 0) 16 x25 x26) → x27 = (a1.toUInt32 % 65536).toInt32 → gB x28 1 16777216 → tr_RStringBuilder_append x27 x25 x26 16 x28 x29 → tr_RStringBuilder_toString x28 x29 16 x30 x31 → R x1 (6 : Int32) (0, fun _ => 0)) →
  (∀ (x1 : Int32) (x2 : Int32) (x3 : Int32) (x4 : Nat → Int32) (x5 : Int32) (x6 : Int32) (x7 : Nat → Int32) (x8 : Int32) (x9 : Int32) (x10 : Nat → Int32) (x11 : Nat) (x12 : Nat → Int32) (x13 : Int32) (x14 : Int32) (x15 : Nat → Int32) (x16 : Int32) (x17 : Nat → Int32) (x18 : Int32) (x19 : Nat → Int32) (x20 : Nat) (x21 : Nat → Int32) (x22 : Int32) (x23 : Int32) (x24 : Int32) (x25 : Int32) (x26 : Nat → Int32) (x27 : Int32) (x28 : Int32) (x29 : Nat → Int32) (x30 : Nat) (x31 : Nat → Int32), x1.toInt = a0_at.toInt + 1 → x1.toInt < a0_n.toInt → x2 = a0_t_v x1.toNatClampNeg → gB x2 (-128) 127 → 32 < x2.toInt → 32 < a1.toInt → gB x3 0 16777216 → (tr_RStringBuilder_append4 sb_32 (0 : Int32) (fun _ => 0) 16 x3 x4) → x5 = (a1.toUInt32 % 65536).toInt32 → gB x6 1 16777216 → tr_RStringBuilder_append x5 x3 x4 16 x6 x7 → x8 = (x2.toUInt32 % 65536).toInt32 → gB x9 1 16777216 → tr_RStringBuilder_append x8 x6 x7 16 x9 x10 → tr_RStringBuilder_toString x9 x10 16 x11 x12 → gB x13 0 16777216 → tr_RString_length x11 x13 → gB x14 0 16777216 → (tr_RStringBuilder_append4 sb_35 (0 : Int32) (fun _ => 0) 16 x14 x15) → gB x16 0 16777216 → tr_RStringBuilder_append3 x14 x15 16 x12 x11 x16 x17 → gB x18 0 16777216 → tr_RStringBuilder_append4 sb_35 x16 x17 16 x18 x19 → tr_RStringBuilder_toString x18 x19 16 x20 x21 → gB x22 (-2147483646) 16777215 → tr_RString_indexOf sb_36 x21 x20 x22 → x22.toInt < 0 → x23 = (a1.toUInt32 % 65536).toInt32 → gB x24 (-1) 65534 → tr_RString_indexOf2 sb_37 x23 x24 → 0 ≤ x24.toInt → gB x25 0 16777216 → (tr_RStringBuilder_append4 sb_32 (0 : Int32) (fun _ => 0) 16 x25 x26) → x27 = (a1.toUInt32 % 65536).toInt32 → gB x28 1 16777216 → tr_RStringBuilder_append x27 x25 x26 16 x28 x29 → tr_RStringBuilder_toString x28 x29 16 x30 x31 → R x1 (5 : Int32) (x30, x31)) →
  (∀ (x1 : Int32) (x2 : Int32) (x3 : Int32) (x4 : Nat → Int32) (x5 : Int32) (x6 : Int32) (x7 : Nat → Int32) (x8 : Int32) (x9 : Int32) (x10 : Nat → Int32) (x11 : Nat) (x12 : Nat → Int32) (x13 : Int32) (x14 : Int32) (x15 : Nat → Int32) (x16 : Int32) (x17 : Nat → Int32) (x18 : Int32) (x19 : Nat → Int32) (x20 : Nat) (x21 : Nat → Int32) (x22 : Int32) (x23 : Int32), x1.toInt = a0_at.toInt + 1 → x1.toInt < a0_n.toInt → x2 = a0_t_v x1.toNatClampNeg → gB x2 (-128) 127 → 32 < x2.toInt → 32 < a1.toInt → gB x3 0 16777216 → (tr_RStringBuilder_append4 sb_32 (0 : Int32) (fun _ => 0) 16 x3 x4) → x5 = (a1.toUInt32 % 65536).toInt32 → gB x6 1 16777216 → tr_RStringBuilder_append x5 x3 x4 16 x6 x7 → x8 = (x2.toUInt32 % 65536).toInt32 → gB x9 1 16777216 → tr_RStringBuilder_append x8 x6 x7 16 x9 x10 → tr_RStringBuilder_toString x9 x10 16 x11 x12 → gB x13 0 16777216 → tr_RString_length x11 x13 → gB x14 0 16777216 → (tr_RStringBuilder_append4 sb_35 (0 : Int32) (fun _ => 0) 16 x14 x15) → gB x16 0 16777216 → tr_RStringBuilder_append3 x14 x15 16 x12 x11 x16 x17 → gB x18 0 16777216 → tr_RStringBuilder_append4 sb_35 x16 x17 16 x18 x19 → tr_RStringBuilder_toString x18 x19 16 x20 x21 → gB x22 (-2147483646) 16777215 → tr_RString_indexOf sb_36 x21 x20 x22 → 0 ≤ x22.toInt → x23.toInt = a0_at.toInt + 2 → R x23 (5 : Int32) (x11, x12)) →
  R o1 o2 o3
abbrev ky_665957_Reader_symbol : gKey := (cX14_symbol, 4, "SpillForgeModel$Reader", none, [], "symbol", fun _ _ => True)
def pp_665957_Reader_symbol (D : va_G) (I : FieldType → ClassId) (P665934 : List Nat) (F665935 : Nat → va_E) (q665936 : Nat) (q665937 : Nat) (p665938 : Int32) (p665939 : Int32) (p665940 : Int32) (p665941 : Int32) (p665942 : Int32) (p665943 : Int32) (p665944 : Int32) (qo665945 : Nat) (p665946 : Int32) (p665947 : Int32) (p665948 : Int32) (qo665949 : Nat) (qo665950 : Nat) (p665951 : Int32) (f665952 : Nat → Int32) : Option Value → va_W → Nat → Nat → Prop := fun r w dc ds => ∃ (P666950 : List Nat) (F666951 : Nat → va_E) (o666947 : Int32) (o666948 : Int32) (q666949 : Nat) (xt666952 : gTx), r = none ∧ w = va_pl P666950 F666951 ∧ rSub P665934 P666950 ∧ rFr [q665936] P665934 F665935 F666951 ∧ F666951 q665936 = .inr (19, [.ref q665937, .int p665939, .int o666947, .int o666948, .int p665942, .int p665943, .int p665944, .ref q666949, .int p665946, .int p665947, .int p665948, .ref qo665949, .ref qo665950, .int p665951]) ∧ F666951 q665937 = .inl (I .byte, 8192, .inl f665952) ∧ dc ≤ (16 * (o666947.toInt - p665940.toInt)).toNat ∧ ds ≤ (160 * (o666947.toInt - p665940.toInt)).toNat ∧ gB o666947 1 8192 ∧ gB o666948 5 6 ∧ p665940.toInt < o666947.toInt ∧ o666947.toInt ≤ p665939.toInt ∧ tP I P666950 F666951 o666948 q666949 qo665950 qo665949 xt666952 ∧ vP o666948 p665943 ∧ tr_RReader_symbol p665938 p665939 p665940 f665952 o666947 o666948 xt666952
set_option maxRecDepth 100000 in
set_option maxHeartbeats 4000000 in
theorem cp_665957_Reader_symbol (l : Launch) (hl0 : l.stackTraces = false) (D : va_G) (I : FieldType → ClassId) (P665934 : List Nat) (F665935 : Nat → va_E) (q665936 : Nat) (q665937 : Nat) (p665938 : Int32) (p665939 : Int32) (p665940 : Int32) (p665941 : Int32) (p665942 : Int32) (p665943 : Int32) (p665944 : Int32) (qo665945 : Nat) (p665946 : Int32) (p665947 : Int32) (p665948 : Int32) (qo665949 : Nat) (qo665950 : Nat) (p665951 : Int32) (f665952 : Nat → Int32) (hmq665936 : q665936 ∈ P665934) (hmq665937 : q665937 ∈ P665934) (heq665936 : F665935 q665936 = .inr (19, [.ref q665937, .int p665939, .int p665940, .int p665941, .int p665942, .int p665943, .int p665944, .ref qo665945, .int p665946, .int p665947, .int p665948, .ref qo665949, .ref qo665950, .int p665951])) (heq665937 : F665935 q665937 = .inl (I .byte, 8192, .inl f665952)) (bp665938 : gB p665938 (-128) 127) (bp665939 : gB p665939 0 8192) (bp665940 : gB p665940 0 8192) (bp665941 : gB p665941 0 6) (bp665942 : gB p665942 0 8192) (bp665944 : gB p665944 0 6) (bp665946 : gB p665946 (-1) 8192) (bp665947 : gB p665947 0 4) (bp665948 : gB p665948 0 1000000) (bp665951 : gB p665951 0 1000000) (bf665952 : gF f665952 (-128) 127) (x665953 : p665940.toInt ≤ p665939.toInt) (x665954 : p665940.toInt < p665939.toInt) (x665955 : qo665950 ∈ P665934) (x665956 : qo665949 ∈ P665934) : CtA (gV D I) l yX14_symbol cX14_symbol 4 none 6 132 ((16 * (p665939.toInt - p665940.toInt)).toNat) ((160 * (p665939.toInt - p665940.toInt)).toNat) [.ref q665936, .int p665938] (va_pl P665934 F665935) (pp_665957_Reader_symbol D I P665934 F665935 q665936 q665937 p665938 p665939 p665940 p665941 p665942 p665943 p665944 qo665945 p665946 p665947 p665948 qo665949 qo665950 p665951 f665952) gNA := by
  refine CtA_of hl0 (by decide) (Nat.le_of_ble_eq_true rfl) ?_
  have bp665943 := gB_any p665943
  have hMC : 16 ≤ ((16 * (p665939.toInt - p665940.toInt)).toNat) := by omega
  have hMS : 160 ≤ ((160 * (p665939.toInt - p665940.toInt)).toNat) := by omega
  have jn665958 : ((∃ (y1 : Int32), y1.toInt = p665940.toInt + 1 ∧ p665939.toInt ≤ y1.toInt) ∨ (∃ (y1 : Int32) (y2 : Int32), y1.toInt = p665940.toInt + 1 ∧ y1.toInt < p665939.toInt ∧ y2 = f665952 y1.toNatClampNeg ∧ gB y2 (-128) 127 ∧ y2.toInt ≤ 32) ∨ (∃ (y1 : Int32) (y2 : Int32), y1.toInt = p665940.toInt + 1 ∧ y1.toInt < p665939.toInt ∧ y2 = f665952 y1.toNatClampNeg ∧ gB y2 (-128) 127 ∧ 32 < y2.toInt ∧ p665938.toInt ≤ 32)) → G (gV D I) l (gRm 6 132 ((16 * (p665939.toInt - p665940.toInt)).toNat) ((160 * (p665939.toInt - p665940.toInt)).toNat)) (gMA (gV D I) (pp_665957_Reader_symbol D I P665934 F665935 q665936 q665937 p665938 p665939 p665940 p665941 p665942 p665943 p665944 qo665945 p665946 p665947 p665948 qo665949 qo665950 p665951 f665952) gNA ((16 * (p665939.toInt - p665940.toInt)).toNat) ((160 * (p665939.toInt - p665940.toInt)).toNat)) ky_665957_Reader_symbol 73 [(0, .ref q665936), (1, .int p665938)] [] (va_pl P665934 F665935) 0 0 := by
    intro hJ665959
    refine G_ldcK (a := D.2 1000 32) dr_cX14_symbol_73 (fun _ _ _ h => gx_vk 32 rfl rfl h) ?_
    have hl32_665959 : (sb_32.length : Int) = 0 := rfl
    refine G_astore_n (L' := [(2, .ref (D.2 1000 32)), (0, .ref q665936), (1, .int p665938)]) dr_cX14_symbol_75 (Nat.le_of_ble_eq_true rfl) rfl ?_
    refine G_aload_n 0 dr_cX14_symbol_76 rfl ?_
    refine Gw_callVk (As := []) (gV_ok D I) (cp_656532_String_length l hl0 D I P665934 F665935 (D.2 1000 32) (D.2 1001 32) sb_32 (gx_sc 32 rfl rfl) (by omega) (by decide +kernel)) dr_cX14_symbol_77 ⟨wr_8_227, wr_1_21, wr_3_60, by decide, rfl, (Nat.le_of_ble_eq_true rfl), (Nat.le_of_ble_eq_true rfl)⟩ wr_3_58 wr_3_59 (fun _ _ _ h => ((gx_sc 32 rfl rfl) _ _ _ h).1) (Nat.le_trans (show 0 + 0 ≤ 16 by decide) hMC) (Nat.le_trans (show 0 + 0 ≤ 160 by decide) hMS) (Nat.le_of_ble_eq_true rfl) (fun r665964 w665965 dc665961 ds665962 hp665963 => ?_) (fun _ _ _ _ _ z => z.elim)
    obtain ⟨o665966, rfl, rfl, hdc, hds, bo665966, x665967, ht665968⟩ := hp665963
    have bo665966' : gB o665966 0 0 := ⟨by omega, by omega⟩
    change G _ _ _ _ _ _ _ (.int o665966 :: _) _ _ _
    refine G_widen (cs' := 0) (sl' := 0) (Nat.add_le_add_left hdc 0) (Nat.add_le_add_left hds 0) ?_
    refine G_iconst 2 dr_cX14_symbol_80 (by decide +kernel) ?_
    refine G_icmp_ne 120 dr_cX14_symbol_81 (by decide +kernel) (fun _ => ?_) (fun hc => absurd (show False by have := gj_eq hc (show Int32.toInt 2 = 2 by decide); omega) not_false)
    refine G_iconst 0 dr_cX14_symbol_120 (by decide +kernel) ?_
    refine G_istore_n (L' := [(3, .int 0), (2, .ref (D.2 1000 32)), (0, .ref q665936), (1, .int p665938)]) dr_cX14_symbol_121 (Nat.le_of_ble_eq_true rfl) rfl ?_
    clear bo665966'; try clear r665964; try clear w665965; try clear dc665961; try clear ds665962; try clear hp665963; try clear x665967
    refine G_aload_n 2 dr_cX14_symbol_122 rfl ?_
    refine G_iload_n 0 dr_cX14_symbol_123 rfl ?_
    refine G_if_ne 143 dr_cX14_symbol_124 (by decide +kernel) (fun hc => absurd hc (by decide)) (fun _ => ?_)
    refine G_iload_n 3 dr_cX14_symbol_127 rfl ?_
    refine G_bipush 32 dr_cX14_symbol_128 (by decide +kernel) ?_
    refine G_icmp_le 147 dr_cX14_symbol_130 (by decide +kernel) (fun hc665969 => ?_) (fun hc665969 => ?_)
    · have r665970 : p665938.toInt ≤ 32 := gj_le hc665969 (show Int32.toInt 32 = 32 by decide)
      have bp665938' : gB p665938 (-128) 32 := ⟨by omega, by omega⟩
      refine G_bipush 6 dr_cX14_symbol_147 (by decide +kernel) ?_
      refine Gp_put 3 hmq665936 heq665936 dr_cX14_symbol_149 (gk_X14 D I) (Nat.le_of_ble_eq_true rfl) wr_9_39 rfl rfl rfl (Nat.le_of_ble_eq_true rfl) (fun F665971 e665972 n665973 => ?_)
      have he665974 : F665971 q665937 = .inl (I .byte, 8192, .inl f665952) := (n665973 q665937 (rn_ao heq665937 heq665936)).trans heq665937
      have he665975 : F665971 q665936 = .inr (19, [.ref q665937, .int p665939, .int p665940, .int 6, .int p665942, .int p665943, .int p665944, .ref qo665945, .int p665946, .int p665947, .int p665948, .ref qo665949, .ref qo665950, .int p665951]) := e665972
      have hfr665976 : rFr [q665936] P665934 F665935 F665971 := rFr_put (rFr_rf (W := []) (P := P665934) (F := F665935)) n665973
      refine G_aload_n 2 dr_cX14_symbol_152 rfl ?_
      refine G_iload_n 0 dr_cX14_symbol_153 rfl ?_
      refine G_if_eq 161 dr_cX14_symbol_154 (by decide +kernel) (fun _ => ?_) (fun hc => absurd hc (by decide))
      refine G_iload_n 3 dr_cX14_symbol_161 rfl ?_
      refine G_bipush 32 dr_cX14_symbol_162 (by decide +kernel) ?_
      refine G_icmp_le 190 dr_cX14_symbol_164 (by decide +kernel) (fun _ => ?_) (fun hc => absurd (show False by have := gj_nle hc (show Int32.toInt 32 = 32 by decide); omega) not_false)
      refine G_ldcK (a := D.2 1000 32) dr_cX14_symbol_190 (fun _ _ _ h => gx_vk 32 rfl rfl h) ?_
      have hl32_665976 : (sb_32.length : Int) = 0 := rfl
      refine Gp_put 7 hmq665936 he665975 dr_cX14_symbol_192 (gk_X14 D I) (Nat.le_of_ble_eq_true rfl) wr_9_43 rfl rfl rfl (Nat.le_of_ble_eq_true rfl) (fun F665978 e665979 n665980 => ?_)
      have he665981 : F665978 q665937 = .inl (I .byte, 8192, .inl f665952) := (n665980 q665937 (rn_ao he665974 he665975)).trans he665974
      have he665982 : F665978 q665936 = .inr (19, [.ref q665937, .int p665939, .int p665940, .int 6, .int p665942, .int p665943, .int p665944, .ref (D.2 1000 32), .int p665946, .int p665947, .int p665948, .ref qo665949, .ref qo665950, .int p665951]) := e665979
      have hfr665983 : rFr [q665936] P665934 F665935 F665978 := rFr_put' List.mem_cons_self hfr665976 n665980
      clear he665974 he665975 hfr665976
      refine G_aload_n 2 dr_cX14_symbol_195 rfl ?_
      refine G_dup dr_cX14_symbol_196 rfl ?_
      refine Gp_get 2 hmq665936 he665982 dr_cX14_symbol_197 (gk_X14 D I) (Nat.le_of_ble_eq_true rfl) wr_9_38 rfl ?_
      refine G_iload_n 0 dr_cX14_symbol_200 rfl ?_
      refine G_if_eq 208 dr_cX14_symbol_201 (by decide +kernel) (fun _ => ?_) (fun hc => absurd hc (by decide))
      refine G_iconst 1 dr_cX14_symbol_208 (by decide +kernel) ?_
      refine G_iadd dr_cX14_symbol_209 (G_nam fun z665984 hz665984 => ?_)
      have ez665984 : z665984.toInt = p665940.toInt + 1 := by rw [gI_add hz665984 bp665940 (gBl (show Int32.toInt 1 = 1 by decide)) (by decide) (by decide), show Int32.toInt 1 = 1 from by decide]
      have bz665984 : gB z665984 1 8193 := gB_add (gI_add hz665984 bp665940 (gBl (show Int32.toInt 1 = 1 by decide)) (by decide) (by decide)) bp665940 (gBl (show Int32.toInt 1 = 1 by decide)) (by decide) (by decide)
      refine Gp_put 2 hmq665936 he665982 dr_cX14_symbol_210 (gk_X14 D I) (Nat.le_of_ble_eq_true rfl) wr_9_38 rfl rfl rfl (Nat.le_of_ble_eq_true rfl) (fun F665985 e665986 n665987 => ?_)
      have he665988 : F665985 q665937 = .inl (I .byte, 8192, .inl f665952) := (n665987 q665937 (rn_ao he665981 he665982)).trans he665981
      have he665989 : F665985 q665936 = .inr (19, [.ref q665937, .int p665939, .int z665984, .int 6, .int p665942, .int p665943, .int p665944, .ref (D.2 1000 32), .int p665946, .int p665947, .int p665948, .ref qo665949, .ref qo665950, .int p665951]) := e665986
      have hfr665990 : rFr [q665936] P665934 F665935 F665985 := rFr_put' List.mem_cons_self hfr665983 n665987
      exact G_vretA dr_cX14_symbol_213 rfl (show 0 ≤ ((16 * (p665939.toInt - p665940.toInt)).toNat) by omega) (show 0 ≤ ((160 * (p665939.toInt - p665940.toInt)).toNat) by omega) ⟨P665934, F665985, z665984, 6, (D.2 1000 32), (0, fun _ => 0), rfl, rfl, (rSub_rf (P := P665934)), hfr665990, he665989, he665988, (by omega), (by omega), ⟨by omega, by omega⟩, (gB_w (gBl (show Int32.toInt 6 = 6 by decide)) (by decide) (by decide)), (by have qa0 : Int32.toInt 0 = 0 := (by decide); have qa1 : Int32.toInt 6 = 6 := (by decide); omega), (by have qa0 : Int32.toInt 0 = 0 := (by decide); have qa1 : Int32.toInt 6 = 6 := (by decide); omega), (tP_no (by decide) (by decide)), (vP_no (by decide) (by decide)), (fun R c1 c2 c3 c4 c5 c6 => c1 o665966 z665984 hJ665959 bo665966 ht665968 r665970 ez665984)⟩
    · have r665991 : 32 < p665938.toInt := gj_nle hc665969 (show Int32.toInt 32 = 32 by decide)
      have bp665938' : gB p665938 33 127 := ⟨by omega, by omega⟩
      refine G_ldcK (a := D.2 1000 37) dr_cX14_symbol_133 (fun _ _ _ h => gx_vk 37 rfl rfl h) ?_
      have hl37_665991 : (sb_37.length : Int) = 14 := rfl
      refine G_iload_n 3 dr_cX14_symbol_135 rfl ?_
      refine G_i2c dr_cX14_symbol_136 (G_nam fun z665993 hz665993 => ?_)
      have ez665993 : z665993.toInt = p665938.toInt := gI_i2c hz665993 (by omega) (by omega)
      have bz665993 : gB z665993 33 127 := ⟨by omega, by omega⟩
      refine Gw_callVk (As := [.int z665993]) (gV_ok D I) (cp_664519_String_indexOf l hl0 D I P665934 F665935 (D.2 1000 37) (D.2 1001 37) sb_37 z665993 (gx_sc 37 rfl rfl) (by omega) (by decide +kernel) (gB_w bz665993 (by decide) (by decide))) dr_cX14_symbol_137 ⟨wr_8_230, wr_1_21, wr_8_233, by decide, rfl, (Nat.le_of_ble_eq_true rfl), (Nat.le_of_ble_eq_true rfl)⟩ wr_8_231 wr_8_232 (fun _ _ _ h => ((gx_sc 37 rfl rfl) _ _ _ h).1) (Nat.le_trans (show 0 + 0 ≤ 16 by decide) hMC) (Nat.le_trans (show 0 + 0 ≤ 160 by decide) hMS) (Nat.le_of_ble_eq_true rfl) (fun r665997 w665998 dc665994 ds665995 hp665996 => ?_) (fun _ _ _ _ _ z => z.elim)
      obtain ⟨o665999, rfl, rfl, hdc, hds, bo665999, ht666000⟩ := hp665996
      change G _ _ _ _ _ _ _ (.int o665999 :: _) _ _ _
      refine G_widen (cs' := 0) (sl' := 0) (Nat.add_le_add_left hdc 0) (Nat.add_le_add_left hds 0) ?_
      refine G_if_lt 147 dr_cX14_symbol_140 (by decide +kernel) (fun hc666001 => ?_) (fun hc666001 => ?_)
      · have r666002 : o665999.toInt < 0 := gj_lt hc666001 (show Int32.toInt 0 = 0 by decide)
        have bo665999' : gB o665999 (-1) (-1) := ⟨by omega, by omega⟩
        refine G_bipush 6 dr_cX14_symbol_147 (by decide +kernel) ?_
        refine Gp_put 3 hmq665936 heq665936 dr_cX14_symbol_149 (gk_X14 D I) (Nat.le_of_ble_eq_true rfl) wr_9_39 rfl rfl rfl (Nat.le_of_ble_eq_true rfl) (fun F666003 e666004 n666005 => ?_)
        have he666006 : F666003 q665937 = .inl (I .byte, 8192, .inl f665952) := (n666005 q665937 (rn_ao heq665937 heq665936)).trans heq665937
        have he666007 : F666003 q665936 = .inr (19, [.ref q665937, .int p665939, .int p665940, .int 6, .int p665942, .int p665943, .int p665944, .ref qo665945, .int p665946, .int p665947, .int p665948, .ref qo665949, .ref qo665950, .int p665951]) := e666004
        have hfr666008 : rFr [q665936] P665934 F665935 F666003 := rFr_put (rFr_rf (W := []) (P := P665934) (F := F665935)) n666005
        clear ez665993 bz665993 bo665999'; try clear r665997; try clear w665998; try clear dc665994; try clear ds665995; try clear hp665996
        refine G_aload_n 2 dr_cX14_symbol_152 rfl ?_
        refine G_iload_n 0 dr_cX14_symbol_153 rfl ?_
        refine G_if_eq 161 dr_cX14_symbol_154 (by decide +kernel) (fun _ => ?_) (fun hc => absurd hc (by decide))
        refine G_iload_n 3 dr_cX14_symbol_161 rfl ?_
        refine G_bipush 32 dr_cX14_symbol_162 (by decide +kernel) ?_
        refine G_icmp_le 190 dr_cX14_symbol_164 (by decide +kernel) (fun hc => absurd (show False by have := gj_le hc (show Int32.toInt 32 = 32 by decide); omega) not_false) (fun _ => ?_)
        refine G_new [.null, .int 0, .int 0, .int 0] dr_cX14_symbol_167 (gk_J4 D I) wr_7_235 wr_7_44 wr_1_20 (gfs_J4) (Nat.le_trans (show 0 + 1 ≤ 16 by decide) hMC) (Nat.le_trans (show 0 + 4 ≤ 160 by decide) hMS) (fun q666009 => Gp_in (fun P666010 F666011 hq666012 hP666013 e666014 n666015 => ?_))
        refine G_widen (cs' := 1) (sl' := 4) (by omega) (by omega) ?_
        have he666016 : F666011 q665936 = .inr (19, [.ref q665937, .int p665939, .int p665940, .int 6, .int p665942, .int p665943, .int p665944, .ref qo665945, .int p665946, .int p665947, .int p665948, .ref qo665949, .ref qo665950, .int p665951]) := (n666015 q665936 (fun h => hq666012 (h ▸ hmq665936))).trans he666007
        have he666017 : F666011 q665937 = .inl (I .byte, 8192, .inl f665952) := (n666015 q665937 (fun h => hq666012 (h ▸ hmq665937))).trans he666006
        have he666018 : F666011 q666009 = .inr (1, [.null, .int 0, .int 0, .int 0]) := e666014
        have hm666019 : q665936 ∈ P666010 := (hP666013 q665936).mpr (Or.inl hmq665936)
        have hm666020 : q665937 ∈ P666010 := (hP666013 q665937).mpr (Or.inl hmq665937)
        have hm666021 : q666009 ∈ P666010 := (hP666013 q666009).mpr (Or.inr rfl)
        have hq666022 : q666009 ∉ P665934 := fun z => hq666012 ((rSub_rf (P := P665934)) q666009 z)
        have hfr666023 : rFr [q665936] P665934 F665935 F666011 := rFr_new (rSub_rf (P := P665934)) hq666012 hfr666008 n666015
        have hsb666024 : rSub P665934 P666010 := rSub_new (rSub_rf (P := P665934)) hP666013
        refine G_dup dr_cX14_symbol_170 rfl ?_
        refine Gw_callI (As := []) (gV_ok D I) (cp_656210_StringBuilder_init l hl0 D I P666010 F666011 q666009 0 0 hm666021 he666018 (gB_w (gBl (show Int32.toInt 0 = 0 by decide)) (by decide) (by decide)) (gB_w (gBl (show Int32.toInt 0 = 0 by decide)) (by decide) (by decide))) dr_cX14_symbol_171 ⟨wr_7_236, wr_1_20, wr_7_47, by decide, rfl, (Nat.le_of_ble_eq_true rfl), (Nat.le_of_ble_eq_true rfl)⟩ wr_7_46 rfl (Nat.le_trans (show 1 + 1 ≤ 16 by decide) hMC) (Nat.le_trans (show 4 + 16 ≤ 160 by decide) hMS) (Nat.le_of_ble_eq_true rfl) (fun r666028 w666029 dc666025 ds666026 hp666027 => ?_)
        obtain ⟨P666031, F666032, q666030, rfl, rfl, hsb666033, hfr666034, he666035, he666036, hm666037, hq666038, hdc, hds⟩ := hp666027
        have hm666039 : q665936 ∈ P666031 := hsb666033 q665936 hm666019
        have hm666040 : q665937 ∈ P666031 := hsb666033 q665937 hm666020
        have hm666041 : q666009 ∈ P666031 := hsb666033 q666009 hm666021
        have hq666042 : q666030 ∉ P665934 := fun z => hq666038 (hsb666024 q666030 z)
        have hsb666043 : rSub P665934 P666031 := rSub_tr hsb666024 hsb666033
        have he666044 : F666032 q665936 = .inr (19, [.ref q665937, .int p665939, .int p665940, .int 6, .int p665942, .int p665943, .int p665944, .ref qo665945, .int p665946, .int p665947, .int p665948, .ref qo665949, .ref qo665950, .int p665951]) := (hfr666034 q665936 hm666019 (nm_c (fun h => hq666022 (h ▸ hmq665936)) nm_n)).trans he666016
        have he666045 : F666032 q665937 = .inl (I .byte, 8192, .inl f665952) := (hfr666034 q665937 hm666020 (nm_c (fun h => hq666022 (h ▸ hmq665937)) nm_n)).trans he666017
        have hfr666046 : rFr [q665936] P665934 F665935 F666032 := rFr_call hsb666024 hfr666023 hfr666034 (fun b hb hn => ⟨(nm_c (fun e => hn (e ▸ List.mem_cons_self)) nm_n), (nm_c (fun e => hq666022 (e ▸ hb)) nm_n)⟩)
        change G _ _ _ _ _ _ _ _ _ _ _
        refine G_widen (cs' := 2) (sl' := 20) (Nat.add_le_add_left hdc 1) (Nat.add_le_add_left hds 4) ?_
        refine G_ldcK (a := D.2 1000 32) dr_cX14_symbol_174 (fun _ _ _ h => gx_vk 32 rfl rfl h) ?_
        have hl32_666046 : (sb_32.length : Int) = 0 := rfl
        refine Gw_callV (As := [.ref (D.2 1000 32)]) (gV_ok D I) (cp_656512_StringBuilder_append l hl0 D I P666031 F666032 q666009 q666030 (D.2 1000 32) (D.2 1001 32) sb_32 0 0 (fun _ => 0) 16 hm666041 hm666037 he666035 he666036 (gx_sc 32 rfl rfl) (by omega) (by decide +kernel) (gB_w (gBl (show Int32.toInt 0 = 0 by decide)) (by decide) (by decide)) (gB_w (gBl (show Int32.toInt 0 = 0 by decide)) (by decide) (by decide)) (gF_w gF_0 (by decide) (by decide)) (by have qa0 : Int32.toInt 0 = 0 := (by decide); have qa1 : Int32.toInt 6 = 6 := (by decide); omega) (by have qa0 : Int32.toInt 0 = 0 := (by decide); have qa1 : Int32.toInt 6 = 6 := (by decide); omega)) dr_cX14_symbol_176 ⟨wr_8_195, wr_1_20, wr_8_143, by decide, rfl, (Nat.le_of_ble_eq_true rfl), (Nat.le_of_ble_eq_true rfl)⟩ wr_8_141 wr_8_142 hm666041 he666035 rfl (Nat.le_trans (show 2 + 0 ≤ 16 by decide) hMC) (Nat.le_trans (show 20 + 0 ≤ 160 by decide) hMS) (Nat.le_of_ble_eq_true rfl) (fun r666051 w666052 dc666048 ds666049 hp666050 => ?_) (fun _ _ _ _ _ z => z.elim)
        obtain ⟨F666059, o666053, f666054, rfl, rfl, hfr666061, he666062, he666063, hdc, hds, bo666053, bf666054, x666055, x666056, x666057, ht666058⟩ := hp666050
        have he666064 : F666059 q665936 = .inr (19, [.ref q665937, .int p665939, .int p665940, .int 6, .int p665942, .int p665943, .int p665944, .ref qo665945, .int p665946, .int p665947, .int p665948, .ref qo665949, .ref qo665950, .int p665951]) := (hfr666061 q665936 hm666039 (nm_c (fun h => hq666022 (h ▸ hmq665936)) (nm_c (fun h => hq666042 (h ▸ hmq665936)) nm_n))).trans he666044
        have he666065 : F666059 q665937 = .inl (I .byte, 8192, .inl f665952) := (hfr666061 q665937 hm666040 (nm_c (fun h => hq666022 (h ▸ hmq665937)) (nm_c (fun h => hq666042 (h ▸ hmq665937)) nm_n))).trans he666045
        have hfr666066 : rFr [q665936] P665934 F665935 F666059 := rFr_call hsb666043 hfr666046 hfr666061 (fun b hb hn => ⟨(nm_c (fun e => hn (e ▸ List.mem_cons_self)) nm_n), (nm_c (fun e => hq666022 (e ▸ hb)) (nm_c (fun e => hq666042 (e ▸ hb)) nm_n))⟩)
        rw [show Int32.toInt 0 = 0 from by decide] at x666055
        have bo666053' : gB o666053 0 0 := ⟨by omega, by omega⟩
        rw [show Int32.toInt 0 = 0 from by decide] at x666056
        rw [show Int32.toInt 0 = 0 from by decide] at x666057
        change G _ _ _ _ _ _ _ (.ref q666009 :: _) _ _ _
        refine G_widen (cs' := 2) (sl' := 20) (Nat.add_le_add_left hdc 2) (Nat.add_le_add_left hds 20) ?_
        refine G_iload_n 3 dr_cX14_symbol_179 rfl ?_
        refine G_i2c dr_cX14_symbol_180 (G_nam fun z666067 hz666067 => ?_)
        have ez666067 : z666067.toInt = p665938.toInt := gI_i2c hz666067 (by omega) (by omega)
        have bz666067 : gB z666067 33 127 := ⟨by omega, by omega⟩
        refine Gw_callV (As := [.int z666067]) (gV_ok D I) (cp_655771_StringBuilder_append l hl0 D I P666031 F666059 q666009 q666030 z666067 0 o666053 f666054 16 hm666041 hm666037 he666062 he666063 (gB_w bz666067 (by decide) (by decide)) (gB_w (gBl (show Int32.toInt 0 = 0 by decide)) (by decide) (by decide)) (gB_w bo666053' (by decide) (by decide)) bf666054 (by have qa0 : Int32.toInt 0 = 0 := (by decide); have qa1 : Int32.toInt 6 = 6 := (by decide); omega) (by have qa0 : Int32.toInt 0 = 0 := (by decide); have qa1 : Int32.toInt 6 = 6 := (by decide); omega)) dr_cX14_symbol_181 ⟨wr_7_237, wr_1_20, wr_8_0, by decide, rfl, (Nat.le_of_ble_eq_true rfl), (Nat.le_of_ble_eq_true rfl)⟩ wr_7_238 wr_7_239 hm666041 he666062 rfl (Nat.le_trans (show 2 + 0 ≤ 16 by decide) hMC) (Nat.le_trans (show 20 + 0 ≤ 160 by decide) hMS) (Nat.le_of_ble_eq_true rfl) (fun r666071 w666072 dc666068 ds666069 hp666070 => ?_) (fun _ _ _ _ _ z => z.elim)
        obtain ⟨F666077, o666073, f666074, rfl, rfl, hfr666079, he666080, he666081, hdc, hds, bo666073, bf666074, x666075, ht666076⟩ := hp666070
        have he666082 : F666077 q665936 = .inr (19, [.ref q665937, .int p665939, .int p665940, .int 6, .int p665942, .int p665943, .int p665944, .ref qo665945, .int p665946, .int p665947, .int p665948, .ref qo665949, .ref qo665950, .int p665951]) := (hfr666079 q665936 hm666039 (nm_c (fun h => hq666042 (h ▸ hmq665936)) (nm_c (fun h => hq666022 (h ▸ hmq665936)) nm_n))).trans he666064
        have he666083 : F666077 q665937 = .inl (I .byte, 8192, .inl f665952) := (hfr666079 q665937 hm666040 (nm_c (fun h => hq666042 (h ▸ hmq665937)) (nm_c (fun h => hq666022 (h ▸ hmq665937)) nm_n))).trans he666065
        have hfr666084 : rFr [q665936] P665934 F665935 F666077 := rFr_call hsb666043 hfr666066 hfr666079 (fun b hb hn => ⟨(nm_c (fun e => hn (e ▸ List.mem_cons_self)) nm_n), (nm_c (fun e => hq666042 (e ▸ hb)) (nm_c (fun e => hq666022 (e ▸ hb)) nm_n))⟩)
        have bo666073' : gB o666073 1 1 := ⟨by omega, by omega⟩
        change G _ _ _ _ _ _ _ (.ref q666009 :: _) _ _ _
        refine G_widen (cs' := 2) (sl' := 20) (Nat.add_le_add_left hdc 2) (Nat.add_le_add_left hds 20) ?_
        refine Gw_callV (As := []) (gV_ok D I) (cp_656985_StringBuilder_toString l hl0 D I P666031 F666077 q666009 q666030 0 o666073 f666074 16 hm666041 hm666037 he666080 he666081 (gB_w (gBl (show Int32.toInt 0 = 0 by decide)) (by decide) (by decide)) (gB_w bo666073' (by decide) (by decide)) bf666074 (by have qa0 : Int32.toInt 0 = 0 := (by decide); have qa1 : Int32.toInt 6 = 6 := (by decide); omega) (by have qa0 : Int32.toInt 0 = 0 := (by decide); have qa1 : Int32.toInt 6 = 6 := (by decide); omega)) dr_cX14_symbol_184 ⟨wr_8_66, wr_1_20, wr_8_69, by decide, rfl, (Nat.le_of_ble_eq_true rfl), (Nat.le_of_ble_eq_true rfl)⟩ wr_8_67 wr_8_68 hm666041 he666080 rfl (Nat.le_trans (show 2 + 2 ≤ 16 by decide) hMC) (show 20 + (o666073.toInt.toNat + 4) ≤ ((160 * (p665939.toInt - p665940.toInt)).toNat) by first | omega | decide) (Nat.le_of_ble_eq_true rfl) (fun r666088 w666089 dc666085 ds666086 hp666087 => ?_) (fun _ _ _ _ _ z => z.elim)
        obtain ⟨P666097, F666098, q666090, q666091, n666092, f666093, rfl, rfl, hsb666099, hfr666100, he666101, he666102, he666103, he666104, hm666105, hq666106, hm666107, hq666108, hdc, hds, bf666093, x666094, x666095, ht666096⟩ := hp666087
        have hm666109 : q665936 ∈ P666097 := hsb666099 q665936 hm666039
        have hm666110 : q665937 ∈ P666097 := hsb666099 q665937 hm666040
        have hm666111 : q666009 ∈ P666097 := hsb666099 q666009 hm666041
        have hm666112 : q666030 ∈ P666097 := hsb666099 q666030 hm666037
        have hq666113 : q666090 ∉ P665934 := fun z => hq666106 (hsb666043 q666090 z)
        have hq666114 : q666091 ∉ P665934 := fun z => hq666108 (hsb666043 q666091 z)
        have hsb666115 : rSub P665934 P666097 := rSub_tr hsb666043 hsb666099
        have he666116 : F666098 q665936 = .inr (19, [.ref q665937, .int p665939, .int p665940, .int 6, .int p665942, .int p665943, .int p665944, .ref qo665945, .int p665946, .int p665947, .int p665948, .ref qo665949, .ref qo665950, .int p665951]) := (hfr666100 q665936 hm666039 nm_n).trans he666082
        have he666117 : F666098 q665937 = .inl (I .byte, 8192, .inl f665952) := (hfr666100 q665937 hm666040 nm_n).trans he666083
        have hfr666118 : rFr [q665936] P665934 F665935 F666098 := rFr_call hsb666043 hfr666084 hfr666100 (fun b hb hn => ⟨(nm_c (fun e => hn (e ▸ List.mem_cons_self)) nm_n), nm_n⟩)
        have hne666119 : q666030 ≠ q666091 := fun h => hq666108 (h ▸ hm666037)
        change G _ _ _ _ _ _ _ (.ref q666090 :: _) _ _ _
        refine G_widen (cs' := 4) (sl' := 20 + (o666073.toInt.toNat + 4)) (Nat.add_le_add_left hdc 2) (by omega) ?_
        refine G_goto 192 dr_cX14_symbol_187 (by decide +kernel) ?_
        refine Gp_put 7 hm666109 he666116 dr_cX14_symbol_192 (gk_X14 D I) (Nat.le_of_ble_eq_true rfl) wr_9_43 rfl rfl rfl (Nat.le_of_ble_eq_true rfl) (fun F666120 e666121 n666122 => ?_)
        have he666123 : F666120 q665937 = .inl (I .byte, 8192, .inl f665952) := (n666122 q665937 (rn_ao he666117 he666116)).trans he666117
        have he666124 : F666120 q666090 = .inr (0, [.ref q666091, .int 0, .int 0, .int 0]) := (n666122 q666090 (fun h => hq666113 (h ▸ hmq665936))).trans he666101
        have he666125 : F666120 q666009 = .inr (1, [.ref q666030, .int 0, .int 0, .int o666073]) := (n666122 q666009 (fun h => hq666022 (h ▸ hmq665936))).trans he666102
        have he666126 : F666120 q666030 = .inl (I .byte, 16, .inl f666074) := (n666122 q666030 (fun h => hq666042 (h ▸ hmq665936))).trans he666103
        have he666127 : F666120 q666091 = .inl (I .byte, n666092, .inl f666093) := (n666122 q666091 (fun h => hq666114 (h ▸ hmq665936))).trans he666104
        have he666128 : F666120 q665936 = .inr (19, [.ref q665937, .int p665939, .int p665940, .int 6, .int p665942, .int p665943, .int p665944, .ref q666090, .int p665946, .int p665947, .int p665948, .ref qo665949, .ref qo665950, .int p665951]) := e666121
        have hfr666129 : rFr [q665936] P665934 F665935 F666120 := rFr_put' List.mem_cons_self hfr666118 n666122
        clear he666006 he666007 hfr666008 he666016 he666017 he666018 hm666019 hm666020 hm666021 hq666022 hfr666023 hsb666024 hsb666033 hfr666034 he666035 he666036 hm666037 hq666038 hm666039 hm666040 hm666041 hq666042 hsb666043 he666044 he666045 hfr666046 hfr666061 he666062 he666063 bf666054 he666064 he666065 hfr666066 ez666067 bz666067 hfr666079 he666080 he666081 bf666074 he666082 he666083 hfr666084 hsb666099 hfr666100 he666101 he666102 he666103 he666104 hq666106 hq666108 hm666111 hm666112 he666116 he666117 hfr666118 hne666119 he666125 he666126; try clear r666028; try clear w666029; try clear dc666025; try clear ds666026; try clear hp666027; try clear r666051; try clear w666052; try clear dc666048; try clear ds666049; try clear hp666050; try clear x666056; try clear x666057; try clear r666071; try clear w666072; try clear dc666068; try clear ds666069; try clear hp666070; try clear r666088; try clear w666089; try clear dc666085; try clear ds666086; try clear hp666087; try clear x666095
        refine G_aload_n 2 dr_cX14_symbol_195 rfl ?_
        refine G_dup dr_cX14_symbol_196 rfl ?_
        refine Gp_get 2 hm666109 he666128 dr_cX14_symbol_197 (gk_X14 D I) (Nat.le_of_ble_eq_true rfl) wr_9_38 rfl ?_
        refine G_iload_n 0 dr_cX14_symbol_200 rfl ?_
        refine G_if_eq 208 dr_cX14_symbol_201 (by decide +kernel) (fun _ => ?_) (fun hc => absurd hc (by decide))
        refine G_iconst 1 dr_cX14_symbol_208 (by decide +kernel) ?_
        refine G_iadd dr_cX14_symbol_209 (G_nam fun z666130 hz666130 => ?_)
        have ez666130 : z666130.toInt = p665940.toInt + 1 := by rw [gI_add hz666130 bp665940 (gBl (show Int32.toInt 1 = 1 by decide)) (by decide) (by decide), show Int32.toInt 1 = 1 from by decide]
        have bz666130 : gB z666130 1 8193 := gB_add (gI_add hz666130 bp665940 (gBl (show Int32.toInt 1 = 1 by decide)) (by decide) (by decide)) bp665940 (gBl (show Int32.toInt 1 = 1 by decide)) (by decide) (by decide)
        refine Gp_put 2 hm666109 he666128 dr_cX14_symbol_210 (gk_X14 D I) (Nat.le_of_ble_eq_true rfl) wr_9_38 rfl rfl rfl (Nat.le_of_ble_eq_true rfl) (fun F666131 e666132 n666133 => ?_)
        have he666134 : F666131 q665937 = .inl (I .byte, 8192, .inl f665952) := (n666133 q665937 (rn_ao he666123 he666128)).trans he666123
        have he666135 : F666131 q666090 = .inr (0, [.ref q666091, .int 0, .int 0, .int 0]) := (n666133 q666090 (fun h => hq666113 (h ▸ hmq665936))).trans he666124
        have he666136 : F666131 q666091 = .inl (I .byte, n666092, .inl f666093) := (n666133 q666091 (fun h => hq666114 (h ▸ hmq665936))).trans he666127
        have he666137 : F666131 q665936 = .inr (19, [.ref q665937, .int p665939, .int z666130, .int 6, .int p665942, .int p665943, .int p665944, .ref q666090, .int p665946, .int p665947, .int p665948, .ref qo665949, .ref qo665950, .int p665951]) := e666132
        have hfr666138 : rFr [q665936] P665934 F665935 F666131 := rFr_put' List.mem_cons_self hfr666129 n666133
        exact G_vretA dr_cX14_symbol_213 rfl (show 4 ≤ ((16 * (p665939.toInt - p665940.toInt)).toNat) by omega) (show 20 + (o666073.toInt.toNat + 4) ≤ ((160 * (p665939.toInt - p665940.toInt)).toNat) by omega) ⟨P666097, F666131, z666130, 6, q666090, (0, fun _ => 0), rfl, rfl, hsb666115, hfr666138, he666137, he666134, (by omega), (by omega), ⟨by omega, by omega⟩, (gB_w (gBl (show Int32.toInt 6 = 6 by decide)) (by decide) (by decide)), (by have qa0 : Int32.toInt 0 = 0 := (by decide); have qa1 : Int32.toInt 6 = 6 := (by decide); omega), (by have qa0 : Int32.toInt 0 = 0 := (by decide); have qa1 : Int32.toInt 6 = 6 := (by decide); omega), (tP_no (by decide) (by decide)), (vP_no (by decide) (by decide)), (fun R c1 c2 c3 c4 c5 c6 => c2 o665966 z665993 o665999 o666053 f666054 z666067 o666073 f666074 n666092 f666093 z666130 hJ665959 bo665966 ht665968 r665991 hz665993 bo665999 ht666000 r666002 bo666053 ht666058 hz666067 bo666073 ht666076 ht666096 ez666130)⟩
      · have r666139 : 0 ≤ o665999.toInt := gj_nlt hc666001 (show Int32.toInt 0 = 0 by decide)
        have bo665999' : gB o665999 0 65534 := ⟨by omega, by omega⟩
        refine G_iconst 5 dr_cX14_symbol_143 (by decide +kernel) ?_
        refine G_goto 149 dr_cX14_symbol_144 (by decide +kernel) ?_
        refine Gp_put 3 hmq665936 heq665936 dr_cX14_symbol_149 (gk_X14 D I) (Nat.le_of_ble_eq_true rfl) wr_9_39 rfl rfl rfl (Nat.le_of_ble_eq_true rfl) (fun F666140 e666141 n666142 => ?_)
        have he666143 : F666140 q665937 = .inl (I .byte, 8192, .inl f665952) := (n666142 q665937 (rn_ao heq665937 heq665936)).trans heq665937
        have he666144 : F666140 q665936 = .inr (19, [.ref q665937, .int p665939, .int p665940, .int 5, .int p665942, .int p665943, .int p665944, .ref qo665945, .int p665946, .int p665947, .int p665948, .ref qo665949, .ref qo665950, .int p665951]) := e666141
        have hfr666145 : rFr [q665936] P665934 F665935 F666140 := rFr_put (rFr_rf (W := []) (P := P665934) (F := F665935)) n666142
        clear ez665993 bz665993 bo665999'; try clear r665997; try clear w665998; try clear dc665994; try clear ds665995; try clear hp665996
        refine G_aload_n 2 dr_cX14_symbol_152 rfl ?_
        refine G_iload_n 0 dr_cX14_symbol_153 rfl ?_
        refine G_if_eq 161 dr_cX14_symbol_154 (by decide +kernel) (fun _ => ?_) (fun hc => absurd hc (by decide))
        refine G_iload_n 3 dr_cX14_symbol_161 rfl ?_
        refine G_bipush 32 dr_cX14_symbol_162 (by decide +kernel) ?_
        refine G_icmp_le 190 dr_cX14_symbol_164 (by decide +kernel) (fun hc => absurd (show False by have := gj_le hc (show Int32.toInt 32 = 32 by decide); omega) not_false) (fun _ => ?_)
        refine G_new [.null, .int 0, .int 0, .int 0] dr_cX14_symbol_167 (gk_J4 D I) wr_7_235 wr_7_44 wr_1_20 (gfs_J4) (Nat.le_trans (show 0 + 1 ≤ 16 by decide) hMC) (Nat.le_trans (show 0 + 4 ≤ 160 by decide) hMS) (fun q666146 => Gp_in (fun P666147 F666148 hq666149 hP666150 e666151 n666152 => ?_))
        refine G_widen (cs' := 1) (sl' := 4) (by omega) (by omega) ?_
        have he666153 : F666148 q665936 = .inr (19, [.ref q665937, .int p665939, .int p665940, .int 5, .int p665942, .int p665943, .int p665944, .ref qo665945, .int p665946, .int p665947, .int p665948, .ref qo665949, .ref qo665950, .int p665951]) := (n666152 q665936 (fun h => hq666149 (h ▸ hmq665936))).trans he666144
        have he666154 : F666148 q665937 = .inl (I .byte, 8192, .inl f665952) := (n666152 q665937 (fun h => hq666149 (h ▸ hmq665937))).trans he666143
        have he666155 : F666148 q666146 = .inr (1, [.null, .int 0, .int 0, .int 0]) := e666151
        have hm666156 : q665936 ∈ P666147 := (hP666150 q665936).mpr (Or.inl hmq665936)
        have hm666157 : q665937 ∈ P666147 := (hP666150 q665937).mpr (Or.inl hmq665937)
        have hm666158 : q666146 ∈ P666147 := (hP666150 q666146).mpr (Or.inr rfl)
        have hq666159 : q666146 ∉ P665934 := fun z => hq666149 ((rSub_rf (P := P665934)) q666146 z)
        have hfr666160 : rFr [q665936] P665934 F665935 F666148 := rFr_new (rSub_rf (P := P665934)) hq666149 hfr666145 n666152
        have hsb666161 : rSub P665934 P666147 := rSub_new (rSub_rf (P := P665934)) hP666150
        refine G_dup dr_cX14_symbol_170 rfl ?_
        refine Gw_callI (As := []) (gV_ok D I) (cp_656210_StringBuilder_init l hl0 D I P666147 F666148 q666146 0 0 hm666158 he666155 (gB_w (gBl (show Int32.toInt 0 = 0 by decide)) (by decide) (by decide)) (gB_w (gBl (show Int32.toInt 0 = 0 by decide)) (by decide) (by decide))) dr_cX14_symbol_171 ⟨wr_7_236, wr_1_20, wr_7_47, by decide, rfl, (Nat.le_of_ble_eq_true rfl), (Nat.le_of_ble_eq_true rfl)⟩ wr_7_46 rfl (Nat.le_trans (show 1 + 1 ≤ 16 by decide) hMC) (Nat.le_trans (show 4 + 16 ≤ 160 by decide) hMS) (Nat.le_of_ble_eq_true rfl) (fun r666165 w666166 dc666162 ds666163 hp666164 => ?_)
        obtain ⟨P666168, F666169, q666167, rfl, rfl, hsb666170, hfr666171, he666172, he666173, hm666174, hq666175, hdc, hds⟩ := hp666164
        have hm666176 : q665936 ∈ P666168 := hsb666170 q665936 hm666156
        have hm666177 : q665937 ∈ P666168 := hsb666170 q665937 hm666157
        have hm666178 : q666146 ∈ P666168 := hsb666170 q666146 hm666158
        have hq666179 : q666167 ∉ P665934 := fun z => hq666175 (hsb666161 q666167 z)
        have hsb666180 : rSub P665934 P666168 := rSub_tr hsb666161 hsb666170
        have he666181 : F666169 q665936 = .inr (19, [.ref q665937, .int p665939, .int p665940, .int 5, .int p665942, .int p665943, .int p665944, .ref qo665945, .int p665946, .int p665947, .int p665948, .ref qo665949, .ref qo665950, .int p665951]) := (hfr666171 q665936 hm666156 (nm_c (fun h => hq666159 (h ▸ hmq665936)) nm_n)).trans he666153
        have he666182 : F666169 q665937 = .inl (I .byte, 8192, .inl f665952) := (hfr666171 q665937 hm666157 (nm_c (fun h => hq666159 (h ▸ hmq665937)) nm_n)).trans he666154
        have hfr666183 : rFr [q665936] P665934 F665935 F666169 := rFr_call hsb666161 hfr666160 hfr666171 (fun b hb hn => ⟨(nm_c (fun e => hn (e ▸ List.mem_cons_self)) nm_n), (nm_c (fun e => hq666159 (e ▸ hb)) nm_n)⟩)
        change G _ _ _ _ _ _ _ _ _ _ _
        refine G_widen (cs' := 2) (sl' := 20) (Nat.add_le_add_left hdc 1) (Nat.add_le_add_left hds 4) ?_
        refine G_ldcK (a := D.2 1000 32) dr_cX14_symbol_174 (fun _ _ _ h => gx_vk 32 rfl rfl h) ?_
        have hl32_666183 : (sb_32.length : Int) = 0 := rfl
        refine Gw_callV (As := [.ref (D.2 1000 32)]) (gV_ok D I) (cp_656512_StringBuilder_append l hl0 D I P666168 F666169 q666146 q666167 (D.2 1000 32) (D.2 1001 32) sb_32 0 0 (fun _ => 0) 16 hm666178 hm666174 he666172 he666173 (gx_sc 32 rfl rfl) (by omega) (by decide +kernel) (gB_w (gBl (show Int32.toInt 0 = 0 by decide)) (by decide) (by decide)) (gB_w (gBl (show Int32.toInt 0 = 0 by decide)) (by decide) (by decide)) (gF_w gF_0 (by decide) (by decide)) (by have qa0 : Int32.toInt 0 = 0 := (by decide); have qa1 : Int32.toInt 5 = 5 := (by decide); omega) (by have qa0 : Int32.toInt 0 = 0 := (by decide); have qa1 : Int32.toInt 5 = 5 := (by decide); omega)) dr_cX14_symbol_176 ⟨wr_8_195, wr_1_20, wr_8_143, by decide, rfl, (Nat.le_of_ble_eq_true rfl), (Nat.le_of_ble_eq_true rfl)⟩ wr_8_141 wr_8_142 hm666178 he666172 rfl (Nat.le_trans (show 2 + 0 ≤ 16 by decide) hMC) (Nat.le_trans (show 20 + 0 ≤ 160 by decide) hMS) (Nat.le_of_ble_eq_true rfl) (fun r666188 w666189 dc666185 ds666186 hp666187 => ?_) (fun _ _ _ _ _ z => z.elim)
        obtain ⟨F666196, o666190, f666191, rfl, rfl, hfr666198, he666199, he666200, hdc, hds, bo666190, bf666191, x666192, x666193, x666194, ht666195⟩ := hp666187
        have he666201 : F666196 q665936 = .inr (19, [.ref q665937, .int p665939, .int p665940, .int 5, .int p665942, .int p665943, .int p665944, .ref qo665945, .int p665946, .int p665947, .int p665948, .ref qo665949, .ref qo665950, .int p665951]) := (hfr666198 q665936 hm666176 (nm_c (fun h => hq666159 (h ▸ hmq665936)) (nm_c (fun h => hq666179 (h ▸ hmq665936)) nm_n))).trans he666181
        have he666202 : F666196 q665937 = .inl (I .byte, 8192, .inl f665952) := (hfr666198 q665937 hm666177 (nm_c (fun h => hq666159 (h ▸ hmq665937)) (nm_c (fun h => hq666179 (h ▸ hmq665937)) nm_n))).trans he666182
        have hfr666203 : rFr [q665936] P665934 F665935 F666196 := rFr_call hsb666180 hfr666183 hfr666198 (fun b hb hn => ⟨(nm_c (fun e => hn (e ▸ List.mem_cons_self)) nm_n), (nm_c (fun e => hq666159 (e ▸ hb)) (nm_c (fun e => hq666179 (e ▸ hb)) nm_n))⟩)
        rw [show Int32.toInt 0 = 0 from by decide] at x666192
        have bo666190' : gB o666190 0 0 := ⟨by omega, by omega⟩
        rw [show Int32.toInt 0 = 0 from by decide] at x666193
        rw [show Int32.toInt 0 = 0 from by decide] at x666194
        change G _ _ _ _ _ _ _ (.ref q666146 :: _) _ _ _
        refine G_widen (cs' := 2) (sl' := 20) (Nat.add_le_add_left hdc 2) (Nat.add_le_add_left hds 20) ?_
        refine G_iload_n 3 dr_cX14_symbol_179 rfl ?_
        refine G_i2c dr_cX14_symbol_180 (G_nam fun z666204 hz666204 => ?_)
        have ez666204 : z666204.toInt = p665938.toInt := gI_i2c hz666204 (by omega) (by omega)
        have bz666204 : gB z666204 33 127 := ⟨by omega, by omega⟩
        refine Gw_callV (As := [.int z666204]) (gV_ok D I) (cp_655771_StringBuilder_append l hl0 D I P666168 F666196 q666146 q666167 z666204 0 o666190 f666191 16 hm666178 hm666174 he666199 he666200 (gB_w bz666204 (by decide) (by decide)) (gB_w (gBl (show Int32.toInt 0 = 0 by decide)) (by decide) (by decide)) (gB_w bo666190' (by decide) (by decide)) bf666191 (by have qa0 : Int32.toInt 0 = 0 := (by decide); have qa1 : Int32.toInt 5 = 5 := (by decide); omega) (by have qa0 : Int32.toInt 0 = 0 := (by decide); have qa1 : Int32.toInt 5 = 5 := (by decide); omega)) dr_cX14_symbol_181 ⟨wr_7_237, wr_1_20, wr_8_0, by decide, rfl, (Nat.le_of_ble_eq_true rfl), (Nat.le_of_ble_eq_true rfl)⟩ wr_7_238 wr_7_239 hm666178 he666199 rfl (Nat.le_trans (show 2 + 0 ≤ 16 by decide) hMC) (Nat.le_trans (show 20 + 0 ≤ 160 by decide) hMS) (Nat.le_of_ble_eq_true rfl) (fun r666208 w666209 dc666205 ds666206 hp666207 => ?_) (fun _ _ _ _ _ z => z.elim)
        obtain ⟨F666214, o666210, f666211, rfl, rfl, hfr666216, he666217, he666218, hdc, hds, bo666210, bf666211, x666212, ht666213⟩ := hp666207
        have he666219 : F666214 q665936 = .inr (19, [.ref q665937, .int p665939, .int p665940, .int 5, .int p665942, .int p665943, .int p665944, .ref qo665945, .int p665946, .int p665947, .int p665948, .ref qo665949, .ref qo665950, .int p665951]) := (hfr666216 q665936 hm666176 (nm_c (fun h => hq666179 (h ▸ hmq665936)) (nm_c (fun h => hq666159 (h ▸ hmq665936)) nm_n))).trans he666201
        have he666220 : F666214 q665937 = .inl (I .byte, 8192, .inl f665952) := (hfr666216 q665937 hm666177 (nm_c (fun h => hq666179 (h ▸ hmq665937)) (nm_c (fun h => hq666159 (h ▸ hmq665937)) nm_n))).trans he666202
        have hfr666221 : rFr [q665936] P665934 F665935 F666214 := rFr_call hsb666180 hfr666203 hfr666216 (fun b hb hn => ⟨(nm_c (fun e => hn (e ▸ List.mem_cons_self)) nm_n), (nm_c (fun e => hq666179 (e ▸ hb)) (nm_c (fun e => hq666159 (e ▸ hb)) nm_n))⟩)
        have bo666210' : gB o666210 1 1 := ⟨by omega, by omega⟩
        change G _ _ _ _ _ _ _ (.ref q666146 :: _) _ _ _
        refine G_widen (cs' := 2) (sl' := 20) (Nat.add_le_add_left hdc 2) (Nat.add_le_add_left hds 20) ?_
        refine Gw_callV (As := []) (gV_ok D I) (cp_656985_StringBuilder_toString l hl0 D I P666168 F666214 q666146 q666167 0 o666210 f666211 16 hm666178 hm666174 he666217 he666218 (gB_w (gBl (show Int32.toInt 0 = 0 by decide)) (by decide) (by decide)) (gB_w bo666210' (by decide) (by decide)) bf666211 (by have qa0 : Int32.toInt 0 = 0 := (by decide); have qa1 : Int32.toInt 5 = 5 := (by decide); omega) (by have qa0 : Int32.toInt 0 = 0 := (by decide); have qa1 : Int32.toInt 5 = 5 := (by decide); omega)) dr_cX14_symbol_184 ⟨wr_8_66, wr_1_20, wr_8_69, by decide, rfl, (Nat.le_of_ble_eq_true rfl), (Nat.le_of_ble_eq_true rfl)⟩ wr_8_67 wr_8_68 hm666178 he666217 rfl (Nat.le_trans (show 2 + 2 ≤ 16 by decide) hMC) (show 20 + (o666210.toInt.toNat + 4) ≤ ((160 * (p665939.toInt - p665940.toInt)).toNat) by first | omega | decide) (Nat.le_of_ble_eq_true rfl) (fun r666225 w666226 dc666222 ds666223 hp666224 => ?_) (fun _ _ _ _ _ z => z.elim)
        obtain ⟨P666234, F666235, q666227, q666228, n666229, f666230, rfl, rfl, hsb666236, hfr666237, he666238, he666239, he666240, he666241, hm666242, hq666243, hm666244, hq666245, hdc, hds, bf666230, x666231, x666232, ht666233⟩ := hp666224
        have hm666246 : q665936 ∈ P666234 := hsb666236 q665936 hm666176
        have hm666247 : q665937 ∈ P666234 := hsb666236 q665937 hm666177
        have hm666248 : q666146 ∈ P666234 := hsb666236 q666146 hm666178
        have hm666249 : q666167 ∈ P666234 := hsb666236 q666167 hm666174
        have hq666250 : q666227 ∉ P665934 := fun z => hq666243 (hsb666180 q666227 z)
        have hq666251 : q666228 ∉ P665934 := fun z => hq666245 (hsb666180 q666228 z)
        have hsb666252 : rSub P665934 P666234 := rSub_tr hsb666180 hsb666236
        have he666253 : F666235 q665936 = .inr (19, [.ref q665937, .int p665939, .int p665940, .int 5, .int p665942, .int p665943, .int p665944, .ref qo665945, .int p665946, .int p665947, .int p665948, .ref qo665949, .ref qo665950, .int p665951]) := (hfr666237 q665936 hm666176 nm_n).trans he666219
        have he666254 : F666235 q665937 = .inl (I .byte, 8192, .inl f665952) := (hfr666237 q665937 hm666177 nm_n).trans he666220
        have hfr666255 : rFr [q665936] P665934 F665935 F666235 := rFr_call hsb666180 hfr666221 hfr666237 (fun b hb hn => ⟨(nm_c (fun e => hn (e ▸ List.mem_cons_self)) nm_n), nm_n⟩)
        have hne666256 : q666167 ≠ q666228 := fun h => hq666245 (h ▸ hm666174)
        change G _ _ _ _ _ _ _ (.ref q666227 :: _) _ _ _
        refine G_widen (cs' := 4) (sl' := 20 + (o666210.toInt.toNat + 4)) (Nat.add_le_add_left hdc 2) (by omega) ?_
        refine G_goto 192 dr_cX14_symbol_187 (by decide +kernel) ?_
        refine Gp_put 7 hm666246 he666253 dr_cX14_symbol_192 (gk_X14 D I) (Nat.le_of_ble_eq_true rfl) wr_9_43 rfl rfl rfl (Nat.le_of_ble_eq_true rfl) (fun F666257 e666258 n666259 => ?_)
        have he666260 : F666257 q665937 = .inl (I .byte, 8192, .inl f665952) := (n666259 q665937 (rn_ao he666254 he666253)).trans he666254
        have he666261 : F666257 q666227 = .inr (0, [.ref q666228, .int 0, .int 0, .int 0]) := (n666259 q666227 (fun h => hq666250 (h ▸ hmq665936))).trans he666238
        have he666262 : F666257 q666146 = .inr (1, [.ref q666167, .int 0, .int 0, .int o666210]) := (n666259 q666146 (fun h => hq666159 (h ▸ hmq665936))).trans he666239
        have he666263 : F666257 q666167 = .inl (I .byte, 16, .inl f666211) := (n666259 q666167 (fun h => hq666179 (h ▸ hmq665936))).trans he666240
        have he666264 : F666257 q666228 = .inl (I .byte, n666229, .inl f666230) := (n666259 q666228 (fun h => hq666251 (h ▸ hmq665936))).trans he666241
        have he666265 : F666257 q665936 = .inr (19, [.ref q665937, .int p665939, .int p665940, .int 5, .int p665942, .int p665943, .int p665944, .ref q666227, .int p665946, .int p665947, .int p665948, .ref qo665949, .ref qo665950, .int p665951]) := e666258
        have hfr666266 : rFr [q665936] P665934 F665935 F666257 := rFr_put' List.mem_cons_self hfr666255 n666259
        clear he666143 he666144 hfr666145 he666153 he666154 he666155 hm666156 hm666157 hm666158 hq666159 hfr666160 hsb666161 hsb666170 hfr666171 he666172 he666173 hm666174 hq666175 hm666176 hm666177 hm666178 hq666179 hsb666180 he666181 he666182 hfr666183 hfr666198 he666199 he666200 bf666191 he666201 he666202 hfr666203 ez666204 bz666204 hfr666216 he666217 he666218 bf666211 he666219 he666220 hfr666221 hsb666236 hfr666237 he666238 he666239 he666240 he666241 hq666243 hq666245 hm666248 hm666249 he666253 he666254 hfr666255 hne666256 he666262 he666263; try clear r666165; try clear w666166; try clear dc666162; try clear ds666163; try clear hp666164; try clear r666188; try clear w666189; try clear dc666185; try clear ds666186; try clear hp666187; try clear x666193; try clear x666194; try clear r666208; try clear w666209; try clear dc666205; try clear ds666206; try clear hp666207; try clear r666225; try clear w666226; try clear dc666222; try clear ds666223; try clear hp666224; try clear x666232
        refine G_aload_n 2 dr_cX14_symbol_195 rfl ?_
        refine G_dup dr_cX14_symbol_196 rfl ?_
        refine Gp_get 2 hm666246 he666265 dr_cX14_symbol_197 (gk_X14 D I) (Nat.le_of_ble_eq_true rfl) wr_9_38 rfl ?_
        refine G_iload_n 0 dr_cX14_symbol_200 rfl ?_
        refine G_if_eq 208 dr_cX14_symbol_201 (by decide +kernel) (fun _ => ?_) (fun hc => absurd hc (by decide))
        refine G_iconst 1 dr_cX14_symbol_208 (by decide +kernel) ?_
        refine G_iadd dr_cX14_symbol_209 (G_nam fun z666267 hz666267 => ?_)
        have ez666267 : z666267.toInt = p665940.toInt + 1 := by rw [gI_add hz666267 bp665940 (gBl (show Int32.toInt 1 = 1 by decide)) (by decide) (by decide), show Int32.toInt 1 = 1 from by decide]
        have bz666267 : gB z666267 1 8193 := gB_add (gI_add hz666267 bp665940 (gBl (show Int32.toInt 1 = 1 by decide)) (by decide) (by decide)) bp665940 (gBl (show Int32.toInt 1 = 1 by decide)) (by decide) (by decide)
        refine Gp_put 2 hm666246 he666265 dr_cX14_symbol_210 (gk_X14 D I) (Nat.le_of_ble_eq_true rfl) wr_9_38 rfl rfl rfl (Nat.le_of_ble_eq_true rfl) (fun F666268 e666269 n666270 => ?_)
        have he666271 : F666268 q665937 = .inl (I .byte, 8192, .inl f665952) := (n666270 q665937 (rn_ao he666260 he666265)).trans he666260
        have he666272 : F666268 q666227 = .inr (0, [.ref q666228, .int 0, .int 0, .int 0]) := (n666270 q666227 (fun h => hq666250 (h ▸ hmq665936))).trans he666261
        have he666273 : F666268 q666228 = .inl (I .byte, n666229, .inl f666230) := (n666270 q666228 (fun h => hq666251 (h ▸ hmq665936))).trans he666264
        have he666274 : F666268 q665936 = .inr (19, [.ref q665937, .int p665939, .int z666267, .int 5, .int p665942, .int p665943, .int p665944, .ref q666227, .int p665946, .int p665947, .int p665948, .ref qo665949, .ref qo665950, .int p665951]) := e666269
        have hfr666275 : rFr [q665936] P665934 F665935 F666268 := rFr_put' List.mem_cons_self hfr666266 n666270
        exact G_vretA dr_cX14_symbol_213 rfl (show 4 ≤ ((16 * (p665939.toInt - p665940.toInt)).toNat) by omega) (show 20 + (o666210.toInt.toNat + 4) ≤ ((160 * (p665939.toInt - p665940.toInt)).toNat) by omega) ⟨P666234, F666268, z666267, 5, q666227, (n666229, f666230), rfl, rfl, hsb666252, hfr666275, he666274, he666271, (by omega), (by omega), ⟨by omega, by omega⟩, (gB_w (gBl (show Int32.toInt 5 = 5 by decide)) (by decide) (by decide)), (by have qa0 : Int32.toInt 0 = 0 := (by decide); have qa1 : Int32.toInt 5 = 5 := (by decide); omega), (by have qa0 : Int32.toInt 0 = 0 := (by decide); have qa1 : Int32.toInt 5 = 5 := (by decide); omega), (tP_5 hm666242 he666272 hm666244 he666273 bf666230 (by omega) (gB_w (gBl (show Int32.toInt 0 = 0 by decide)) (by decide) (by decide)) (fun e => hq666251 (e ▸ x665955)) (fun e => hq666251 (e ▸ x665956))), (vP_no (by decide) (by decide)), (fun R c1 c2 c3 c4 c5 c6 => c3 o665966 z665993 o665999 o666190 f666191 z666204 o666210 f666211 n666229 f666230 z666267 hJ665959 bo665966 ht665968 r665991 hz665993 bo665999 ht666000 r666139 bo666190 ht666195 hz666204 bo666210 ht666213 ht666233 ez666267)⟩
  refine G_aload_n 0 dr_cX14_symbol_0 rfl ?_
  refine Gp_get 2 hmq665936 heq665936 dr_cX14_symbol_1 (gk_X14 D I) (Nat.le_of_ble_eq_true rfl) wr_9_38 rfl ?_
  refine G_iconst 1 dr_cX14_symbol_4 (by decide +kernel) ?_
  refine G_iadd dr_cX14_symbol_5 (G_nam fun z666276 hz666276 => ?_)
  have ez666276 : z666276.toInt = p665940.toInt + 1 := by rw [gI_add hz666276 bp665940 (gBl (show Int32.toInt 1 = 1 by decide)) (by decide) (by decide), show Int32.toInt 1 = 1 from by decide]
  have bz666276 : gB z666276 1 8193 := gB_add (gI_add hz666276 bp665940 (gBl (show Int32.toInt 1 = 1 by decide)) (by decide) (by decide)) bp665940 (gBl (show Int32.toInt 1 = 1 by decide)) (by decide) (by decide)
  refine G_aload_n 0 dr_cX14_symbol_6 rfl ?_
  refine Gp_get 1 hmq665936 heq665936 dr_cX14_symbol_7 (gk_X14 D I) (Nat.le_of_ble_eq_true rfl) wr_9_37 rfl ?_
  refine G_icmp_ge 73 dr_cX14_symbol_10 (by decide +kernel) (fun hc666277 => ?_) (fun hc666277 => ?_)
  · have r666278 : p665939.toInt ≤ z666276.toInt := gC_le hc666277
    refine G_lv (L' := [(0, .ref q665936), (1, .int p665938)]) [0, 1] rfl ?_
    exact jn665958 (Or.inl ⟨z666276, ez666276, r666278⟩)
  · have r666279 : z666276.toInt < p665939.toInt := gC_nle hc666277
    have bz666276' : gB z666276 1 8191 := ⟨by omega, by omega⟩
    have bp665939' : gB p665939 2 8192 := ⟨by omega, by omega⟩
    refine G_aload_n 0 dr_cX14_symbol_13 rfl ?_
    refine Gp_get 0 hmq665936 heq665936 dr_cX14_symbol_14 (gk_X14 D I) (Nat.le_of_ble_eq_true rfl) wr_9_36 rfl ?_
    refine G_aload_n 0 dr_cX14_symbol_17 rfl ?_
    refine Gp_get 2 hmq665936 heq665936 dr_cX14_symbol_18 (gk_X14 D I) (Nat.le_of_ble_eq_true rfl) wr_9_38 rfl ?_
    refine G_iconst 1 dr_cX14_symbol_21 (by decide +kernel) ?_
    refine G_iadd dr_cX14_symbol_22 (G_eqi (y := z666276) hz666276.symm ?_)
    refine Gp_bald 1 hmq665937 heq665937 dr_cX14_symbol_23 rfl (gB_in bz666276' (by decide) (by decide)) (G_nam fun z666280 hz666280 => ?_)
    have bz666280 : gB z666280 (-128) 127 := by rw [hz666280]; exact bf665952 _
    refine G_bipush 32 dr_cX14_symbol_24 (by decide +kernel) ?_
    refine G_icmp_le 73 dr_cX14_symbol_26 (by decide +kernel) (fun hc666281 => ?_) (fun hc666281 => ?_)
    · have r666282 : z666280.toInt ≤ 32 := gj_le hc666281 (show Int32.toInt 32 = 32 by decide)
      have bz666280' : gB z666280 (-128) 32 := ⟨by omega, by omega⟩
      refine G_lv (L' := [(0, .ref q665936), (1, .int p665938)]) [0, 1] rfl ?_
      exact jn665958 (Or.inr (Or.inl ⟨z666276, z666280, ez666276, r666279, hz666280, bz666280, r666282⟩))
    · have r666283 : 32 < z666280.toInt := gj_nle hc666281 (show Int32.toInt 32 = 32 by decide)
      have bz666280' : gB z666280 33 127 := ⟨by omega, by omega⟩
      refine G_iload_n 1 dr_cX14_symbol_29 rfl ?_
      refine G_bipush 32 dr_cX14_symbol_30 (by decide +kernel) ?_
      refine G_icmp_le 73 dr_cX14_symbol_32 (by decide +kernel) (fun hc666284 => ?_) (fun hc666284 => ?_)
      · have r666285 : p665938.toInt ≤ 32 := gj_le hc666284 (show Int32.toInt 32 = 32 by decide)
        have bp665938' : gB p665938 (-128) 32 := ⟨by omega, by omega⟩
        refine G_lv (L' := [(0, .ref q665936), (1, .int p665938)]) [0, 1] rfl ?_
        exact jn665958 (Or.inr (Or.inr (⟨z666276, z666280, ez666276, r666279, hz666280, bz666280, r666283, r666285⟩)))
      · have r666286 : 32 < p665938.toInt := gj_nle hc666284 (show Int32.toInt 32 = 32 by decide)
        have bp665938' : gB p665938 33 127 := ⟨by omega, by omega⟩
        refine G_new [.null, .int 0, .int 0, .int 0] dr_cX14_symbol_35 (gk_J4 D I) wr_7_235 wr_7_44 wr_1_20 (gfs_J4) (Nat.le_trans (show 0 + 1 ≤ 16 by decide) hMC) (Nat.le_trans (show 0 + 4 ≤ 160 by decide) hMS) (fun q666287 => Gp_in (fun P666288 F666289 hq666290 hP666291 e666292 n666293 => ?_))
        refine G_widen (cs' := 1) (sl' := 4) (by omega) (by omega) ?_
        have he666294 : F666289 q665936 = .inr (19, [.ref q665937, .int p665939, .int p665940, .int p665941, .int p665942, .int p665943, .int p665944, .ref qo665945, .int p665946, .int p665947, .int p665948, .ref qo665949, .ref qo665950, .int p665951]) := (n666293 q665936 (fun h => hq666290 (h ▸ hmq665936))).trans heq665936
        have he666295 : F666289 q665937 = .inl (I .byte, 8192, .inl f665952) := (n666293 q665937 (fun h => hq666290 (h ▸ hmq665937))).trans heq665937
        have he666296 : F666289 q666287 = .inr (1, [.null, .int 0, .int 0, .int 0]) := e666292
        have hm666297 : q665936 ∈ P666288 := (hP666291 q665936).mpr (Or.inl hmq665936)
        have hm666298 : q665937 ∈ P666288 := (hP666291 q665937).mpr (Or.inl hmq665937)
        have hm666299 : q666287 ∈ P666288 := (hP666291 q666287).mpr (Or.inr rfl)
        have hq666300 : q666287 ∉ P665934 := fun z => hq666290 ((rSub_rf (P := P665934)) q666287 z)
        have hfr666301 : rFr [] P665934 F665935 F666289 := rFr_new (rSub_rf (P := P665934)) hq666290 (rFr_rf (W := []) (P := P665934) (F := F665935)) n666293
        have hsb666302 : rSub P665934 P666288 := rSub_new (rSub_rf (P := P665934)) hP666291
        refine G_dup dr_cX14_symbol_38 rfl ?_
        refine Gw_callI (As := []) (gV_ok D I) (cp_656210_StringBuilder_init l hl0 D I P666288 F666289 q666287 0 0 hm666299 he666296 (gB_w (gBl (show Int32.toInt 0 = 0 by decide)) (by decide) (by decide)) (gB_w (gBl (show Int32.toInt 0 = 0 by decide)) (by decide) (by decide))) dr_cX14_symbol_39 ⟨wr_7_236, wr_1_20, wr_7_47, by decide, rfl, (Nat.le_of_ble_eq_true rfl), (Nat.le_of_ble_eq_true rfl)⟩ wr_7_46 rfl (Nat.le_trans (show 1 + 1 ≤ 16 by decide) hMC) (Nat.le_trans (show 4 + 16 ≤ 160 by decide) hMS) (Nat.le_of_ble_eq_true rfl) (fun r666306 w666307 dc666303 ds666304 hp666305 => ?_)
        obtain ⟨P666309, F666310, q666308, rfl, rfl, hsb666311, hfr666312, he666313, he666314, hm666315, hq666316, hdc, hds⟩ := hp666305
        have hm666317 : q665936 ∈ P666309 := hsb666311 q665936 hm666297
        have hm666318 : q665937 ∈ P666309 := hsb666311 q665937 hm666298
        have hm666319 : q666287 ∈ P666309 := hsb666311 q666287 hm666299
        have hq666320 : q666308 ∉ P665934 := fun z => hq666316 (hsb666302 q666308 z)
        have hsb666321 : rSub P665934 P666309 := rSub_tr hsb666302 hsb666311
        have he666322 : F666310 q665936 = .inr (19, [.ref q665937, .int p665939, .int p665940, .int p665941, .int p665942, .int p665943, .int p665944, .ref qo665945, .int p665946, .int p665947, .int p665948, .ref qo665949, .ref qo665950, .int p665951]) := (hfr666312 q665936 hm666297 (nm_c (fun h => hq666300 (h ▸ hmq665936)) nm_n)).trans he666294
        have he666323 : F666310 q665937 = .inl (I .byte, 8192, .inl f665952) := (hfr666312 q665937 hm666298 (nm_c (fun h => hq666300 (h ▸ hmq665937)) nm_n)).trans he666295
        have hfr666324 : rFr [] P665934 F665935 F666310 := rFr_call hsb666302 hfr666301 hfr666312 (fun b hb hn => ⟨nm_n, (nm_c (fun e => hq666300 (e ▸ hb)) nm_n)⟩)
        change G _ _ _ _ _ _ _ _ _ _ _
        refine G_widen (cs' := 2) (sl' := 20) (Nat.add_le_add_left hdc 1) (Nat.add_le_add_left hds 4) ?_
        refine G_ldcK (a := D.2 1000 32) dr_cX14_symbol_42 (fun _ _ _ h => gx_vk 32 rfl rfl h) ?_
        have hl32_666324 : (sb_32.length : Int) = 0 := rfl
        refine Gw_callV (As := [.ref (D.2 1000 32)]) (gV_ok D I) (cp_656512_StringBuilder_append l hl0 D I P666309 F666310 q666287 q666308 (D.2 1000 32) (D.2 1001 32) sb_32 0 0 (fun _ => 0) 16 hm666319 hm666315 he666313 he666314 (gx_sc 32 rfl rfl) (by omega) (by decide +kernel) (gB_w (gBl (show Int32.toInt 0 = 0 by decide)) (by decide) (by decide)) (gB_w (gBl (show Int32.toInt 0 = 0 by decide)) (by decide) (by decide)) (gF_w gF_0 (by decide) (by decide)) (by have qa0 : Int32.toInt 0 = 0 := (by decide); omega) (by have qa0 : Int32.toInt 0 = 0 := (by decide); omega)) dr_cX14_symbol_44 ⟨wr_8_195, wr_1_20, wr_8_143, by decide, rfl, (Nat.le_of_ble_eq_true rfl), (Nat.le_of_ble_eq_true rfl)⟩ wr_8_141 wr_8_142 hm666319 he666313 rfl (Nat.le_trans (show 2 + 0 ≤ 16 by decide) hMC) (Nat.le_trans (show 20 + 0 ≤ 160 by decide) hMS) (Nat.le_of_ble_eq_true rfl) (fun r666329 w666330 dc666326 ds666327 hp666328 => ?_) (fun _ _ _ _ _ z => z.elim)
        obtain ⟨F666337, o666331, f666332, rfl, rfl, hfr666339, he666340, he666341, hdc, hds, bo666331, bf666332, x666333, x666334, x666335, ht666336⟩ := hp666328
        have he666342 : F666337 q665936 = .inr (19, [.ref q665937, .int p665939, .int p665940, .int p665941, .int p665942, .int p665943, .int p665944, .ref qo665945, .int p665946, .int p665947, .int p665948, .ref qo665949, .ref qo665950, .int p665951]) := (hfr666339 q665936 hm666317 (nm_c (fun h => hq666300 (h ▸ hmq665936)) (nm_c (fun h => hq666320 (h ▸ hmq665936)) nm_n))).trans he666322
        have he666343 : F666337 q665937 = .inl (I .byte, 8192, .inl f665952) := (hfr666339 q665937 hm666318 (nm_c (fun h => hq666300 (h ▸ hmq665937)) (nm_c (fun h => hq666320 (h ▸ hmq665937)) nm_n))).trans he666323
        have hfr666344 : rFr [] P665934 F665935 F666337 := rFr_call hsb666321 hfr666324 hfr666339 (fun b hb hn => ⟨nm_n, (nm_c (fun e => hq666300 (e ▸ hb)) (nm_c (fun e => hq666320 (e ▸ hb)) nm_n))⟩)
        rw [show Int32.toInt 0 = 0 from by decide] at x666333
        have bo666331' : gB o666331 0 0 := ⟨by omega, by omega⟩
        rw [show Int32.toInt 0 = 0 from by decide] at x666334
        rw [show Int32.toInt 0 = 0 from by decide] at x666335
        change G _ _ _ _ _ _ _ (.ref q666287 :: _) _ _ _
        refine G_widen (cs' := 2) (sl' := 20) (Nat.add_le_add_left hdc 2) (Nat.add_le_add_left hds 20) ?_
        refine G_iload_n 1 dr_cX14_symbol_47 rfl ?_
        refine G_i2c dr_cX14_symbol_48 (G_nam fun z666345 hz666345 => ?_)
        have ez666345 : z666345.toInt = p665938.toInt := gI_i2c hz666345 (by omega) (by omega)
        have bz666345 : gB z666345 33 127 := ⟨by omega, by omega⟩
        refine Gw_callV (As := [.int z666345]) (gV_ok D I) (cp_655771_StringBuilder_append l hl0 D I P666309 F666337 q666287 q666308 z666345 0 o666331 f666332 16 hm666319 hm666315 he666340 he666341 (gB_w bz666345 (by decide) (by decide)) (gB_w (gBl (show Int32.toInt 0 = 0 by decide)) (by decide) (by decide)) (gB_w bo666331' (by decide) (by decide)) bf666332 (by have qa0 : Int32.toInt 0 = 0 := (by decide); omega) (by have qa0 : Int32.toInt 0 = 0 := (by decide); omega)) dr_cX14_symbol_49 ⟨wr_7_237, wr_1_20, wr_8_0, by decide, rfl, (Nat.le_of_ble_eq_true rfl), (Nat.le_of_ble_eq_true rfl)⟩ wr_7_238 wr_7_239 hm666319 he666340 rfl (Nat.le_trans (show 2 + 0 ≤ 16 by decide) hMC) (Nat.le_trans (show 20 + 0 ≤ 160 by decide) hMS) (Nat.le_of_ble_eq_true rfl) (fun r666349 w666350 dc666346 ds666347 hp666348 => ?_) (fun _ _ _ _ _ z => z.elim)
        obtain ⟨F666355, o666351, f666352, rfl, rfl, hfr666357, he666358, he666359, hdc, hds, bo666351, bf666352, x666353, ht666354⟩ := hp666348
        have he666360 : F666355 q665936 = .inr (19, [.ref q665937, .int p665939, .int p665940, .int p665941, .int p665942, .int p665943, .int p665944, .ref qo665945, .int p665946, .int p665947, .int p665948, .ref qo665949, .ref qo665950, .int p665951]) := (hfr666357 q665936 hm666317 (nm_c (fun h => hq666320 (h ▸ hmq665936)) (nm_c (fun h => hq666300 (h ▸ hmq665936)) nm_n))).trans he666342
        have he666361 : F666355 q665937 = .inl (I .byte, 8192, .inl f665952) := (hfr666357 q665937 hm666318 (nm_c (fun h => hq666320 (h ▸ hmq665937)) (nm_c (fun h => hq666300 (h ▸ hmq665937)) nm_n))).trans he666343
        have hfr666362 : rFr [] P665934 F665935 F666355 := rFr_call hsb666321 hfr666344 hfr666357 (fun b hb hn => ⟨nm_n, (nm_c (fun e => hq666320 (e ▸ hb)) (nm_c (fun e => hq666300 (e ▸ hb)) nm_n))⟩)
        have bo666351' : gB o666351 1 1 := ⟨by omega, by omega⟩
        change G _ _ _ _ _ _ _ (.ref q666287 :: _) _ _ _
        refine G_widen (cs' := 2) (sl' := 20) (Nat.add_le_add_left hdc 2) (Nat.add_le_add_left hds 20) ?_
        refine G_aload_n 0 dr_cX14_symbol_52 rfl ?_
        refine Gp_get 0 hm666317 he666360 dr_cX14_symbol_53 (gk_X14 D I) (Nat.le_of_ble_eq_true rfl) wr_9_36 rfl ?_
        refine G_aload_n 0 dr_cX14_symbol_56 rfl ?_
        refine Gp_get 2 hm666317 he666360 dr_cX14_symbol_57 (gk_X14 D I) (Nat.le_of_ble_eq_true rfl) wr_9_38 rfl ?_
        refine G_iconst 1 dr_cX14_symbol_60 (by decide +kernel) ?_
        refine G_iadd dr_cX14_symbol_61 (G_eqi (y := z666276) hz666276.symm ?_)
        refine Gp_bald 1 hm666318 he666361 dr_cX14_symbol_62 rfl (gB_in bz666276' (by decide) (by decide)) (G_eqi (y := z666280) hz666280.symm ?_)
        refine G_i2c dr_cX14_symbol_63 (G_nam fun z666363 hz666363 => ?_)
        have ez666363 : z666363.toInt = z666280.toInt := gI_i2c hz666363 (by omega) (by omega)
        have bz666363 : gB z666363 33 127 := ⟨by omega, by omega⟩
        refine Gw_callV (As := [.int z666363]) (gV_ok D I) (cp_655771_StringBuilder_append l hl0 D I P666309 F666355 q666287 q666308 z666363 0 o666351 f666352 16 hm666319 hm666315 he666358 he666359 (gB_w bz666363 (by decide) (by decide)) (gB_w (gBl (show Int32.toInt 0 = 0 by decide)) (by decide) (by decide)) (gB_w bo666351' (by decide) (by decide)) bf666352 (by have qa0 : Int32.toInt 0 = 0 := (by decide); omega) (by have qa0 : Int32.toInt 0 = 0 := (by decide); omega)) dr_cX14_symbol_64 ⟨wr_7_237, wr_1_20, wr_8_0, by decide, rfl, (Nat.le_of_ble_eq_true rfl), (Nat.le_of_ble_eq_true rfl)⟩ wr_7_238 wr_7_239 hm666319 he666358 rfl (Nat.le_trans (show 2 + 0 ≤ 16 by decide) hMC) (Nat.le_trans (show 20 + 0 ≤ 160 by decide) hMS) (Nat.le_of_ble_eq_true rfl) (fun r666367 w666368 dc666364 ds666365 hp666366 => ?_) (fun _ _ _ _ _ z => z.elim)
        obtain ⟨F666373, o666369, f666370, rfl, rfl, hfr666375, he666376, he666377, hdc, hds, bo666369, bf666370, x666371, ht666372⟩ := hp666366
        have he666378 : F666373 q665936 = .inr (19, [.ref q665937, .int p665939, .int p665940, .int p665941, .int p665942, .int p665943, .int p665944, .ref qo665945, .int p665946, .int p665947, .int p665948, .ref qo665949, .ref qo665950, .int p665951]) := (hfr666375 q665936 hm666317 (nm_c (fun h => hq666320 (h ▸ hmq665936)) (nm_c (fun h => hq666300 (h ▸ hmq665936)) nm_n))).trans he666360
        have he666379 : F666373 q665937 = .inl (I .byte, 8192, .inl f665952) := (hfr666375 q665937 hm666318 (nm_c (fun h => hq666320 (h ▸ hmq665937)) (nm_c (fun h => hq666300 (h ▸ hmq665937)) nm_n))).trans he666361
        have hfr666380 : rFr [] P665934 F665935 F666373 := rFr_call hsb666321 hfr666362 hfr666375 (fun b hb hn => ⟨nm_n, (nm_c (fun e => hq666320 (e ▸ hb)) (nm_c (fun e => hq666300 (e ▸ hb)) nm_n))⟩)
        have bo666369' : gB o666369 2 2 := ⟨by omega, by omega⟩
        change G _ _ _ _ _ _ _ (.ref q666287 :: _) _ _ _
        refine G_widen (cs' := 2) (sl' := 20) (Nat.add_le_add_left hdc 2) (Nat.add_le_add_left hds 20) ?_
        refine Gw_callV (As := []) (gV_ok D I) (cp_656985_StringBuilder_toString l hl0 D I P666309 F666373 q666287 q666308 0 o666369 f666370 16 hm666319 hm666315 he666376 he666377 (gB_w (gBl (show Int32.toInt 0 = 0 by decide)) (by decide) (by decide)) (gB_w bo666369' (by decide) (by decide)) bf666370 (by have qa0 : Int32.toInt 0 = 0 := (by decide); omega) (by have qa0 : Int32.toInt 0 = 0 := (by decide); omega)) dr_cX14_symbol_67 ⟨wr_8_66, wr_1_20, wr_8_69, by decide, rfl, (Nat.le_of_ble_eq_true rfl), (Nat.le_of_ble_eq_true rfl)⟩ wr_8_67 wr_8_68 hm666319 he666376 rfl (Nat.le_trans (show 2 + 2 ≤ 16 by decide) hMC) (show 20 + (o666369.toInt.toNat + 4) ≤ ((160 * (p665939.toInt - p665940.toInt)).toNat) by first | omega | decide) (Nat.le_of_ble_eq_true rfl) (fun r666384 w666385 dc666381 ds666382 hp666383 => ?_) (fun _ _ _ _ _ z => z.elim)
        obtain ⟨P666393, F666394, q666386, q666387, n666388, f666389, rfl, rfl, hsb666395, hfr666396, he666397, he666398, he666399, he666400, hm666401, hq666402, hm666403, hq666404, hdc, hds, bf666389, x666390, x666391, ht666392⟩ := hp666383
        have hm666405 : q665936 ∈ P666393 := hsb666395 q665936 hm666317
        have hm666406 : q665937 ∈ P666393 := hsb666395 q665937 hm666318
        have hm666407 : q666287 ∈ P666393 := hsb666395 q666287 hm666319
        have hm666408 : q666308 ∈ P666393 := hsb666395 q666308 hm666315
        have hq666409 : q666386 ∉ P665934 := fun z => hq666402 (hsb666321 q666386 z)
        have hq666410 : q666387 ∉ P665934 := fun z => hq666404 (hsb666321 q666387 z)
        have hsb666411 : rSub P665934 P666393 := rSub_tr hsb666321 hsb666395
        have he666412 : F666394 q665936 = .inr (19, [.ref q665937, .int p665939, .int p665940, .int p665941, .int p665942, .int p665943, .int p665944, .ref qo665945, .int p665946, .int p665947, .int p665948, .ref qo665949, .ref qo665950, .int p665951]) := (hfr666396 q665936 hm666317 nm_n).trans he666378
        have he666413 : F666394 q665937 = .inl (I .byte, 8192, .inl f665952) := (hfr666396 q665937 hm666318 nm_n).trans he666379
        have hfr666414 : rFr [] P665934 F665935 F666394 := rFr_call hsb666321 hfr666380 hfr666396 (fun b hb hn => ⟨nm_n, nm_n⟩)
        have hne666415 : q666308 ≠ q666387 := fun h => hq666404 (h ▸ hm666315)
        change G _ _ _ _ _ _ _ (.ref q666386 :: _) _ _ _
        refine G_widen (cs' := 4) (sl' := 20 + (o666369.toInt.toNat + 4)) (Nat.add_le_add_left hdc 2) (by omega) ?_
        refine G_goto 75 dr_cX14_symbol_70 (by decide +kernel) ?_
        refine G_astore_n (L' := [(2, .ref q666386), (0, .ref q665936), (1, .int p665938)]) dr_cX14_symbol_75 (Nat.le_of_ble_eq_true rfl) rfl ?_
        clear jn665958 bz666276 he666294 he666295 he666296 hm666297 hm666298 hm666299 hq666300 hfr666301 hsb666302 hsb666311 hfr666312 he666313 he666314 hm666315 hq666316 hm666317 hm666318 hm666319 hq666320 hsb666321 he666322 he666323 hfr666324 hfr666339 he666340 he666341 bf666332 he666342 he666343 hfr666344 ez666345 bz666345 hfr666357 he666358 he666359 bf666352 he666360 he666361 hfr666362 ez666363 bz666363 hfr666375 he666376 he666377 bf666370 he666378 he666379 hfr666380 hsb666395 hfr666396 he666398 he666399 hq666402 hq666404 hm666407 hm666408 hne666415; try clear r666306; try clear w666307; try clear dc666303; try clear ds666304; try clear hp666305; try clear r666329; try clear w666330; try clear dc666326; try clear ds666327; try clear hp666328; try clear x666334; try clear x666335; try clear r666349; try clear w666350; try clear dc666346; try clear ds666347; try clear hp666348; try clear r666367; try clear w666368; try clear dc666364; try clear ds666365; try clear hp666366; try clear r666384; try clear w666385; try clear dc666381; try clear ds666382; try clear hp666383; try clear x666391
        refine G_aload_n 0 dr_cX14_symbol_76 rfl ?_
        refine Gw_callV (As := []) (gV_ok D I) (cp_656312_String_length l hl0 D I P666393 F666394 q666386 q666387 0 0 f666389 n666388 hm666401 hm666403 he666397 he666400 (gB_w (gBl (show Int32.toInt 0 = 0 by decide)) (by decide) (by decide)) bf666389 (by have qa0 : Int32.toInt 0 = 0 := (by decide); omega)) dr_cX14_symbol_77 ⟨wr_8_227, wr_1_21, wr_3_60, by decide, rfl, (Nat.le_of_ble_eq_true rfl), (Nat.le_of_ble_eq_true rfl)⟩ wr_3_58 wr_3_59 hm666401 he666397 rfl (Nat.le_trans (show 4 + 0 ≤ 16 by decide) hMC) (show 20 + (o666369.toInt.toNat + 4) + 0 ≤ ((160 * (p665939.toInt - p665940.toInt)).toNat) by first | omega | decide) (Nat.le_of_ble_eq_true rfl) (fun r666419 w666420 dc666416 ds666417 hp666418 => ?_) (fun _ _ _ _ _ z => z.elim)
        obtain ⟨o666421, rfl, rfl, hdc, hds, bo666421, x666422, ht666423⟩ := hp666418
        have bo666421' : gB o666421 2 2 := ⟨by omega, by omega⟩
        change G _ _ _ _ _ _ _ (.int o666421 :: _) _ _ _
        refine G_widen (cs' := 4) (sl' := 20 + (o666369.toInt.toNat + 4) + 0) (Nat.add_le_add_left hdc 4) (by omega) ?_
        refine G_iconst 2 dr_cX14_symbol_80 (by decide +kernel) ?_
        refine G_icmp_ne 120 dr_cX14_symbol_81 (by decide +kernel) (fun hc => absurd (show False by have := gj_neq hc (show Int32.toInt 2 = 2 by decide); omega) not_false) (fun _ => ?_)
        try clear r666419; try clear w666420; try clear dc666416; try clear ds666417; try clear hp666418
        refine G_ldcK (a := D.2 1000 36) dr_cX14_symbol_84 (fun _ _ _ h => gx_vk 36 rfl rfl h) ?_
        have hl36_666423 : (sb_36.length : Int) = 16 := rfl
        refine G_new [.null, .int 0, .int 0, .int 0] dr_cX14_symbol_86 (gk_J4 D I) wr_7_235 wr_7_44 wr_1_20 (gfs_J4) (Nat.le_trans (show 4 + 1 ≤ 16 by decide) hMC) (show 20 + (o666369.toInt.toNat + 4) + 0 + 4 ≤ ((160 * (p665939.toInt - p665940.toInt)).toNat) by first | omega | decide) (fun q666425 => Gp_in (fun P666426 F666427 hq666428 hP666429 e666430 n666431 => ?_))
        refine G_widen (cs' := 5) (sl' := 20 + (o666369.toInt.toNat + 4) + 0 + 4) (by omega) (by omega) ?_
        have he666432 : F666427 q665936 = .inr (19, [.ref q665937, .int p665939, .int p665940, .int p665941, .int p665942, .int p665943, .int p665944, .ref qo665945, .int p665946, .int p665947, .int p665948, .ref qo665949, .ref qo665950, .int p665951]) := (n666431 q665936 (fun h => hq666428 (h ▸ hm666405))).trans he666412
        have he666433 : F666427 q665937 = .inl (I .byte, 8192, .inl f665952) := (n666431 q665937 (fun h => hq666428 (h ▸ hm666406))).trans he666413
        have he666434 : F666427 q666386 = .inr (0, [.ref q666387, .int 0, .int 0, .int 0]) := (n666431 q666386 (fun h => hq666428 (h ▸ hm666401))).trans he666397
        have he666435 : F666427 q666387 = .inl (I .byte, n666388, .inl f666389) := (n666431 q666387 (fun h => hq666428 (h ▸ hm666403))).trans he666400
        have he666436 : F666427 q666425 = .inr (1, [.null, .int 0, .int 0, .int 0]) := e666430
        have hm666437 : q665936 ∈ P666426 := (hP666429 q665936).mpr (Or.inl hm666405)
        have hm666438 : q665937 ∈ P666426 := (hP666429 q665937).mpr (Or.inl hm666406)
        have hm666439 : q666386 ∈ P666426 := (hP666429 q666386).mpr (Or.inl hm666401)
        have hm666440 : q666387 ∈ P666426 := (hP666429 q666387).mpr (Or.inl hm666403)
        have hm666441 : q666425 ∈ P666426 := (hP666429 q666425).mpr (Or.inr rfl)
        have hq666442 : q666425 ∉ P665934 := fun z => hq666428 (hsb666411 q666425 z)
        have hfr666443 : rFr [] P665934 F665935 F666427 := rFr_new hsb666411 hq666428 hfr666414 n666431
        have hsb666444 : rSub P665934 P666426 := rSub_new hsb666411 hP666429
        refine G_dup dr_cX14_symbol_89 rfl ?_
        refine Gw_callI (As := []) (gV_ok D I) (cp_656210_StringBuilder_init l hl0 D I P666426 F666427 q666425 0 0 hm666441 he666436 (gB_w (gBl (show Int32.toInt 0 = 0 by decide)) (by decide) (by decide)) (gB_w (gBl (show Int32.toInt 0 = 0 by decide)) (by decide) (by decide))) dr_cX14_symbol_90 ⟨wr_7_236, wr_1_20, wr_7_47, by decide, rfl, (Nat.le_of_ble_eq_true rfl), (Nat.le_of_ble_eq_true rfl)⟩ wr_7_46 rfl (Nat.le_trans (show 5 + 1 ≤ 16 by decide) hMC) (show 20 + (o666369.toInt.toNat + 4) + 0 + 4 + 16 ≤ ((160 * (p665939.toInt - p665940.toInt)).toNat) by first | omega | decide) (Nat.le_of_ble_eq_true rfl) (fun r666448 w666449 dc666445 ds666446 hp666447 => ?_)
        obtain ⟨P666451, F666452, q666450, rfl, rfl, hsb666453, hfr666454, he666455, he666456, hm666457, hq666458, hdc, hds⟩ := hp666447
        have hm666459 : q665936 ∈ P666451 := hsb666453 q665936 hm666437
        have hm666460 : q665937 ∈ P666451 := hsb666453 q665937 hm666438
        have hm666461 : q666386 ∈ P666451 := hsb666453 q666386 hm666439
        have hm666462 : q666387 ∈ P666451 := hsb666453 q666387 hm666440
        have hm666463 : q666425 ∈ P666451 := hsb666453 q666425 hm666441
        have hq666464 : q666450 ∉ P665934 := fun z => hq666458 (hsb666444 q666450 z)
        have hsb666465 : rSub P665934 P666451 := rSub_tr hsb666444 hsb666453
        have he666466 : F666452 q665936 = .inr (19, [.ref q665937, .int p665939, .int p665940, .int p665941, .int p665942, .int p665943, .int p665944, .ref qo665945, .int p665946, .int p665947, .int p665948, .ref qo665949, .ref qo665950, .int p665951]) := (hfr666454 q665936 hm666437 (nm_c (fun h => hq666442 (h ▸ hmq665936)) nm_n)).trans he666432
        have he666467 : F666452 q665937 = .inl (I .byte, 8192, .inl f665952) := (hfr666454 q665937 hm666438 (nm_c (fun h => hq666442 (h ▸ hmq665937)) nm_n)).trans he666433
        have he666468 : F666452 q666386 = .inr (0, [.ref q666387, .int 0, .int 0, .int 0]) := (hfr666454 q666386 hm666439 (nm_c (rn_oo he666434 he666436 (by decide)) nm_n)).trans he666434
        have he666469 : F666452 q666387 = .inl (I .byte, n666388, .inl f666389) := (hfr666454 q666387 hm666440 (nm_c (rn_ao he666435 he666436) nm_n)).trans he666435
        have hfr666470 : rFr [] P665934 F665935 F666452 := rFr_call hsb666444 hfr666443 hfr666454 (fun b hb hn => ⟨nm_n, (nm_c (fun e => hq666442 (e ▸ hb)) nm_n)⟩)
        have hne666471 : q666387 ≠ q666450 := fun h => hq666458 (h ▸ hm666440)
        change G _ _ _ _ _ _ _ _ _ _ _
        refine G_widen (cs' := 6) (sl' := 20 + (o666369.toInt.toNat + 4) + 0 + 4 + 16) (Nat.add_le_add_left hdc 5) (by omega) ?_
        refine G_ldcK (a := D.2 1000 35) dr_cX14_symbol_93 (fun _ _ _ h => gx_vk 35 rfl rfl h) ?_
        have hl35_666471 : (sb_35.length : Int) = 1 := rfl
        refine Gw_callV (As := [.ref (D.2 1000 35)]) (gV_ok D I) (cp_656512_StringBuilder_append l hl0 D I P666451 F666452 q666425 q666450 (D.2 1000 35) (D.2 1001 35) sb_35 0 0 (fun _ => 0) 16 hm666463 hm666457 he666455 he666456 (gx_sc 35 rfl rfl) (by omega) (by decide +kernel) (gB_w (gBl (show Int32.toInt 0 = 0 by decide)) (by decide) (by decide)) (gB_w (gBl (show Int32.toInt 0 = 0 by decide)) (by decide) (by decide)) (gF_w gF_0 (by decide) (by decide)) (by have qa0 : Int32.toInt 0 = 0 := (by decide); omega) (by have qa0 : Int32.toInt 0 = 0 := (by decide); omega)) dr_cX14_symbol_95 ⟨wr_8_195, wr_1_20, wr_8_143, by decide, rfl, (Nat.le_of_ble_eq_true rfl), (Nat.le_of_ble_eq_true rfl)⟩ wr_8_141 wr_8_142 hm666463 he666455 rfl (Nat.le_trans (show 6 + 0 ≤ 16 by decide) hMC) (show 20 + (o666369.toInt.toNat + 4) + 0 + 4 + 16 + 0 ≤ ((160 * (p665939.toInt - p665940.toInt)).toNat) by first | omega | decide) (Nat.le_of_ble_eq_true rfl) (fun r666476 w666477 dc666473 ds666474 hp666475 => ?_) (fun _ _ _ _ _ z => z.elim)
        obtain ⟨F666484, o666478, f666479, rfl, rfl, hfr666486, he666487, he666488, hdc, hds, bo666478, bf666479, x666480, x666481, x666482, ht666483⟩ := hp666475
        have he666489 : F666484 q665936 = .inr (19, [.ref q665937, .int p665939, .int p665940, .int p665941, .int p665942, .int p665943, .int p665944, .ref qo665945, .int p665946, .int p665947, .int p665948, .ref qo665949, .ref qo665950, .int p665951]) := (hfr666486 q665936 hm666459 (nm_c (fun h => hq666442 (h ▸ hmq665936)) (nm_c (fun h => hq666464 (h ▸ hmq665936)) nm_n))).trans he666466
        have he666490 : F666484 q665937 = .inl (I .byte, 8192, .inl f665952) := (hfr666486 q665937 hm666460 (nm_c (fun h => hq666442 (h ▸ hmq665937)) (nm_c (fun h => hq666464 (h ▸ hmq665937)) nm_n))).trans he666467
        have he666491 : F666484 q666386 = .inr (0, [.ref q666387, .int 0, .int 0, .int 0]) := (hfr666486 q666386 hm666461 (nm_c (rn_oo he666468 he666455 (by decide)) (nm_c (rn_oa he666468 he666456) nm_n))).trans he666468
        have he666492 : F666484 q666387 = .inl (I .byte, n666388, .inl f666389) := (hfr666486 q666387 hm666462 (nm_c (rn_ao he666469 he666455) (nm_c hne666471 nm_n))).trans he666469
        have hfr666493 : rFr [] P665934 F665935 F666484 := rFr_call hsb666465 hfr666470 hfr666486 (fun b hb hn => ⟨nm_n, (nm_c (fun e => hq666442 (e ▸ hb)) (nm_c (fun e => hq666464 (e ▸ hb)) nm_n))⟩)
        rw [show Int32.toInt 0 = 0 from by decide] at x666480
        have bo666478' : gB o666478 1 1 := ⟨by omega, by omega⟩
        rw [show Int32.toInt 0 = 0 from by decide] at x666481
        rw [show Int32.toInt 0 = 0 from by decide] at x666482
        change G _ _ _ _ _ _ _ (.ref q666425 :: _) _ _ _
        refine G_widen (cs' := 6) (sl' := 20 + (o666369.toInt.toNat + 4) + 0 + 4 + 16 + 0) (Nat.add_le_add_left hdc 6) (by omega) ?_
        refine G_aload_n 0 dr_cX14_symbol_98 rfl ?_
        refine Gw_callV (As := [.ref q666386]) (gV_ok D I) (cp_656284_StringBuilder_append l hl0 D I P666451 F666484 q666425 q666386 q666450 q666387 0 o666478 0 0 f666479 16 f666389 n666388 hm666463 hm666461 hm666457 hm666462 he666487 he666491 he666488 he666492 (Ne.symm hne666471) (gB_w (gBl (show Int32.toInt 0 = 0 by decide)) (by decide) (by decide)) (gB_w bo666478' (by decide) (by decide)) (gB_w (gBl (show Int32.toInt 0 = 0 by decide)) (by decide) (by decide)) bf666479 bf666389 (by have qa0 : Int32.toInt 0 = 0 := (by decide); omega) (by have qa0 : Int32.toInt 0 = 0 := (by decide); omega) (by have qa0 : Int32.toInt 0 = 0 := (by decide); omega)) dr_cX14_symbol_99 ⟨wr_8_195, wr_1_20, wr_8_143, by decide, rfl, (Nat.le_of_ble_eq_true rfl), (Nat.le_of_ble_eq_true rfl)⟩ wr_8_141 wr_8_142 hm666463 he666487 rfl (Nat.le_trans (show 6 + 0 ≤ 16 by decide) hMC) (show 20 + (o666369.toInt.toNat + 4) + 0 + 4 + 16 + 0 + 0 ≤ ((160 * (p665939.toInt - p665940.toInt)).toNat) by first | omega | decide) (Nat.le_of_ble_eq_true rfl) (fun r666497 w666498 dc666494 ds666495 hp666496 => ?_) (fun _ _ _ _ _ z => z.elim)
        obtain ⟨F666505, o666499, f666500, rfl, rfl, hfr666507, he666508, he666509, he666510, he666511, hdc, hds, bo666499, bf666500, x666501, x666502, x666503, ht666504⟩ := hp666496
        have he666512 : F666505 q665936 = .inr (19, [.ref q665937, .int p665939, .int p665940, .int p665941, .int p665942, .int p665943, .int p665944, .ref qo665945, .int p665946, .int p665947, .int p665948, .ref qo665949, .ref qo665950, .int p665951]) := (hfr666507 q665936 hm666459 (nm_c (fun h => hq666442 (h ▸ hmq665936)) (nm_c (fun h => hq666464 (h ▸ hmq665936)) nm_n))).trans he666489
        have he666513 : F666505 q665937 = .inl (I .byte, 8192, .inl f665952) := (hfr666507 q665937 hm666460 (nm_c (fun h => hq666442 (h ▸ hmq665937)) (nm_c (fun h => hq666464 (h ▸ hmq665937)) nm_n))).trans he666490
        have hfr666514 : rFr [] P665934 F665935 F666505 := rFr_call hsb666465 hfr666493 hfr666507 (fun b hb hn => ⟨nm_n, (nm_c (fun e => hq666442 (e ▸ hb)) (nm_c (fun e => hq666464 (e ▸ hb)) nm_n))⟩)
        have bo666499' : gB o666499 3 3 := ⟨by omega, by omega⟩
        change G _ _ _ _ _ _ _ (.ref q666425 :: _) _ _ _
        refine G_widen (cs' := 6) (sl' := 20 + (o666369.toInt.toNat + 4) + 0 + 4 + 16 + 0 + 0) (Nat.add_le_add_left hdc 6) (by omega) ?_
        refine G_ldcK (a := D.2 1000 35) dr_cX14_symbol_102 (fun _ _ _ h => gx_vk 35 rfl rfl h) ?_
        have hl35_666514 : (sb_35.length : Int) = 1 := rfl
        refine Gw_callV (As := [.ref (D.2 1000 35)]) (gV_ok D I) (cp_656512_StringBuilder_append l hl0 D I P666451 F666505 q666425 q666450 (D.2 1000 35) (D.2 1001 35) sb_35 0 o666499 f666500 16 hm666463 hm666457 he666508 he666510 (gx_sc 35 rfl rfl) (by omega) (by decide +kernel) (gB_w (gBl (show Int32.toInt 0 = 0 by decide)) (by decide) (by decide)) (gB_w bo666499' (by decide) (by decide)) bf666500 (by have qa0 : Int32.toInt 0 = 0 := (by decide); omega) (by have qa0 : Int32.toInt 0 = 0 := (by decide); omega)) dr_cX14_symbol_104 ⟨wr_8_195, wr_1_20, wr_8_143, by decide, rfl, (Nat.le_of_ble_eq_true rfl), (Nat.le_of_ble_eq_true rfl)⟩ wr_8_141 wr_8_142 hm666463 he666508 rfl (Nat.le_trans (show 6 + 0 ≤ 16 by decide) hMC) (show 20 + (o666369.toInt.toNat + 4) + 0 + 4 + 16 + 0 + 0 + 0 ≤ ((160 * (p665939.toInt - p665940.toInt)).toNat) by first | omega | decide) (Nat.le_of_ble_eq_true rfl) (fun r666519 w666520 dc666516 ds666517 hp666518 => ?_) (fun _ _ _ _ _ z => z.elim)
        obtain ⟨F666527, o666521, f666522, rfl, rfl, hfr666529, he666530, he666531, hdc, hds, bo666521, bf666522, x666523, x666524, x666525, ht666526⟩ := hp666518
        have he666532 : F666527 q665936 = .inr (19, [.ref q665937, .int p665939, .int p665940, .int p665941, .int p665942, .int p665943, .int p665944, .ref qo665945, .int p665946, .int p665947, .int p665948, .ref qo665949, .ref qo665950, .int p665951]) := (hfr666529 q665936 hm666459 (nm_c (fun h => hq666442 (h ▸ hmq665936)) (nm_c (fun h => hq666464 (h ▸ hmq665936)) nm_n))).trans he666512
        have he666533 : F666527 q665937 = .inl (I .byte, 8192, .inl f665952) := (hfr666529 q665937 hm666460 (nm_c (fun h => hq666442 (h ▸ hmq665937)) (nm_c (fun h => hq666464 (h ▸ hmq665937)) nm_n))).trans he666513
        have he666534 : F666527 q666386 = .inr (0, [.ref q666387, .int 0, .int 0, .int 0]) := (hfr666529 q666386 hm666461 (nm_c (rn_oo he666509 he666508 (by decide)) (nm_c (rn_oa he666509 he666510) nm_n))).trans he666509
        have he666535 : F666527 q666387 = .inl (I .byte, n666388, .inl f666389) := (hfr666529 q666387 hm666462 (nm_c (rn_ao he666511 he666508) (nm_c hne666471 nm_n))).trans he666511
        have hfr666536 : rFr [] P665934 F665935 F666527 := rFr_call hsb666465 hfr666514 hfr666529 (fun b hb hn => ⟨nm_n, (nm_c (fun e => hq666442 (e ▸ hb)) (nm_c (fun e => hq666464 (e ▸ hb)) nm_n))⟩)
        have bo666521' : gB o666521 4 4 := ⟨by omega, by omega⟩
        change G _ _ _ _ _ _ _ (.ref q666425 :: _) _ _ _
        refine G_widen (cs' := 6) (sl' := 20 + (o666369.toInt.toNat + 4) + 0 + 4 + 16 + 0 + 0 + 0) (Nat.add_le_add_left hdc 6) (by omega) ?_
        refine Gw_callV (As := []) (gV_ok D I) (cp_656985_StringBuilder_toString l hl0 D I P666451 F666527 q666425 q666450 0 o666521 f666522 16 hm666463 hm666457 he666530 he666531 (gB_w (gBl (show Int32.toInt 0 = 0 by decide)) (by decide) (by decide)) (gB_w bo666521' (by decide) (by decide)) bf666522 (by have qa0 : Int32.toInt 0 = 0 := (by decide); omega) (by have qa0 : Int32.toInt 0 = 0 := (by decide); omega)) dr_cX14_symbol_107 ⟨wr_8_66, wr_1_20, wr_8_69, by decide, rfl, (Nat.le_of_ble_eq_true rfl), (Nat.le_of_ble_eq_true rfl)⟩ wr_8_67 wr_8_68 hm666463 he666530 rfl (Nat.le_trans (show 6 + 2 ≤ 16 by decide) hMC) (show 20 + (o666369.toInt.toNat + 4) + 0 + 4 + 16 + 0 + 0 + 0 + (o666521.toInt.toNat + 4) ≤ ((160 * (p665939.toInt - p665940.toInt)).toNat) by first | omega | decide) (Nat.le_of_ble_eq_true rfl) (fun r666540 w666541 dc666537 ds666538 hp666539 => ?_) (fun _ _ _ _ _ z => z.elim)
        obtain ⟨P666549, F666550, q666542, q666543, n666544, f666545, rfl, rfl, hsb666551, hfr666552, he666553, he666554, he666555, he666556, hm666557, hq666558, hm666559, hq666560, hdc, hds, bf666545, x666546, x666547, ht666548⟩ := hp666539
        have hm666561 : q665936 ∈ P666549 := hsb666551 q665936 hm666459
        have hm666562 : q665937 ∈ P666549 := hsb666551 q665937 hm666460
        have hm666563 : q666386 ∈ P666549 := hsb666551 q666386 hm666461
        have hm666564 : q666387 ∈ P666549 := hsb666551 q666387 hm666462
        have hm666565 : q666425 ∈ P666549 := hsb666551 q666425 hm666463
        have hm666566 : q666450 ∈ P666549 := hsb666551 q666450 hm666457
        have hq666567 : q666542 ∉ P665934 := fun z => hq666558 (hsb666465 q666542 z)
        have hq666568 : q666543 ∉ P665934 := fun z => hq666560 (hsb666465 q666543 z)
        have hsb666569 : rSub P665934 P666549 := rSub_tr hsb666465 hsb666551
        have he666570 : F666550 q665936 = .inr (19, [.ref q665937, .int p665939, .int p665940, .int p665941, .int p665942, .int p665943, .int p665944, .ref qo665945, .int p665946, .int p665947, .int p665948, .ref qo665949, .ref qo665950, .int p665951]) := (hfr666552 q665936 hm666459 nm_n).trans he666532
        have he666571 : F666550 q665937 = .inl (I .byte, 8192, .inl f665952) := (hfr666552 q665937 hm666460 nm_n).trans he666533
        have he666572 : F666550 q666386 = .inr (0, [.ref q666387, .int 0, .int 0, .int 0]) := (hfr666552 q666386 hm666461 nm_n).trans he666534
        have he666573 : F666550 q666387 = .inl (I .byte, n666388, .inl f666389) := (hfr666552 q666387 hm666462 nm_n).trans he666535
        have hfr666574 : rFr [] P665934 F665935 F666550 := rFr_call hsb666465 hfr666536 hfr666552 (fun b hb hn => ⟨nm_n, nm_n⟩)
        have hne666575 : q666386 ≠ q666542 := fun h => hq666558 (h ▸ hm666461)
        have hne666576 : q666387 ≠ q666543 := fun h => hq666560 (h ▸ hm666462)
        have hne666577 : q666450 ≠ q666543 := fun h => hq666560 (h ▸ hm666457)
        change G _ _ _ _ _ _ _ (.ref q666542 :: _) _ _ _
        refine G_widen (cs' := 8) (sl' := 20 + (o666369.toInt.toNat + 4) + 0 + 4 + 16 + 0 + 0 + 0 + (o666521.toInt.toNat + 4)) (Nat.add_le_add_left hdc 6) (by omega) ?_
        refine Gw_callVk (As := [.ref q666542]) (gV_ok D I) (cp_657444_String_indexOf l hl0 D I P666549 F666550 q666542 q666543 (D.2 1000 36) (D.2 1001 36) sb_36 0 0 f666545 n666544 hm666557 hm666559 he666553 he666556 (gx_sc 36 rfl rfl) (by omega) (by decide +kernel) (gB_w (gBl (show Int32.toInt 0 = 0 by decide)) (by decide) (by decide)) bf666545 (by have qa0 : Int32.toInt 0 = 0 := (by decide); omega) (by have qa0 : Int32.toInt 0 = 0 := (by decide); omega)) dr_cX14_symbol_110 ⟨wr_8_196, wr_1_21, wr_8_199, by decide, rfl, (Nat.le_of_ble_eq_true rfl), (Nat.le_of_ble_eq_true rfl)⟩ wr_8_197 wr_8_198 (fun _ _ _ h => ((gx_sc 36 rfl rfl) _ _ _ h).1) (Nat.le_trans (show 8 + 0 ≤ 16 by decide) hMC) (show 20 + (o666369.toInt.toNat + 4) + 0 + 4 + 16 + 0 + 0 + 0 + (o666521.toInt.toNat + 4) + 0 ≤ ((160 * (p665939.toInt - p665940.toInt)).toNat) by first | omega | decide) (Nat.le_of_ble_eq_true rfl) (fun r666581 w666582 dc666578 ds666579 hp666580 => ?_) (fun _ _ _ _ _ z => z.elim)
        obtain ⟨o666583, rfl, rfl, hdc, hds, bo666583, x666584, x666585, ht666586⟩ := hp666580
        change G _ _ _ _ _ _ _ (.int o666583 :: _) _ _ _
        refine G_widen (cs' := 8) (sl' := 20 + (o666369.toInt.toNat + 4) + 0 + 4 + 16 + 0 + 0 + 0 + (o666521.toInt.toNat + 4) + 0) (Nat.add_le_add_left hdc 8) (by omega) ?_
        refine G_if_lt 120 dr_cX14_symbol_113 (by decide +kernel) (fun hc666587 => ?_) (fun hc666587 => ?_)
        · have r666588 : o666583.toInt < 0 := gj_lt hc666587 (show Int32.toInt 0 = 0 by decide)
          have bo666583' : gB o666583 (-2147483646) (-1) := ⟨by omega, by omega⟩
          refine G_iconst 0 dr_cX14_symbol_120 (by decide +kernel) ?_
          refine G_istore_n (L' := [(3, .int 0), (2, .ref q666386), (0, .ref q665936), (1, .int p665938)]) dr_cX14_symbol_121 (Nat.le_of_ble_eq_true rfl) rfl ?_
          clear he666397 he666400 hm666401 hm666403 hm666405 hm666406 hsb666411 he666412 he666413 hfr666414 he666432 he666433 he666434 he666435 he666436 hm666437 hm666438 hm666439 hm666440 hm666441 hq666442 hfr666443 hsb666444 hsb666453 hfr666454 he666455 he666456 hm666457 hq666458 hm666459 hm666460 hm666461 hm666462 hm666463 hq666464 hsb666465 he666466 he666467 he666468 he666469 hfr666470 hne666471 hfr666486 he666487 he666488 bf666479 he666489 he666490 he666491 he666492 hfr666493 hfr666507 he666508 he666509 he666510 he666511 bf666500 he666512 he666513 hfr666514 hfr666529 he666530 he666531 bf666522 he666532 he666533 he666534 he666535 hfr666536 hsb666551 hfr666552 he666553 he666554 he666555 he666556 hm666557 hq666558 hm666559 hq666560 bf666545 hm666565 hm666566 hq666567 hq666568 hne666575 hne666576 hne666577; try clear r666448; try clear w666449; try clear dc666445; try clear ds666446; try clear hp666447; try clear r666476; try clear w666477; try clear dc666473; try clear ds666474; try clear hp666475; try clear x666481; try clear x666482; try clear r666497; try clear w666498; try clear dc666494; try clear ds666495; try clear hp666496; try clear x666502; try clear x666503; try clear r666519; try clear w666520; try clear dc666516; try clear ds666517; try clear hp666518; try clear x666524; try clear x666525; try clear r666540; try clear w666541; try clear dc666537; try clear ds666538; try clear hp666539; try clear x666547; try clear r666581; try clear w666582; try clear dc666578; try clear ds666579; try clear hp666580; try clear x666585
          refine G_aload_n 2 dr_cX14_symbol_122 rfl ?_
          refine G_iload_n 0 dr_cX14_symbol_123 rfl ?_
          refine G_if_ne 143 dr_cX14_symbol_124 (by decide +kernel) (fun hc => absurd hc (by decide)) (fun _ => ?_)
          refine G_iload_n 3 dr_cX14_symbol_127 rfl ?_
          refine G_bipush 32 dr_cX14_symbol_128 (by decide +kernel) ?_
          refine G_icmp_le 147 dr_cX14_symbol_130 (by decide +kernel) (fun hc => absurd (show False by have := gj_le hc (show Int32.toInt 32 = 32 by decide); omega) not_false) (fun _ => ?_)
          refine G_ldcK (a := D.2 1000 37) dr_cX14_symbol_133 (fun _ _ _ h => gx_vk 37 rfl rfl h) ?_
          have hl37_666588 : (sb_37.length : Int) = 14 := rfl
          refine G_iload_n 3 dr_cX14_symbol_135 rfl ?_
          refine G_i2c dr_cX14_symbol_136 (G_nam fun z666590 hz666590 => ?_)
          have ez666590 : z666590.toInt = p665938.toInt := gI_i2c hz666590 (by omega) (by omega)
          have bz666590 : gB z666590 33 127 := ⟨by omega, by omega⟩
          refine Gw_callVk (As := [.int z666590]) (gV_ok D I) (cp_664519_String_indexOf l hl0 D I P666549 F666550 (D.2 1000 37) (D.2 1001 37) sb_37 z666590 (gx_sc 37 rfl rfl) (by omega) (by decide +kernel) (gB_w bz666590 (by decide) (by decide))) dr_cX14_symbol_137 ⟨wr_8_230, wr_1_21, wr_8_233, by decide, rfl, (Nat.le_of_ble_eq_true rfl), (Nat.le_of_ble_eq_true rfl)⟩ wr_8_231 wr_8_232 (fun _ _ _ h => ((gx_sc 37 rfl rfl) _ _ _ h).1) (Nat.le_trans (show 8 + 0 ≤ 16 by decide) hMC) (show 20 + (o666369.toInt.toNat + 4) + 0 + 4 + 16 + 0 + 0 + 0 + (o666521.toInt.toNat + 4) + 0 + 0 ≤ ((160 * (p665939.toInt - p665940.toInt)).toNat) by first | omega | decide) (Nat.le_of_ble_eq_true rfl) (fun r666594 w666595 dc666591 ds666592 hp666593 => ?_) (fun _ _ _ _ _ z => z.elim)
          obtain ⟨o666596, rfl, rfl, hdc, hds, bo666596, ht666597⟩ := hp666593
          change G _ _ _ _ _ _ _ (.int o666596 :: _) _ _ _
          refine G_widen (cs' := 8) (sl' := 20 + (o666369.toInt.toNat + 4) + 0 + 4 + 16 + 0 + 0 + 0 + (o666521.toInt.toNat + 4) + 0 + 0) (Nat.add_le_add_left hdc 8) (by omega) ?_
          refine G_if_lt 147 dr_cX14_symbol_140 (by decide +kernel) (fun hc666598 => ?_) (fun hc666598 => ?_)
          · have r666599 : o666596.toInt < 0 := gj_lt hc666598 (show Int32.toInt 0 = 0 by decide)
            have bo666596' : gB o666596 (-1) (-1) := ⟨by omega, by omega⟩
            refine G_bipush 6 dr_cX14_symbol_147 (by decide +kernel) ?_
            refine Gp_put 3 hm666561 he666570 dr_cX14_symbol_149 (gk_X14 D I) (Nat.le_of_ble_eq_true rfl) wr_9_39 rfl rfl rfl (Nat.le_of_ble_eq_true rfl) (fun F666600 e666601 n666602 => ?_)
            have he666603 : F666600 q665937 = .inl (I .byte, 8192, .inl f665952) := (n666602 q665937 (rn_ao he666571 he666570)).trans he666571
            have he666604 : F666600 q666386 = .inr (0, [.ref q666387, .int 0, .int 0, .int 0]) := (n666602 q666386 (fun h => hq666409 (h ▸ hmq665936))).trans he666572
            have he666605 : F666600 q666387 = .inl (I .byte, n666388, .inl f666389) := (n666602 q666387 (fun h => hq666410 (h ▸ hmq665936))).trans he666573
            have he666606 : F666600 q665936 = .inr (19, [.ref q665937, .int p665939, .int p665940, .int 6, .int p665942, .int p665943, .int p665944, .ref qo665945, .int p665946, .int p665947, .int p665948, .ref qo665949, .ref qo665950, .int p665951]) := e666601
            have hfr666607 : rFr [q665936] P665934 F665935 F666600 := rFr_put hfr666574 n666602
            clear he666570 he666571 he666572 he666573 hfr666574 ez666590 bz666590 bo666596'; try clear r666594; try clear w666595; try clear dc666591; try clear ds666592; try clear hp666593
            refine G_aload_n 2 dr_cX14_symbol_152 rfl ?_
            refine G_iload_n 0 dr_cX14_symbol_153 rfl ?_
            refine G_if_eq 161 dr_cX14_symbol_154 (by decide +kernel) (fun _ => ?_) (fun hc => absurd hc (by decide))
            refine G_iload_n 3 dr_cX14_symbol_161 rfl ?_
            refine G_bipush 32 dr_cX14_symbol_162 (by decide +kernel) ?_
            refine G_icmp_le 190 dr_cX14_symbol_164 (by decide +kernel) (fun hc => absurd (show False by have := gj_le hc (show Int32.toInt 32 = 32 by decide); omega) not_false) (fun _ => ?_)
            refine G_new [.null, .int 0, .int 0, .int 0] dr_cX14_symbol_167 (gk_J4 D I) wr_7_235 wr_7_44 wr_1_20 (gfs_J4) (Nat.le_trans (show 8 + 1 ≤ 16 by decide) hMC) (show 20 + (o666369.toInt.toNat + 4) + 0 + 4 + 16 + 0 + 0 + 0 + (o666521.toInt.toNat + 4) + 0 + 0 + 4 ≤ ((160 * (p665939.toInt - p665940.toInt)).toNat) by first | omega | decide) (fun q666608 => Gp_in (fun P666609 F666610 hq666611 hP666612 e666613 n666614 => ?_))
            refine G_widen (cs' := 9) (sl' := 20 + (o666369.toInt.toNat + 4) + 0 + 4 + 16 + 0 + 0 + 0 + (o666521.toInt.toNat + 4) + 0 + 0 + 4) (by omega) (by omega) ?_
            have he666615 : F666610 q665936 = .inr (19, [.ref q665937, .int p665939, .int p665940, .int 6, .int p665942, .int p665943, .int p665944, .ref qo665945, .int p665946, .int p665947, .int p665948, .ref qo665949, .ref qo665950, .int p665951]) := (n666614 q665936 (fun h => hq666611 (h ▸ hm666561))).trans he666606
            have he666616 : F666610 q665937 = .inl (I .byte, 8192, .inl f665952) := (n666614 q665937 (fun h => hq666611 (h ▸ hm666562))).trans he666603
            have he666617 : F666610 q666386 = .inr (0, [.ref q666387, .int 0, .int 0, .int 0]) := (n666614 q666386 (fun h => hq666611 (h ▸ hm666563))).trans he666604
            have he666618 : F666610 q666387 = .inl (I .byte, n666388, .inl f666389) := (n666614 q666387 (fun h => hq666611 (h ▸ hm666564))).trans he666605
            have he666619 : F666610 q666608 = .inr (1, [.null, .int 0, .int 0, .int 0]) := e666613
            have hm666620 : q665936 ∈ P666609 := (hP666612 q665936).mpr (Or.inl hm666561)
            have hm666621 : q665937 ∈ P666609 := (hP666612 q665937).mpr (Or.inl hm666562)
            have hm666622 : q666386 ∈ P666609 := (hP666612 q666386).mpr (Or.inl hm666563)
            have hm666623 : q666387 ∈ P666609 := (hP666612 q666387).mpr (Or.inl hm666564)
            have hm666624 : q666608 ∈ P666609 := (hP666612 q666608).mpr (Or.inr rfl)
            have hq666625 : q666608 ∉ P665934 := fun z => hq666611 (hsb666569 q666608 z)
            have hfr666626 : rFr [q665936] P665934 F665935 F666610 := rFr_new hsb666569 hq666611 hfr666607 n666614
            have hsb666627 : rSub P665934 P666609 := rSub_new hsb666569 hP666612
            refine G_dup dr_cX14_symbol_170 rfl ?_
            refine Gw_callI (As := []) (gV_ok D I) (cp_656210_StringBuilder_init l hl0 D I P666609 F666610 q666608 0 0 hm666624 he666619 (gB_w (gBl (show Int32.toInt 0 = 0 by decide)) (by decide) (by decide)) (gB_w (gBl (show Int32.toInt 0 = 0 by decide)) (by decide) (by decide))) dr_cX14_symbol_171 ⟨wr_7_236, wr_1_20, wr_7_47, by decide, rfl, (Nat.le_of_ble_eq_true rfl), (Nat.le_of_ble_eq_true rfl)⟩ wr_7_46 rfl (Nat.le_trans (show 9 + 1 ≤ 16 by decide) hMC) (show 20 + (o666369.toInt.toNat + 4) + 0 + 4 + 16 + 0 + 0 + 0 + (o666521.toInt.toNat + 4) + 0 + 0 + 4 + 16 ≤ ((160 * (p665939.toInt - p665940.toInt)).toNat) by first | omega | decide) (Nat.le_of_ble_eq_true rfl) (fun r666631 w666632 dc666628 ds666629 hp666630 => ?_)
            obtain ⟨P666634, F666635, q666633, rfl, rfl, hsb666636, hfr666637, he666638, he666639, hm666640, hq666641, hdc, hds⟩ := hp666630
            have hm666642 : q665936 ∈ P666634 := hsb666636 q665936 hm666620
            have hm666643 : q665937 ∈ P666634 := hsb666636 q665937 hm666621
            have hm666644 : q666386 ∈ P666634 := hsb666636 q666386 hm666622
            have hm666645 : q666387 ∈ P666634 := hsb666636 q666387 hm666623
            have hm666646 : q666608 ∈ P666634 := hsb666636 q666608 hm666624
            have hq666647 : q666633 ∉ P665934 := fun z => hq666641 (hsb666627 q666633 z)
            have hsb666648 : rSub P665934 P666634 := rSub_tr hsb666627 hsb666636
            have he666649 : F666635 q665936 = .inr (19, [.ref q665937, .int p665939, .int p665940, .int 6, .int p665942, .int p665943, .int p665944, .ref qo665945, .int p665946, .int p665947, .int p665948, .ref qo665949, .ref qo665950, .int p665951]) := (hfr666637 q665936 hm666620 (nm_c (fun h => hq666625 (h ▸ hmq665936)) nm_n)).trans he666615
            have he666650 : F666635 q665937 = .inl (I .byte, 8192, .inl f665952) := (hfr666637 q665937 hm666621 (nm_c (fun h => hq666625 (h ▸ hmq665937)) nm_n)).trans he666616
            have he666651 : F666635 q666386 = .inr (0, [.ref q666387, .int 0, .int 0, .int 0]) := (hfr666637 q666386 hm666622 (nm_c (rn_oo he666617 he666619 (by decide)) nm_n)).trans he666617
            have he666652 : F666635 q666387 = .inl (I .byte, n666388, .inl f666389) := (hfr666637 q666387 hm666623 (nm_c (rn_ao he666618 he666619) nm_n)).trans he666618
            have hfr666653 : rFr [q665936] P665934 F665935 F666635 := rFr_call hsb666627 hfr666626 hfr666637 (fun b hb hn => ⟨(nm_c (fun e => hn (e ▸ List.mem_cons_self)) nm_n), (nm_c (fun e => hq666625 (e ▸ hb)) nm_n)⟩)
            have hne666654 : q666387 ≠ q666633 := fun h => hq666641 (h ▸ hm666623)
            change G _ _ _ _ _ _ _ _ _ _ _
            refine G_widen (cs' := 10) (sl' := 20 + (o666369.toInt.toNat + 4) + 0 + 4 + 16 + 0 + 0 + 0 + (o666521.toInt.toNat + 4) + 0 + 0 + 4 + 16) (Nat.add_le_add_left hdc 9) (by omega) ?_
            refine G_ldcK (a := D.2 1000 32) dr_cX14_symbol_174 (fun _ _ _ h => gx_vk 32 rfl rfl h) ?_
            have hl32_666654 : (sb_32.length : Int) = 0 := rfl
            refine Gw_callV (As := [.ref (D.2 1000 32)]) (gV_ok D I) (cp_656512_StringBuilder_append l hl0 D I P666634 F666635 q666608 q666633 (D.2 1000 32) (D.2 1001 32) sb_32 0 0 (fun _ => 0) 16 hm666646 hm666640 he666638 he666639 (gx_sc 32 rfl rfl) (by omega) (by decide +kernel) (gB_w (gBl (show Int32.toInt 0 = 0 by decide)) (by decide) (by decide)) (gB_w (gBl (show Int32.toInt 0 = 0 by decide)) (by decide) (by decide)) (gF_w gF_0 (by decide) (by decide)) (by have qa0 : Int32.toInt 0 = 0 := (by decide); have qa1 : Int32.toInt 6 = 6 := (by decide); omega) (by have qa0 : Int32.toInt 0 = 0 := (by decide); have qa1 : Int32.toInt 6 = 6 := (by decide); omega)) dr_cX14_symbol_176 ⟨wr_8_195, wr_1_20, wr_8_143, by decide, rfl, (Nat.le_of_ble_eq_true rfl), (Nat.le_of_ble_eq_true rfl)⟩ wr_8_141 wr_8_142 hm666646 he666638 rfl (Nat.le_trans (show 10 + 0 ≤ 16 by decide) hMC) (show 20 + (o666369.toInt.toNat + 4) + 0 + 4 + 16 + 0 + 0 + 0 + (o666521.toInt.toNat + 4) + 0 + 0 + 4 + 16 + 0 ≤ ((160 * (p665939.toInt - p665940.toInt)).toNat) by first | omega | decide) (Nat.le_of_ble_eq_true rfl) (fun r666659 w666660 dc666656 ds666657 hp666658 => ?_) (fun _ _ _ _ _ z => z.elim)
            obtain ⟨F666667, o666661, f666662, rfl, rfl, hfr666669, he666670, he666671, hdc, hds, bo666661, bf666662, x666663, x666664, x666665, ht666666⟩ := hp666658
            have he666672 : F666667 q665936 = .inr (19, [.ref q665937, .int p665939, .int p665940, .int 6, .int p665942, .int p665943, .int p665944, .ref qo665945, .int p665946, .int p665947, .int p665948, .ref qo665949, .ref qo665950, .int p665951]) := (hfr666669 q665936 hm666642 (nm_c (fun h => hq666625 (h ▸ hmq665936)) (nm_c (fun h => hq666647 (h ▸ hmq665936)) nm_n))).trans he666649
            have he666673 : F666667 q665937 = .inl (I .byte, 8192, .inl f665952) := (hfr666669 q665937 hm666643 (nm_c (fun h => hq666625 (h ▸ hmq665937)) (nm_c (fun h => hq666647 (h ▸ hmq665937)) nm_n))).trans he666650
            have he666674 : F666667 q666386 = .inr (0, [.ref q666387, .int 0, .int 0, .int 0]) := (hfr666669 q666386 hm666644 (nm_c (rn_oo he666651 he666638 (by decide)) (nm_c (rn_oa he666651 he666639) nm_n))).trans he666651
            have he666675 : F666667 q666387 = .inl (I .byte, n666388, .inl f666389) := (hfr666669 q666387 hm666645 (nm_c (rn_ao he666652 he666638) (nm_c hne666654 nm_n))).trans he666652
            have hfr666676 : rFr [q665936] P665934 F665935 F666667 := rFr_call hsb666648 hfr666653 hfr666669 (fun b hb hn => ⟨(nm_c (fun e => hn (e ▸ List.mem_cons_self)) nm_n), (nm_c (fun e => hq666625 (e ▸ hb)) (nm_c (fun e => hq666647 (e ▸ hb)) nm_n))⟩)
            rw [show Int32.toInt 0 = 0 from by decide] at x666663
            have bo666661' : gB o666661 0 0 := ⟨by omega, by omega⟩
            rw [show Int32.toInt 0 = 0 from by decide] at x666664
            rw [show Int32.toInt 0 = 0 from by decide] at x666665
            change G _ _ _ _ _ _ _ (.ref q666608 :: _) _ _ _
            refine G_widen (cs' := 10) (sl' := 20 + (o666369.toInt.toNat + 4) + 0 + 4 + 16 + 0 + 0 + 0 + (o666521.toInt.toNat + 4) + 0 + 0 + 4 + 16 + 0) (Nat.add_le_add_left hdc 10) (by omega) ?_
            refine G_iload_n 3 dr_cX14_symbol_179 rfl ?_
            refine G_i2c dr_cX14_symbol_180 (G_nam fun z666677 hz666677 => ?_)
            have ez666677 : z666677.toInt = p665938.toInt := gI_i2c hz666677 (by omega) (by omega)
            have bz666677 : gB z666677 33 127 := ⟨by omega, by omega⟩
            refine Gw_callV (As := [.int z666677]) (gV_ok D I) (cp_655771_StringBuilder_append l hl0 D I P666634 F666667 q666608 q666633 z666677 0 o666661 f666662 16 hm666646 hm666640 he666670 he666671 (gB_w bz666677 (by decide) (by decide)) (gB_w (gBl (show Int32.toInt 0 = 0 by decide)) (by decide) (by decide)) (gB_w bo666661' (by decide) (by decide)) bf666662 (by have qa0 : Int32.toInt 0 = 0 := (by decide); have qa1 : Int32.toInt 6 = 6 := (by decide); omega) (by have qa0 : Int32.toInt 0 = 0 := (by decide); have qa1 : Int32.toInt 6 = 6 := (by decide); omega)) dr_cX14_symbol_181 ⟨wr_7_237, wr_1_20, wr_8_0, by decide, rfl, (Nat.le_of_ble_eq_true rfl), (Nat.le_of_ble_eq_true rfl)⟩ wr_7_238 wr_7_239 hm666646 he666670 rfl (Nat.le_trans (show 10 + 0 ≤ 16 by decide) hMC) (show 20 + (o666369.toInt.toNat + 4) + 0 + 4 + 16 + 0 + 0 + 0 + (o666521.toInt.toNat + 4) + 0 + 0 + 4 + 16 + 0 + 0 ≤ ((160 * (p665939.toInt - p665940.toInt)).toNat) by first | omega | decide) (Nat.le_of_ble_eq_true rfl) (fun r666681 w666682 dc666678 ds666679 hp666680 => ?_) (fun _ _ _ _ _ z => z.elim)
            obtain ⟨F666687, o666683, f666684, rfl, rfl, hfr666689, he666690, he666691, hdc, hds, bo666683, bf666684, x666685, ht666686⟩ := hp666680
            have he666692 : F666687 q665936 = .inr (19, [.ref q665937, .int p665939, .int p665940, .int 6, .int p665942, .int p665943, .int p665944, .ref qo665945, .int p665946, .int p665947, .int p665948, .ref qo665949, .ref qo665950, .int p665951]) := (hfr666689 q665936 hm666642 (nm_c (fun h => hq666647 (h ▸ hmq665936)) (nm_c (fun h => hq666625 (h ▸ hmq665936)) nm_n))).trans he666672
            have he666693 : F666687 q665937 = .inl (I .byte, 8192, .inl f665952) := (hfr666689 q665937 hm666643 (nm_c (fun h => hq666647 (h ▸ hmq665937)) (nm_c (fun h => hq666625 (h ▸ hmq665937)) nm_n))).trans he666673
            have he666694 : F666687 q666386 = .inr (0, [.ref q666387, .int 0, .int 0, .int 0]) := (hfr666689 q666386 hm666644 (nm_c (rn_oa he666674 he666671) (nm_c (rn_oo he666674 he666670 (by decide)) nm_n))).trans he666674
            have he666695 : F666687 q666387 = .inl (I .byte, n666388, .inl f666389) := (hfr666689 q666387 hm666645 (nm_c hne666654 (nm_c (rn_ao he666675 he666670) nm_n))).trans he666675
            have hfr666696 : rFr [q665936] P665934 F665935 F666687 := rFr_call hsb666648 hfr666676 hfr666689 (fun b hb hn => ⟨(nm_c (fun e => hn (e ▸ List.mem_cons_self)) nm_n), (nm_c (fun e => hq666647 (e ▸ hb)) (nm_c (fun e => hq666625 (e ▸ hb)) nm_n))⟩)
            have bo666683' : gB o666683 1 1 := ⟨by omega, by omega⟩
            change G _ _ _ _ _ _ _ (.ref q666608 :: _) _ _ _
            refine G_widen (cs' := 10) (sl' := 20 + (o666369.toInt.toNat + 4) + 0 + 4 + 16 + 0 + 0 + 0 + (o666521.toInt.toNat + 4) + 0 + 0 + 4 + 16 + 0 + 0) (Nat.add_le_add_left hdc 10) (by omega) ?_
            refine Gw_callV (As := []) (gV_ok D I) (cp_656985_StringBuilder_toString l hl0 D I P666634 F666687 q666608 q666633 0 o666683 f666684 16 hm666646 hm666640 he666690 he666691 (gB_w (gBl (show Int32.toInt 0 = 0 by decide)) (by decide) (by decide)) (gB_w bo666683' (by decide) (by decide)) bf666684 (by have qa0 : Int32.toInt 0 = 0 := (by decide); have qa1 : Int32.toInt 6 = 6 := (by decide); omega) (by have qa0 : Int32.toInt 0 = 0 := (by decide); have qa1 : Int32.toInt 6 = 6 := (by decide); omega)) dr_cX14_symbol_184 ⟨wr_8_66, wr_1_20, wr_8_69, by decide, rfl, (Nat.le_of_ble_eq_true rfl), (Nat.le_of_ble_eq_true rfl)⟩ wr_8_67 wr_8_68 hm666646 he666690 rfl (Nat.le_trans (show 10 + 2 ≤ 16 by decide) hMC) (show 20 + (o666369.toInt.toNat + 4) + 0 + 4 + 16 + 0 + 0 + 0 + (o666521.toInt.toNat + 4) + 0 + 0 + 4 + 16 + 0 + 0 + (o666683.toInt.toNat + 4) ≤ ((160 * (p665939.toInt - p665940.toInt)).toNat) by first | omega | decide) (Nat.le_of_ble_eq_true rfl) (fun r666700 w666701 dc666697 ds666698 hp666699 => ?_) (fun _ _ _ _ _ z => z.elim)
            obtain ⟨P666709, F666710, q666702, q666703, n666704, f666705, rfl, rfl, hsb666711, hfr666712, he666713, he666714, he666715, he666716, hm666717, hq666718, hm666719, hq666720, hdc, hds, bf666705, x666706, x666707, ht666708⟩ := hp666699
            have hm666721 : q665936 ∈ P666709 := hsb666711 q665936 hm666642
            have hm666722 : q665937 ∈ P666709 := hsb666711 q665937 hm666643
            have hm666723 : q666386 ∈ P666709 := hsb666711 q666386 hm666644
            have hm666724 : q666387 ∈ P666709 := hsb666711 q666387 hm666645
            have hm666725 : q666608 ∈ P666709 := hsb666711 q666608 hm666646
            have hm666726 : q666633 ∈ P666709 := hsb666711 q666633 hm666640
            have hq666727 : q666702 ∉ P665934 := fun z => hq666718 (hsb666648 q666702 z)
            have hq666728 : q666703 ∉ P665934 := fun z => hq666720 (hsb666648 q666703 z)
            have hsb666729 : rSub P665934 P666709 := rSub_tr hsb666648 hsb666711
            have he666730 : F666710 q665936 = .inr (19, [.ref q665937, .int p665939, .int p665940, .int 6, .int p665942, .int p665943, .int p665944, .ref qo665945, .int p665946, .int p665947, .int p665948, .ref qo665949, .ref qo665950, .int p665951]) := (hfr666712 q665936 hm666642 nm_n).trans he666692
            have he666731 : F666710 q665937 = .inl (I .byte, 8192, .inl f665952) := (hfr666712 q665937 hm666643 nm_n).trans he666693
            have he666732 : F666710 q666386 = .inr (0, [.ref q666387, .int 0, .int 0, .int 0]) := (hfr666712 q666386 hm666644 nm_n).trans he666694
            have he666733 : F666710 q666387 = .inl (I .byte, n666388, .inl f666389) := (hfr666712 q666387 hm666645 nm_n).trans he666695
            have hfr666734 : rFr [q665936] P665934 F665935 F666710 := rFr_call hsb666648 hfr666696 hfr666712 (fun b hb hn => ⟨(nm_c (fun e => hn (e ▸ List.mem_cons_self)) nm_n), nm_n⟩)
            have hne666735 : q666386 ≠ q666702 := fun h => hq666718 (h ▸ hm666644)
            have hne666736 : q666387 ≠ q666703 := fun h => hq666720 (h ▸ hm666645)
            have hne666737 : q666633 ≠ q666703 := fun h => hq666720 (h ▸ hm666640)
            change G _ _ _ _ _ _ _ (.ref q666702 :: _) _ _ _
            refine G_widen (cs' := 12) (sl' := 20 + (o666369.toInt.toNat + 4) + 0 + 4 + 16 + 0 + 0 + 0 + (o666521.toInt.toNat + 4) + 0 + 0 + 4 + 16 + 0 + 0 + (o666683.toInt.toNat + 4)) (Nat.add_le_add_left hdc 10) (by omega) ?_
            refine G_goto 192 dr_cX14_symbol_187 (by decide +kernel) ?_
            refine Gp_put 7 hm666721 he666730 dr_cX14_symbol_192 (gk_X14 D I) (Nat.le_of_ble_eq_true rfl) wr_9_43 rfl rfl rfl (Nat.le_of_ble_eq_true rfl) (fun F666738 e666739 n666740 => ?_)
            have he666741 : F666738 q665937 = .inl (I .byte, 8192, .inl f665952) := (n666740 q665937 (rn_ao he666731 he666730)).trans he666731
            have he666742 : F666738 q666386 = .inr (0, [.ref q666387, .int 0, .int 0, .int 0]) := (n666740 q666386 (fun h => hq666409 (h ▸ hmq665936))).trans he666732
            have he666743 : F666738 q666387 = .inl (I .byte, n666388, .inl f666389) := (n666740 q666387 (fun h => hq666410 (h ▸ hmq665936))).trans he666733
            have he666744 : F666738 q666702 = .inr (0, [.ref q666703, .int 0, .int 0, .int 0]) := (n666740 q666702 (fun h => hq666727 (h ▸ hmq665936))).trans he666713
            have he666745 : F666738 q666608 = .inr (1, [.ref q666633, .int 0, .int 0, .int o666683]) := (n666740 q666608 (fun h => hq666625 (h ▸ hmq665936))).trans he666714
            have he666746 : F666738 q666633 = .inl (I .byte, 16, .inl f666684) := (n666740 q666633 (fun h => hq666647 (h ▸ hmq665936))).trans he666715
            have he666747 : F666738 q666703 = .inl (I .byte, n666704, .inl f666705) := (n666740 q666703 (fun h => hq666728 (h ▸ hmq665936))).trans he666716
            have he666748 : F666738 q665936 = .inr (19, [.ref q665937, .int p665939, .int p665940, .int 6, .int p665942, .int p665943, .int p665944, .ref q666702, .int p665946, .int p665947, .int p665948, .ref qo665949, .ref qo665950, .int p665951]) := e666739
            have hfr666749 : rFr [q665936] P665934 F665935 F666738 := rFr_put' List.mem_cons_self hfr666734 n666740
            clear hm666561 hm666562 hm666563 hm666564 hsb666569 he666603 he666604 he666605 he666606 hfr666607 he666615 he666616 he666617 he666618 he666619 hm666620 hm666621 hm666622 hm666623 hm666624 hq666625 hfr666626 hsb666627 hsb666636 hfr666637 he666638 he666639 hm666640 hq666641 hm666642 hm666643 hm666644 hm666645 hm666646 hq666647 hsb666648 he666649 he666650 he666651 he666652 hfr666653 hne666654 hfr666669 he666670 he666671 bf666662 he666672 he666673 he666674 he666675 hfr666676 ez666677 bz666677 hfr666689 he666690 he666691 bf666684 he666692 he666693 he666694 he666695 hfr666696 hsb666711 hfr666712 he666713 he666714 he666715 he666716 hq666718 hq666720 hm666725 hm666726 he666730 he666731 he666732 he666733 hfr666734 hne666737 he666745 he666746; try clear r666631; try clear w666632; try clear dc666628; try clear ds666629; try clear hp666630; try clear r666659; try clear w666660; try clear dc666656; try clear ds666657; try clear hp666658; try clear x666664; try clear x666665; try clear r666681; try clear w666682; try clear dc666678; try clear ds666679; try clear hp666680; try clear r666700; try clear w666701; try clear dc666697; try clear ds666698; try clear hp666699; try clear x666707
            refine G_aload_n 2 dr_cX14_symbol_195 rfl ?_
            refine G_dup dr_cX14_symbol_196 rfl ?_
            refine Gp_get 2 hm666721 he666748 dr_cX14_symbol_197 (gk_X14 D I) (Nat.le_of_ble_eq_true rfl) wr_9_38 rfl ?_
            refine G_iload_n 0 dr_cX14_symbol_200 rfl ?_
            refine G_if_eq 208 dr_cX14_symbol_201 (by decide +kernel) (fun _ => ?_) (fun hc => absurd hc (by decide))
            refine G_iconst 1 dr_cX14_symbol_208 (by decide +kernel) ?_
            refine G_iadd dr_cX14_symbol_209 (G_eqi (y := z666276) hz666276.symm ?_)
            refine Gp_put 2 hm666721 he666748 dr_cX14_symbol_210 (gk_X14 D I) (Nat.le_of_ble_eq_true rfl) wr_9_38 rfl rfl rfl (Nat.le_of_ble_eq_true rfl) (fun F666750 e666751 n666752 => ?_)
            have he666753 : F666750 q665937 = .inl (I .byte, 8192, .inl f665952) := (n666752 q665937 (rn_ao he666741 he666748)).trans he666741
            have he666754 : F666750 q666386 = .inr (0, [.ref q666387, .int 0, .int 0, .int 0]) := (n666752 q666386 (fun h => hq666409 (h ▸ hmq665936))).trans he666742
            have he666755 : F666750 q666387 = .inl (I .byte, n666388, .inl f666389) := (n666752 q666387 (fun h => hq666410 (h ▸ hmq665936))).trans he666743
            have he666756 : F666750 q666702 = .inr (0, [.ref q666703, .int 0, .int 0, .int 0]) := (n666752 q666702 (fun h => hq666727 (h ▸ hmq665936))).trans he666744
            have he666757 : F666750 q666703 = .inl (I .byte, n666704, .inl f666705) := (n666752 q666703 (fun h => hq666728 (h ▸ hmq665936))).trans he666747
            have he666758 : F666750 q665936 = .inr (19, [.ref q665937, .int p665939, .int z666276, .int 6, .int p665942, .int p665943, .int p665944, .ref q666702, .int p665946, .int p665947, .int p665948, .ref qo665949, .ref qo665950, .int p665951]) := e666751
            have hfr666759 : rFr [q665936] P665934 F665935 F666750 := rFr_put' List.mem_cons_self hfr666749 n666752
            exact G_vretA dr_cX14_symbol_213 rfl (show 12 ≤ ((16 * (p665939.toInt - p665940.toInt)).toNat) by omega) (show 20 + (o666369.toInt.toNat + 4) + 0 + 4 + 16 + 0 + 0 + 0 + (o666521.toInt.toNat + 4) + 0 + 0 + 4 + 16 + 0 + 0 + (o666683.toInt.toNat + 4) ≤ ((160 * (p665939.toInt - p665940.toInt)).toNat) by omega) ⟨P666709, F666750, z666276, 6, q666702, (0, fun _ => 0), rfl, rfl, hsb666729, hfr666759, he666758, he666753, (by omega), (by omega), (gB_w bz666276' (by decide) (by decide)), (gB_w (gBl (show Int32.toInt 6 = 6 by decide)) (by decide) (by decide)), (by have qa0 : Int32.toInt 0 = 0 := (by decide); have qa1 : Int32.toInt 6 = 6 := (by decide); omega), (by have qa0 : Int32.toInt 0 = 0 := (by decide); have qa1 : Int32.toInt 6 = 6 := (by decide); omega), (tP_no (by decide) (by decide)), (vP_no (by decide) (by decide)), (fun R c1 c2 c3 c4 c5 c6 => c4 z666276 z666280 o666331 f666332 z666345 o666351 f666352 z666363 o666369 f666370 n666388 f666389 o666421 o666478 f666479 o666499 f666500 o666521 f666522 n666544 f666545 o666583 z666590 o666596 o666661 f666662 z666677 o666683 f666684 n666704 f666705 ez666276 r666279 hz666280 bz666280 r666283 r666286 bo666331 ht666336 hz666345 bo666351 ht666354 hz666363 bo666369 ht666372 ht666392 bo666421 ht666423 bo666478 ht666483 bo666499 ht666504 bo666521 ht666526 ht666548 bo666583 ht666586 r666588 hz666590 bo666596 ht666597 r666599 bo666661 ht666666 hz666677 bo666683 ht666686 ht666708)⟩
          · have r666760 : 0 ≤ o666596.toInt := gj_nlt hc666598 (show Int32.toInt 0 = 0 by decide)
            have bo666596' : gB o666596 0 65534 := ⟨by omega, by omega⟩
            refine G_iconst 5 dr_cX14_symbol_143 (by decide +kernel) ?_
            refine G_goto 149 dr_cX14_symbol_144 (by decide +kernel) ?_
            refine Gp_put 3 hm666561 he666570 dr_cX14_symbol_149 (gk_X14 D I) (Nat.le_of_ble_eq_true rfl) wr_9_39 rfl rfl rfl (Nat.le_of_ble_eq_true rfl) (fun F666761 e666762 n666763 => ?_)
            have he666764 : F666761 q665937 = .inl (I .byte, 8192, .inl f665952) := (n666763 q665937 (rn_ao he666571 he666570)).trans he666571
            have he666765 : F666761 q666386 = .inr (0, [.ref q666387, .int 0, .int 0, .int 0]) := (n666763 q666386 (fun h => hq666409 (h ▸ hmq665936))).trans he666572
            have he666766 : F666761 q666387 = .inl (I .byte, n666388, .inl f666389) := (n666763 q666387 (fun h => hq666410 (h ▸ hmq665936))).trans he666573
            have he666767 : F666761 q665936 = .inr (19, [.ref q665937, .int p665939, .int p665940, .int 5, .int p665942, .int p665943, .int p665944, .ref qo665945, .int p665946, .int p665947, .int p665948, .ref qo665949, .ref qo665950, .int p665951]) := e666762
            have hfr666768 : rFr [q665936] P665934 F665935 F666761 := rFr_put hfr666574 n666763
            clear he666570 he666571 he666572 he666573 hfr666574 ez666590 bz666590 bo666596'; try clear r666594; try clear w666595; try clear dc666591; try clear ds666592; try clear hp666593
            refine G_aload_n 2 dr_cX14_symbol_152 rfl ?_
            refine G_iload_n 0 dr_cX14_symbol_153 rfl ?_
            refine G_if_eq 161 dr_cX14_symbol_154 (by decide +kernel) (fun _ => ?_) (fun hc => absurd hc (by decide))
            refine G_iload_n 3 dr_cX14_symbol_161 rfl ?_
            refine G_bipush 32 dr_cX14_symbol_162 (by decide +kernel) ?_
            refine G_icmp_le 190 dr_cX14_symbol_164 (by decide +kernel) (fun hc => absurd (show False by have := gj_le hc (show Int32.toInt 32 = 32 by decide); omega) not_false) (fun _ => ?_)
            refine G_new [.null, .int 0, .int 0, .int 0] dr_cX14_symbol_167 (gk_J4 D I) wr_7_235 wr_7_44 wr_1_20 (gfs_J4) (Nat.le_trans (show 8 + 1 ≤ 16 by decide) hMC) (show 20 + (o666369.toInt.toNat + 4) + 0 + 4 + 16 + 0 + 0 + 0 + (o666521.toInt.toNat + 4) + 0 + 0 + 4 ≤ ((160 * (p665939.toInt - p665940.toInt)).toNat) by first | omega | decide) (fun q666769 => Gp_in (fun P666770 F666771 hq666772 hP666773 e666774 n666775 => ?_))
            refine G_widen (cs' := 9) (sl' := 20 + (o666369.toInt.toNat + 4) + 0 + 4 + 16 + 0 + 0 + 0 + (o666521.toInt.toNat + 4) + 0 + 0 + 4) (by omega) (by omega) ?_
            have he666776 : F666771 q665936 = .inr (19, [.ref q665937, .int p665939, .int p665940, .int 5, .int p665942, .int p665943, .int p665944, .ref qo665945, .int p665946, .int p665947, .int p665948, .ref qo665949, .ref qo665950, .int p665951]) := (n666775 q665936 (fun h => hq666772 (h ▸ hm666561))).trans he666767
            have he666777 : F666771 q665937 = .inl (I .byte, 8192, .inl f665952) := (n666775 q665937 (fun h => hq666772 (h ▸ hm666562))).trans he666764
            have he666778 : F666771 q666386 = .inr (0, [.ref q666387, .int 0, .int 0, .int 0]) := (n666775 q666386 (fun h => hq666772 (h ▸ hm666563))).trans he666765
            have he666779 : F666771 q666387 = .inl (I .byte, n666388, .inl f666389) := (n666775 q666387 (fun h => hq666772 (h ▸ hm666564))).trans he666766
            have he666780 : F666771 q666769 = .inr (1, [.null, .int 0, .int 0, .int 0]) := e666774
            have hm666781 : q665936 ∈ P666770 := (hP666773 q665936).mpr (Or.inl hm666561)
            have hm666782 : q665937 ∈ P666770 := (hP666773 q665937).mpr (Or.inl hm666562)
            have hm666783 : q666386 ∈ P666770 := (hP666773 q666386).mpr (Or.inl hm666563)
            have hm666784 : q666387 ∈ P666770 := (hP666773 q666387).mpr (Or.inl hm666564)
            have hm666785 : q666769 ∈ P666770 := (hP666773 q666769).mpr (Or.inr rfl)
            have hq666786 : q666769 ∉ P665934 := fun z => hq666772 (hsb666569 q666769 z)
            have hfr666787 : rFr [q665936] P665934 F665935 F666771 := rFr_new hsb666569 hq666772 hfr666768 n666775
            have hsb666788 : rSub P665934 P666770 := rSub_new hsb666569 hP666773
            refine G_dup dr_cX14_symbol_170 rfl ?_
            refine Gw_callI (As := []) (gV_ok D I) (cp_656210_StringBuilder_init l hl0 D I P666770 F666771 q666769 0 0 hm666785 he666780 (gB_w (gBl (show Int32.toInt 0 = 0 by decide)) (by decide) (by decide)) (gB_w (gBl (show Int32.toInt 0 = 0 by decide)) (by decide) (by decide))) dr_cX14_symbol_171 ⟨wr_7_236, wr_1_20, wr_7_47, by decide, rfl, (Nat.le_of_ble_eq_true rfl), (Nat.le_of_ble_eq_true rfl)⟩ wr_7_46 rfl (Nat.le_trans (show 9 + 1 ≤ 16 by decide) hMC) (show 20 + (o666369.toInt.toNat + 4) + 0 + 4 + 16 + 0 + 0 + 0 + (o666521.toInt.toNat + 4) + 0 + 0 + 4 + 16 ≤ ((160 * (p665939.toInt - p665940.toInt)).toNat) by first | omega | decide) (Nat.le_of_ble_eq_true rfl) (fun r666792 w666793 dc666789 ds666790 hp666791 => ?_)
            obtain ⟨P666795, F666796, q666794, rfl, rfl, hsb666797, hfr666798, he666799, he666800, hm666801, hq666802, hdc, hds⟩ := hp666791
            have hm666803 : q665936 ∈ P666795 := hsb666797 q665936 hm666781
            have hm666804 : q665937 ∈ P666795 := hsb666797 q665937 hm666782
            have hm666805 : q666386 ∈ P666795 := hsb666797 q666386 hm666783
            have hm666806 : q666387 ∈ P666795 := hsb666797 q666387 hm666784
            have hm666807 : q666769 ∈ P666795 := hsb666797 q666769 hm666785
            have hq666808 : q666794 ∉ P665934 := fun z => hq666802 (hsb666788 q666794 z)
            have hsb666809 : rSub P665934 P666795 := rSub_tr hsb666788 hsb666797
            have he666810 : F666796 q665936 = .inr (19, [.ref q665937, .int p665939, .int p665940, .int 5, .int p665942, .int p665943, .int p665944, .ref qo665945, .int p665946, .int p665947, .int p665948, .ref qo665949, .ref qo665950, .int p665951]) := (hfr666798 q665936 hm666781 (nm_c (fun h => hq666786 (h ▸ hmq665936)) nm_n)).trans he666776
            have he666811 : F666796 q665937 = .inl (I .byte, 8192, .inl f665952) := (hfr666798 q665937 hm666782 (nm_c (fun h => hq666786 (h ▸ hmq665937)) nm_n)).trans he666777
            have he666812 : F666796 q666386 = .inr (0, [.ref q666387, .int 0, .int 0, .int 0]) := (hfr666798 q666386 hm666783 (nm_c (rn_oo he666778 he666780 (by decide)) nm_n)).trans he666778
            have he666813 : F666796 q666387 = .inl (I .byte, n666388, .inl f666389) := (hfr666798 q666387 hm666784 (nm_c (rn_ao he666779 he666780) nm_n)).trans he666779
            have hfr666814 : rFr [q665936] P665934 F665935 F666796 := rFr_call hsb666788 hfr666787 hfr666798 (fun b hb hn => ⟨(nm_c (fun e => hn (e ▸ List.mem_cons_self)) nm_n), (nm_c (fun e => hq666786 (e ▸ hb)) nm_n)⟩)
            have hne666815 : q666387 ≠ q666794 := fun h => hq666802 (h ▸ hm666784)
            change G _ _ _ _ _ _ _ _ _ _ _
            refine G_widen (cs' := 10) (sl' := 20 + (o666369.toInt.toNat + 4) + 0 + 4 + 16 + 0 + 0 + 0 + (o666521.toInt.toNat + 4) + 0 + 0 + 4 + 16) (Nat.add_le_add_left hdc 9) (by omega) ?_
            refine G_ldcK (a := D.2 1000 32) dr_cX14_symbol_174 (fun _ _ _ h => gx_vk 32 rfl rfl h) ?_
            have hl32_666815 : (sb_32.length : Int) = 0 := rfl
            refine Gw_callV (As := [.ref (D.2 1000 32)]) (gV_ok D I) (cp_656512_StringBuilder_append l hl0 D I P666795 F666796 q666769 q666794 (D.2 1000 32) (D.2 1001 32) sb_32 0 0 (fun _ => 0) 16 hm666807 hm666801 he666799 he666800 (gx_sc 32 rfl rfl) (by omega) (by decide +kernel) (gB_w (gBl (show Int32.toInt 0 = 0 by decide)) (by decide) (by decide)) (gB_w (gBl (show Int32.toInt 0 = 0 by decide)) (by decide) (by decide)) (gF_w gF_0 (by decide) (by decide)) (by have qa0 : Int32.toInt 0 = 0 := (by decide); have qa1 : Int32.toInt 5 = 5 := (by decide); omega) (by have qa0 : Int32.toInt 0 = 0 := (by decide); have qa1 : Int32.toInt 5 = 5 := (by decide); omega)) dr_cX14_symbol_176 ⟨wr_8_195, wr_1_20, wr_8_143, by decide, rfl, (Nat.le_of_ble_eq_true rfl), (Nat.le_of_ble_eq_true rfl)⟩ wr_8_141 wr_8_142 hm666807 he666799 rfl (Nat.le_trans (show 10 + 0 ≤ 16 by decide) hMC) (show 20 + (o666369.toInt.toNat + 4) + 0 + 4 + 16 + 0 + 0 + 0 + (o666521.toInt.toNat + 4) + 0 + 0 + 4 + 16 + 0 ≤ ((160 * (p665939.toInt - p665940.toInt)).toNat) by first | omega | decide) (Nat.le_of_ble_eq_true rfl) (fun r666820 w666821 dc666817 ds666818 hp666819 => ?_) (fun _ _ _ _ _ z => z.elim)
            obtain ⟨F666828, o666822, f666823, rfl, rfl, hfr666830, he666831, he666832, hdc, hds, bo666822, bf666823, x666824, x666825, x666826, ht666827⟩ := hp666819
            have he666833 : F666828 q665936 = .inr (19, [.ref q665937, .int p665939, .int p665940, .int 5, .int p665942, .int p665943, .int p665944, .ref qo665945, .int p665946, .int p665947, .int p665948, .ref qo665949, .ref qo665950, .int p665951]) := (hfr666830 q665936 hm666803 (nm_c (fun h => hq666786 (h ▸ hmq665936)) (nm_c (fun h => hq666808 (h ▸ hmq665936)) nm_n))).trans he666810
            have he666834 : F666828 q665937 = .inl (I .byte, 8192, .inl f665952) := (hfr666830 q665937 hm666804 (nm_c (fun h => hq666786 (h ▸ hmq665937)) (nm_c (fun h => hq666808 (h ▸ hmq665937)) nm_n))).trans he666811
            have he666835 : F666828 q666386 = .inr (0, [.ref q666387, .int 0, .int 0, .int 0]) := (hfr666830 q666386 hm666805 (nm_c (rn_oo he666812 he666799 (by decide)) (nm_c (rn_oa he666812 he666800) nm_n))).trans he666812
            have he666836 : F666828 q666387 = .inl (I .byte, n666388, .inl f666389) := (hfr666830 q666387 hm666806 (nm_c (rn_ao he666813 he666799) (nm_c hne666815 nm_n))).trans he666813
            have hfr666837 : rFr [q665936] P665934 F665935 F666828 := rFr_call hsb666809 hfr666814 hfr666830 (fun b hb hn => ⟨(nm_c (fun e => hn (e ▸ List.mem_cons_self)) nm_n), (nm_c (fun e => hq666786 (e ▸ hb)) (nm_c (fun e => hq666808 (e ▸ hb)) nm_n))⟩)
            rw [show Int32.toInt 0 = 0 from by decide] at x666824
            have bo666822' : gB o666822 0 0 := ⟨by omega, by omega⟩
            rw [show Int32.toInt 0 = 0 from by decide] at x666825
            rw [show Int32.toInt 0 = 0 from by decide] at x666826
            change G _ _ _ _ _ _ _ (.ref q666769 :: _) _ _ _
            refine G_widen (cs' := 10) (sl' := 20 + (o666369.toInt.toNat + 4) + 0 + 4 + 16 + 0 + 0 + 0 + (o666521.toInt.toNat + 4) + 0 + 0 + 4 + 16 + 0) (Nat.add_le_add_left hdc 10) (by omega) ?_
            refine G_iload_n 3 dr_cX14_symbol_179 rfl ?_
            refine G_i2c dr_cX14_symbol_180 (G_nam fun z666838 hz666838 => ?_)
            have ez666838 : z666838.toInt = p665938.toInt := gI_i2c hz666838 (by omega) (by omega)
            have bz666838 : gB z666838 33 127 := ⟨by omega, by omega⟩
            refine Gw_callV (As := [.int z666838]) (gV_ok D I) (cp_655771_StringBuilder_append l hl0 D I P666795 F666828 q666769 q666794 z666838 0 o666822 f666823 16 hm666807 hm666801 he666831 he666832 (gB_w bz666838 (by decide) (by decide)) (gB_w (gBl (show Int32.toInt 0 = 0 by decide)) (by decide) (by decide)) (gB_w bo666822' (by decide) (by decide)) bf666823 (by have qa0 : Int32.toInt 0 = 0 := (by decide); have qa1 : Int32.toInt 5 = 5 := (by decide); omega) (by have qa0 : Int32.toInt 0 = 0 := (by decide); have qa1 : Int32.toInt 5 = 5 := (by decide); omega)) dr_cX14_symbol_181 ⟨wr_7_237, wr_1_20, wr_8_0, by decide, rfl, (Nat.le_of_ble_eq_true rfl), (Nat.le_of_ble_eq_true rfl)⟩ wr_7_238 wr_7_239 hm666807 he666831 rfl (Nat.le_trans (show 10 + 0 ≤ 16 by decide) hMC) (show 20 + (o666369.toInt.toNat + 4) + 0 + 4 + 16 + 0 + 0 + 0 + (o666521.toInt.toNat + 4) + 0 + 0 + 4 + 16 + 0 + 0 ≤ ((160 * (p665939.toInt - p665940.toInt)).toNat) by first | omega | decide) (Nat.le_of_ble_eq_true rfl) (fun r666842 w666843 dc666839 ds666840 hp666841 => ?_) (fun _ _ _ _ _ z => z.elim)
            obtain ⟨F666848, o666844, f666845, rfl, rfl, hfr666850, he666851, he666852, hdc, hds, bo666844, bf666845, x666846, ht666847⟩ := hp666841
            have he666853 : F666848 q665936 = .inr (19, [.ref q665937, .int p665939, .int p665940, .int 5, .int p665942, .int p665943, .int p665944, .ref qo665945, .int p665946, .int p665947, .int p665948, .ref qo665949, .ref qo665950, .int p665951]) := (hfr666850 q665936 hm666803 (nm_c (fun h => hq666808 (h ▸ hmq665936)) (nm_c (fun h => hq666786 (h ▸ hmq665936)) nm_n))).trans he666833
            have he666854 : F666848 q665937 = .inl (I .byte, 8192, .inl f665952) := (hfr666850 q665937 hm666804 (nm_c (fun h => hq666808 (h ▸ hmq665937)) (nm_c (fun h => hq666786 (h ▸ hmq665937)) nm_n))).trans he666834
            have he666855 : F666848 q666386 = .inr (0, [.ref q666387, .int 0, .int 0, .int 0]) := (hfr666850 q666386 hm666805 (nm_c (rn_oa he666835 he666832) (nm_c (rn_oo he666835 he666831 (by decide)) nm_n))).trans he666835
            have he666856 : F666848 q666387 = .inl (I .byte, n666388, .inl f666389) := (hfr666850 q666387 hm666806 (nm_c hne666815 (nm_c (rn_ao he666836 he666831) nm_n))).trans he666836
            have hfr666857 : rFr [q665936] P665934 F665935 F666848 := rFr_call hsb666809 hfr666837 hfr666850 (fun b hb hn => ⟨(nm_c (fun e => hn (e ▸ List.mem_cons_self)) nm_n), (nm_c (fun e => hq666808 (e ▸ hb)) (nm_c (fun e => hq666786 (e ▸ hb)) nm_n))⟩)
            have bo666844' : gB o666844 1 1 := ⟨by omega, by omega⟩
            change G _ _ _ _ _ _ _ (.ref q666769 :: _) _ _ _
            refine G_widen (cs' := 10) (sl' := 20 + (o666369.toInt.toNat + 4) + 0 + 4 + 16 + 0 + 0 + 0 + (o666521.toInt.toNat + 4) + 0 + 0 + 4 + 16 + 0 + 0) (Nat.add_le_add_left hdc 10) (by omega) ?_
            refine Gw_callV (As := []) (gV_ok D I) (cp_656985_StringBuilder_toString l hl0 D I P666795 F666848 q666769 q666794 0 o666844 f666845 16 hm666807 hm666801 he666851 he666852 (gB_w (gBl (show Int32.toInt 0 = 0 by decide)) (by decide) (by decide)) (gB_w bo666844' (by decide) (by decide)) bf666845 (by have qa0 : Int32.toInt 0 = 0 := (by decide); have qa1 : Int32.toInt 5 = 5 := (by decide); omega) (by have qa0 : Int32.toInt 0 = 0 := (by decide); have qa1 : Int32.toInt 5 = 5 := (by decide); omega)) dr_cX14_symbol_184 ⟨wr_8_66, wr_1_20, wr_8_69, by decide, rfl, (Nat.le_of_ble_eq_true rfl), (Nat.le_of_ble_eq_true rfl)⟩ wr_8_67 wr_8_68 hm666807 he666851 rfl (Nat.le_trans (show 10 + 2 ≤ 16 by decide) hMC) (show 20 + (o666369.toInt.toNat + 4) + 0 + 4 + 16 + 0 + 0 + 0 + (o666521.toInt.toNat + 4) + 0 + 0 + 4 + 16 + 0 + 0 + (o666844.toInt.toNat + 4) ≤ ((160 * (p665939.toInt - p665940.toInt)).toNat) by first | omega | decide) (Nat.le_of_ble_eq_true rfl) (fun r666861 w666862 dc666858 ds666859 hp666860 => ?_) (fun _ _ _ _ _ z => z.elim)
            obtain ⟨P666870, F666871, q666863, q666864, n666865, f666866, rfl, rfl, hsb666872, hfr666873, he666874, he666875, he666876, he666877, hm666878, hq666879, hm666880, hq666881, hdc, hds, bf666866, x666867, x666868, ht666869⟩ := hp666860
            have hm666882 : q665936 ∈ P666870 := hsb666872 q665936 hm666803
            have hm666883 : q665937 ∈ P666870 := hsb666872 q665937 hm666804
            have hm666884 : q666386 ∈ P666870 := hsb666872 q666386 hm666805
            have hm666885 : q666387 ∈ P666870 := hsb666872 q666387 hm666806
            have hm666886 : q666769 ∈ P666870 := hsb666872 q666769 hm666807
            have hm666887 : q666794 ∈ P666870 := hsb666872 q666794 hm666801
            have hq666888 : q666863 ∉ P665934 := fun z => hq666879 (hsb666809 q666863 z)
            have hq666889 : q666864 ∉ P665934 := fun z => hq666881 (hsb666809 q666864 z)
            have hsb666890 : rSub P665934 P666870 := rSub_tr hsb666809 hsb666872
            have he666891 : F666871 q665936 = .inr (19, [.ref q665937, .int p665939, .int p665940, .int 5, .int p665942, .int p665943, .int p665944, .ref qo665945, .int p665946, .int p665947, .int p665948, .ref qo665949, .ref qo665950, .int p665951]) := (hfr666873 q665936 hm666803 nm_n).trans he666853
            have he666892 : F666871 q665937 = .inl (I .byte, 8192, .inl f665952) := (hfr666873 q665937 hm666804 nm_n).trans he666854
            have he666893 : F666871 q666386 = .inr (0, [.ref q666387, .int 0, .int 0, .int 0]) := (hfr666873 q666386 hm666805 nm_n).trans he666855
            have he666894 : F666871 q666387 = .inl (I .byte, n666388, .inl f666389) := (hfr666873 q666387 hm666806 nm_n).trans he666856
            have hfr666895 : rFr [q665936] P665934 F665935 F666871 := rFr_call hsb666809 hfr666857 hfr666873 (fun b hb hn => ⟨(nm_c (fun e => hn (e ▸ List.mem_cons_self)) nm_n), nm_n⟩)
            have hne666896 : q666386 ≠ q666863 := fun h => hq666879 (h ▸ hm666805)
            have hne666897 : q666387 ≠ q666864 := fun h => hq666881 (h ▸ hm666806)
            have hne666898 : q666794 ≠ q666864 := fun h => hq666881 (h ▸ hm666801)
            change G _ _ _ _ _ _ _ (.ref q666863 :: _) _ _ _
            refine G_widen (cs' := 12) (sl' := 20 + (o666369.toInt.toNat + 4) + 0 + 4 + 16 + 0 + 0 + 0 + (o666521.toInt.toNat + 4) + 0 + 0 + 4 + 16 + 0 + 0 + (o666844.toInt.toNat + 4)) (Nat.add_le_add_left hdc 10) (by omega) ?_
            refine G_goto 192 dr_cX14_symbol_187 (by decide +kernel) ?_
            refine Gp_put 7 hm666882 he666891 dr_cX14_symbol_192 (gk_X14 D I) (Nat.le_of_ble_eq_true rfl) wr_9_43 rfl rfl rfl (Nat.le_of_ble_eq_true rfl) (fun F666899 e666900 n666901 => ?_)
            have he666902 : F666899 q665937 = .inl (I .byte, 8192, .inl f665952) := (n666901 q665937 (rn_ao he666892 he666891)).trans he666892
            have he666903 : F666899 q666386 = .inr (0, [.ref q666387, .int 0, .int 0, .int 0]) := (n666901 q666386 (fun h => hq666409 (h ▸ hmq665936))).trans he666893
            have he666904 : F666899 q666387 = .inl (I .byte, n666388, .inl f666389) := (n666901 q666387 (fun h => hq666410 (h ▸ hmq665936))).trans he666894
            have he666905 : F666899 q666863 = .inr (0, [.ref q666864, .int 0, .int 0, .int 0]) := (n666901 q666863 (fun h => hq666888 (h ▸ hmq665936))).trans he666874
            have he666906 : F666899 q666769 = .inr (1, [.ref q666794, .int 0, .int 0, .int o666844]) := (n666901 q666769 (fun h => hq666786 (h ▸ hmq665936))).trans he666875
            have he666907 : F666899 q666794 = .inl (I .byte, 16, .inl f666845) := (n666901 q666794 (fun h => hq666808 (h ▸ hmq665936))).trans he666876
            have he666908 : F666899 q666864 = .inl (I .byte, n666865, .inl f666866) := (n666901 q666864 (fun h => hq666889 (h ▸ hmq665936))).trans he666877
            have he666909 : F666899 q665936 = .inr (19, [.ref q665937, .int p665939, .int p665940, .int 5, .int p665942, .int p665943, .int p665944, .ref q666863, .int p665946, .int p665947, .int p665948, .ref qo665949, .ref qo665950, .int p665951]) := e666900
            have hfr666910 : rFr [q665936] P665934 F665935 F666899 := rFr_put' List.mem_cons_self hfr666895 n666901
            clear hm666561 hm666562 hm666563 hm666564 hsb666569 he666764 he666765 he666766 he666767 hfr666768 he666776 he666777 he666778 he666779 he666780 hm666781 hm666782 hm666783 hm666784 hm666785 hq666786 hfr666787 hsb666788 hsb666797 hfr666798 he666799 he666800 hm666801 hq666802 hm666803 hm666804 hm666805 hm666806 hm666807 hq666808 hsb666809 he666810 he666811 he666812 he666813 hfr666814 hne666815 hfr666830 he666831 he666832 bf666823 he666833 he666834 he666835 he666836 hfr666837 ez666838 bz666838 hfr666850 he666851 he666852 bf666845 he666853 he666854 he666855 he666856 hfr666857 hsb666872 hfr666873 he666874 he666875 he666876 he666877 hq666879 hq666881 hm666886 hm666887 he666891 he666892 he666893 he666894 hfr666895 hne666898 he666906 he666907; try clear r666792; try clear w666793; try clear dc666789; try clear ds666790; try clear hp666791; try clear r666820; try clear w666821; try clear dc666817; try clear ds666818; try clear hp666819; try clear x666825; try clear x666826; try clear r666842; try clear w666843; try clear dc666839; try clear ds666840; try clear hp666841; try clear r666861; try clear w666862; try clear dc666858; try clear ds666859; try clear hp666860; try clear x666868
            refine G_aload_n 2 dr_cX14_symbol_195 rfl ?_
            refine G_dup dr_cX14_symbol_196 rfl ?_
            refine Gp_get 2 hm666882 he666909 dr_cX14_symbol_197 (gk_X14 D I) (Nat.le_of_ble_eq_true rfl) wr_9_38 rfl ?_
            refine G_iload_n 0 dr_cX14_symbol_200 rfl ?_
            refine G_if_eq 208 dr_cX14_symbol_201 (by decide +kernel) (fun _ => ?_) (fun hc => absurd hc (by decide))
            refine G_iconst 1 dr_cX14_symbol_208 (by decide +kernel) ?_
            refine G_iadd dr_cX14_symbol_209 (G_eqi (y := z666276) hz666276.symm ?_)
            refine Gp_put 2 hm666882 he666909 dr_cX14_symbol_210 (gk_X14 D I) (Nat.le_of_ble_eq_true rfl) wr_9_38 rfl rfl rfl (Nat.le_of_ble_eq_true rfl) (fun F666911 e666912 n666913 => ?_)
            have he666914 : F666911 q665937 = .inl (I .byte, 8192, .inl f665952) := (n666913 q665937 (rn_ao he666902 he666909)).trans he666902
            have he666915 : F666911 q666386 = .inr (0, [.ref q666387, .int 0, .int 0, .int 0]) := (n666913 q666386 (fun h => hq666409 (h ▸ hmq665936))).trans he666903
            have he666916 : F666911 q666387 = .inl (I .byte, n666388, .inl f666389) := (n666913 q666387 (fun h => hq666410 (h ▸ hmq665936))).trans he666904
            have he666917 : F666911 q666863 = .inr (0, [.ref q666864, .int 0, .int 0, .int 0]) := (n666913 q666863 (fun h => hq666888 (h ▸ hmq665936))).trans he666905
            have he666918 : F666911 q666864 = .inl (I .byte, n666865, .inl f666866) := (n666913 q666864 (fun h => hq666889 (h ▸ hmq665936))).trans he666908
            have he666919 : F666911 q665936 = .inr (19, [.ref q665937, .int p665939, .int z666276, .int 5, .int p665942, .int p665943, .int p665944, .ref q666863, .int p665946, .int p665947, .int p665948, .ref qo665949, .ref qo665950, .int p665951]) := e666912
            have hfr666920 : rFr [q665936] P665934 F665935 F666911 := rFr_put' List.mem_cons_self hfr666910 n666913
            exact G_vretA dr_cX14_symbol_213 rfl (show 12 ≤ ((16 * (p665939.toInt - p665940.toInt)).toNat) by omega) (show 20 + (o666369.toInt.toNat + 4) + 0 + 4 + 16 + 0 + 0 + 0 + (o666521.toInt.toNat + 4) + 0 + 0 + 4 + 16 + 0 + 0 + (o666844.toInt.toNat + 4) ≤ ((160 * (p665939.toInt - p665940.toInt)).toNat) by omega) ⟨P666870, F666911, z666276, 5, q666863, (n666865, f666866), rfl, rfl, hsb666890, hfr666920, he666919, he666914, (by omega), (by omega), (gB_w bz666276' (by decide) (by decide)), (gB_w (gBl (show Int32.toInt 5 = 5 by decide)) (by decide) (by decide)), (by have qa0 : Int32.toInt 0 = 0 := (by decide); have qa1 : Int32.toInt 5 = 5 := (by decide); omega), (by have qa0 : Int32.toInt 0 = 0 := (by decide); have qa1 : Int32.toInt 5 = 5 := (by decide); omega), (tP_5 hm666878 he666917 hm666880 he666918 bf666866 (by omega) (gB_w (gBl (show Int32.toInt 0 = 0 by decide)) (by decide) (by decide)) (fun e => hq666889 (e ▸ x665955)) (fun e => hq666889 (e ▸ x665956))), (vP_no (by decide) (by decide)), (fun R c1 c2 c3 c4 c5 c6 => c5 z666276 z666280 o666331 f666332 z666345 o666351 f666352 z666363 o666369 f666370 n666388 f666389 o666421 o666478 f666479 o666499 f666500 o666521 f666522 n666544 f666545 o666583 z666590 o666596 o666822 f666823 z666838 o666844 f666845 n666865 f666866 ez666276 r666279 hz666280 bz666280 r666283 r666286 bo666331 ht666336 hz666345 bo666351 ht666354 hz666363 bo666369 ht666372 ht666392 bo666421 ht666423 bo666478 ht666483 bo666499 ht666504 bo666521 ht666526 ht666548 bo666583 ht666586 r666588 hz666590 bo666596 ht666597 r666760 bo666822 ht666827 hz666838 bo666844 ht666847 ht666869)⟩
        · have r666921 : 0 ≤ o666583.toInt := gj_nlt hc666587 (show Int32.toInt 0 = 0 by decide)
          have bo666583' : gB o666583 0 16777215 := ⟨by omega, by omega⟩
          refine G_iconst 1 dr_cX14_symbol_116 (by decide +kernel) ?_
          refine G_goto 121 dr_cX14_symbol_117 (by decide +kernel) ?_
          refine G_istore_n (L' := [(3, .int 1), (2, .ref q666386), (0, .ref q665936), (1, .int p665938)]) dr_cX14_symbol_121 (Nat.le_of_ble_eq_true rfl) rfl ?_
          clear he666397 he666400 hm666401 hm666403 hm666405 hm666406 hsb666411 he666412 he666413 hfr666414 he666432 he666433 he666434 he666435 he666436 hm666437 hm666438 hm666439 hm666440 hm666441 hq666442 hfr666443 hsb666444 hsb666453 hfr666454 he666455 he666456 hm666457 hq666458 hm666459 hm666460 hm666461 hm666462 hm666463 hq666464 hsb666465 he666466 he666467 he666468 he666469 hfr666470 hne666471 hfr666486 he666487 he666488 bf666479 he666489 he666490 he666491 he666492 hfr666493 hfr666507 he666508 he666509 he666510 he666511 bf666500 he666512 he666513 hfr666514 hfr666529 he666530 he666531 bf666522 he666532 he666533 he666534 he666535 hfr666536 hsb666551 hfr666552 he666553 he666554 he666555 he666556 hm666557 hq666558 hm666559 hq666560 bf666545 hm666565 hm666566 hq666567 hq666568 hne666575 hne666576 hne666577; try clear r666448; try clear w666449; try clear dc666445; try clear ds666446; try clear hp666447; try clear r666476; try clear w666477; try clear dc666473; try clear ds666474; try clear hp666475; try clear x666481; try clear x666482; try clear r666497; try clear w666498; try clear dc666494; try clear ds666495; try clear hp666496; try clear x666502; try clear x666503; try clear r666519; try clear w666520; try clear dc666516; try clear ds666517; try clear hp666518; try clear x666524; try clear x666525; try clear r666540; try clear w666541; try clear dc666537; try clear ds666538; try clear hp666539; try clear x666547; try clear r666581; try clear w666582; try clear dc666578; try clear ds666579; try clear hp666580; try clear x666585
          refine G_aload_n 2 dr_cX14_symbol_122 rfl ?_
          refine G_iload_n 0 dr_cX14_symbol_123 rfl ?_
          refine G_if_ne 143 dr_cX14_symbol_124 (by decide +kernel) (fun _ => ?_) (fun hc => absurd hc (by decide))
          refine G_iconst 5 dr_cX14_symbol_143 (by decide +kernel) ?_
          refine G_goto 149 dr_cX14_symbol_144 (by decide +kernel) ?_
          refine Gp_put 3 hm666561 he666570 dr_cX14_symbol_149 (gk_X14 D I) (Nat.le_of_ble_eq_true rfl) wr_9_39 rfl rfl rfl (Nat.le_of_ble_eq_true rfl) (fun F666922 e666923 n666924 => ?_)
          have he666925 : F666922 q665937 = .inl (I .byte, 8192, .inl f665952) := (n666924 q665937 (rn_ao he666571 he666570)).trans he666571
          have he666926 : F666922 q666386 = .inr (0, [.ref q666387, .int 0, .int 0, .int 0]) := (n666924 q666386 (fun h => hq666409 (h ▸ hmq665936))).trans he666572
          have he666927 : F666922 q666387 = .inl (I .byte, n666388, .inl f666389) := (n666924 q666387 (fun h => hq666410 (h ▸ hmq665936))).trans he666573
          have he666928 : F666922 q665936 = .inr (19, [.ref q665937, .int p665939, .int p665940, .int 5, .int p665942, .int p665943, .int p665944, .ref qo665945, .int p665946, .int p665947, .int p665948, .ref qo665949, .ref qo665950, .int p665951]) := e666923
          have hfr666929 : rFr [q665936] P665934 F665935 F666922 := rFr_put hfr666574 n666924
          clear he666570 he666571 he666572 he666573 hfr666574
          refine G_aload_n 2 dr_cX14_symbol_152 rfl ?_
          refine G_iload_n 0 dr_cX14_symbol_153 rfl ?_
          refine G_if_eq 161 dr_cX14_symbol_154 (by decide +kernel) (fun hc => absurd hc (by decide)) (fun _ => ?_)
          refine G_aload_n 1 dr_cX14_symbol_157 rfl ?_
          refine G_goto 192 dr_cX14_symbol_158 (by decide +kernel) ?_
          refine Gp_put 7 hm666561 he666928 dr_cX14_symbol_192 (gk_X14 D I) (Nat.le_of_ble_eq_true rfl) wr_9_43 rfl rfl rfl (Nat.le_of_ble_eq_true rfl) (fun F666930 e666931 n666932 => ?_)
          have he666933 : F666930 q665937 = .inl (I .byte, 8192, .inl f665952) := (n666932 q665937 (rn_ao he666925 he666928)).trans he666925
          have he666934 : F666930 q666386 = .inr (0, [.ref q666387, .int 0, .int 0, .int 0]) := (n666932 q666386 (fun h => hq666409 (h ▸ hmq665936))).trans he666926
          have he666935 : F666930 q666387 = .inl (I .byte, n666388, .inl f666389) := (n666932 q666387 (fun h => hq666410 (h ▸ hmq665936))).trans he666927
          have he666936 : F666930 q665936 = .inr (19, [.ref q665937, .int p665939, .int p665940, .int 5, .int p665942, .int p665943, .int p665944, .ref q666386, .int p665946, .int p665947, .int p665948, .ref qo665949, .ref qo665950, .int p665951]) := e666931
          have hfr666937 : rFr [q665936] P665934 F665935 F666930 := rFr_put' List.mem_cons_self hfr666929 n666932
          clear he666925 he666926 he666927 he666928 hfr666929
          refine G_aload_n 2 dr_cX14_symbol_195 rfl ?_
          refine G_dup dr_cX14_symbol_196 rfl ?_
          refine Gp_get 2 hm666561 he666936 dr_cX14_symbol_197 (gk_X14 D I) (Nat.le_of_ble_eq_true rfl) wr_9_38 rfl ?_
          refine G_iload_n 0 dr_cX14_symbol_200 rfl ?_
          refine G_if_eq 208 dr_cX14_symbol_201 (by decide +kernel) (fun hc => absurd hc (by decide)) (fun _ => ?_)
          refine G_iconst 2 dr_cX14_symbol_204 (by decide +kernel) ?_
          refine G_goto 209 dr_cX14_symbol_205 (by decide +kernel) ?_
          refine G_iadd dr_cX14_symbol_209 (G_nam fun z666938 hz666938 => ?_)
          have ez666938 : z666938.toInt = p665940.toInt + 2 := by rw [gI_add hz666938 bp665940 (gBl (show Int32.toInt 2 = 2 by decide)) (by decide) (by decide), show Int32.toInt 2 = 2 from by decide]
          have bz666938 : gB z666938 2 8194 := gB_add (gI_add hz666938 bp665940 (gBl (show Int32.toInt 2 = 2 by decide)) (by decide) (by decide)) bp665940 (gBl (show Int32.toInt 2 = 2 by decide)) (by decide) (by decide)
          refine Gp_put 2 hm666561 he666936 dr_cX14_symbol_210 (gk_X14 D I) (Nat.le_of_ble_eq_true rfl) wr_9_38 rfl rfl rfl (Nat.le_of_ble_eq_true rfl) (fun F666939 e666940 n666941 => ?_)
          have he666942 : F666939 q665937 = .inl (I .byte, 8192, .inl f665952) := (n666941 q665937 (rn_ao he666933 he666936)).trans he666933
          have he666943 : F666939 q666386 = .inr (0, [.ref q666387, .int 0, .int 0, .int 0]) := (n666941 q666386 (fun h => hq666409 (h ▸ hmq665936))).trans he666934
          have he666944 : F666939 q666387 = .inl (I .byte, n666388, .inl f666389) := (n666941 q666387 (fun h => hq666410 (h ▸ hmq665936))).trans he666935
          have he666945 : F666939 q665936 = .inr (19, [.ref q665937, .int p665939, .int z666938, .int 5, .int p665942, .int p665943, .int p665944, .ref q666386, .int p665946, .int p665947, .int p665948, .ref qo665949, .ref qo665950, .int p665951]) := e666940
          have hfr666946 : rFr [q665936] P665934 F665935 F666939 := rFr_put' List.mem_cons_self hfr666937 n666941
          exact G_vretA dr_cX14_symbol_213 rfl (show 8 ≤ ((16 * (p665939.toInt - p665940.toInt)).toNat) by omega) (show 20 + (o666369.toInt.toNat + 4) + 0 + 4 + 16 + 0 + 0 + 0 + (o666521.toInt.toNat + 4) + 0 ≤ ((160 * (p665939.toInt - p665940.toInt)).toNat) by omega) ⟨P666549, F666939, z666938, 5, q666386, (n666388, f666389), rfl, rfl, hsb666569, hfr666946, he666945, he666942, (by omega), (by omega), ⟨by omega, by omega⟩, (gB_w (gBl (show Int32.toInt 5 = 5 by decide)) (by decide) (by decide)), (by have qa0 : Int32.toInt 0 = 0 := (by decide); have qa1 : Int32.toInt 1 = 1 := (by decide); have qa2 : Int32.toInt 5 = 5 := (by decide); omega), (by have qa0 : Int32.toInt 0 = 0 := (by decide); have qa1 : Int32.toInt 1 = 1 := (by decide); have qa2 : Int32.toInt 5 = 5 := (by decide); omega), (tP_5 hm666563 he666943 hm666564 he666944 bf666389 (by omega) (gB_w (gBl (show Int32.toInt 0 = 0 by decide)) (by decide) (by decide)) (fun e => hq666410 (e ▸ x665955)) (fun e => hq666410 (e ▸ x665956))), (vP_no (by decide) (by decide)), (fun R c1 c2 c3 c4 c5 c6 => c6 z666276 z666280 o666331 f666332 z666345 o666351 f666352 z666363 o666369 f666370 n666388 f666389 o666421 o666478 f666479 o666499 f666500 o666521 f666522 n666544 f666545 o666583 z666938 ez666276 r666279 hz666280 bz666280 r666283 r666286 bo666331 ht666336 hz666345 bo666351 ht666354 hz666363 bo666369 ht666372 ht666392 bo666421 ht666423 bo666478 ht666483 bo666499 ht666504 bo666521 ht666526 ht666548 bo666583 ht666586 r666921 ez666938)⟩
/- tr_RReader_isLetter2: result -/
def tr_RReader_isLetter2 (a0 : Int32) (o1 : Int32) : Prop := ∀ R : (Int32) → Prop,
  (a0.toInt < 97 → R (0 : Int32)) →
  (97 ≤ a0.toInt → 122 < a0.toInt → R (0 : Int32)) →
  (97 ≤ a0.toInt → a0.toInt ≤ 122 → R (1 : Int32)) →
  R o1
