theorem dr_cX14_symbol_73 : decode cX14_symbol 73 = .ok (.ldc 9, 2) := by decide +kernel
theorem dr_cX14_symbol_75 : decode cX14_symbol 75 = .ok (.astore_n 2, 1) := by decide +kernel
theorem dr_cX14_symbol_76 : decode cX14_symbol 76 = .ok (.aload_n 2, 1) := by decide +kernel
theorem dr_cX14_symbol_77 : decode cX14_symbol 77 = .ok (.invokevirtual 113, 3) := by decide +kernel
theorem wr_8_223 : (Jvm.Cond.methodLink "SpillForgeModel$Reader" (113 : Nat) ({ cls := "java/lang/String", name := "length", desc := "()I" } : Jvm.MethodName)) ∈ gw := gw_8 223 rfl rfl
theorem dr_cX14_symbol_80 : decode cX14_symbol 80 = .ok (.iconst 2, 1) := by decide +kernel
theorem dr_cX14_symbol_81 : decode cX14_symbol 81 = .ok (.if_icmp .ne 39, 3) := by decide +kernel
theorem dr_cX14_symbol_120 : decode cX14_symbol 120 = .ok (.iconst 0, 1) := by decide +kernel
theorem dr_cX14_symbol_121 : decode cX14_symbol 121 = .ok (.istore_n 3, 1) := by decide +kernel
theorem dr_cX14_symbol_122 : decode cX14_symbol 122 = .ok (.aload_n 0, 1) := by decide +kernel
theorem dr_cX14_symbol_123 : decode cX14_symbol 123 = .ok (.iload_n 3, 1) := by decide +kernel
theorem dr_cX14_symbol_124 : decode cX14_symbol 124 = .ok (.ifCond .ne 19, 3) := by decide +kernel
theorem dr_cX14_symbol_127 : decode cX14_symbol 127 = .ok (.iload_n 1, 1) := by decide +kernel
theorem dr_cX14_symbol_128 : decode cX14_symbol 128 = .ok (.bipush 32, 2) := by decide +kernel
theorem dr_cX14_symbol_130 : decode cX14_symbol 130 = .ok (.if_icmp .le 17, 3) := by decide +kernel
theorem dr_cX14_symbol_147 : decode cX14_symbol 147 = .ok (.bipush 6, 2) := by decide +kernel
theorem dr_cX14_symbol_149 : decode cX14_symbol 149 = .ok (.putfield 38, 3) := by decide +kernel
theorem dr_cX14_symbol_152 : decode cX14_symbol 152 = .ok (.aload_n 0, 1) := by decide +kernel
theorem dr_cX14_symbol_153 : decode cX14_symbol 153 = .ok (.iload_n 3, 1) := by decide +kernel
theorem dr_cX14_symbol_154 : decode cX14_symbol 154 = .ok (.ifCond .eq 7, 3) := by decide +kernel
theorem dr_cX14_symbol_161 : decode cX14_symbol 161 = .ok (.iload_n 1, 1) := by decide +kernel
theorem dr_cX14_symbol_162 : decode cX14_symbol 162 = .ok (.bipush 32, 2) := by decide +kernel
theorem dr_cX14_symbol_164 : decode cX14_symbol 164 = .ok (.if_icmp .le 26, 3) := by decide +kernel
theorem dr_cX14_symbol_190 : decode cX14_symbol 190 = .ok (.ldc 9, 2) := by decide +kernel
theorem dr_cX14_symbol_192 : decode cX14_symbol 192 = .ok (.putfield 11, 3) := by decide +kernel
theorem wr_9_39 : (Jvm.Cond.fieldLink "SpillForgeModel$Reader" (11 : Nat) "SpillForgeModel$Reader" "text" "Ljava/lang/String;") ∈ gw := gw_9 39 rfl rfl
theorem dr_cX14_symbol_195 : decode cX14_symbol 195 = .ok (.aload_n 0, 1) := by decide +kernel
theorem dr_cX14_symbol_196 : decode cX14_symbol 196 = .ok (.dup, 1) := by decide +kernel
theorem dr_cX14_symbol_197 : decode cX14_symbol 197 = .ok (.getfield 44, 3) := by decide +kernel
theorem dr_cX14_symbol_200 : decode cX14_symbol 200 = .ok (.iload_n 3, 1) := by decide +kernel
theorem dr_cX14_symbol_201 : decode cX14_symbol 201 = .ok (.ifCond .eq 7, 3) := by decide +kernel
theorem dr_cX14_symbol_208 : decode cX14_symbol 208 = .ok (.iconst 1, 1) := by decide +kernel
theorem dr_cX14_symbol_209 : decode cX14_symbol 209 = .ok (.iadd, 1) := by decide +kernel
theorem dr_cX14_symbol_210 : decode cX14_symbol 210 = .ok (.putfield 44, 3) := by decide +kernel
theorem dr_cX14_symbol_213 : decode cX14_symbol 213 = .ok (.return_, 1) := by decide +kernel
theorem dr_cX14_symbol_133 : decode cX14_symbol 133 = .ok (.ldc 119, 2) := by decide +kernel
theorem dr_cX14_symbol_135 : decode cX14_symbol 135 = .ok (.iload_n 1, 1) := by decide +kernel
theorem dr_cX14_symbol_136 : decode cX14_symbol 136 = .ok (.i2c, 1) := by decide +kernel
theorem dr_cX14_symbol_137 : decode cX14_symbol 137 = .ok (.invokevirtual 121, 3) := by decide +kernel
theorem wr_8_226 : (Jvm.Cond.methodLink "SpillForgeModel$Reader" (121 : Nat) ({ cls := "java/lang/String", name := "indexOf", desc := "(I)I" } : Jvm.MethodName)) ∈ gw := gw_8 226 rfl rfl
theorem wr_8_229 : (Jvm.Cond.code ({ cls := "java/lang/String", name := "indexOf", desc := "(I)I" } : Jvm.MethodName) prog_34_method_79_code (2 : Nat) (Option.some Jvm.ClassFile.FieldType.int)) ∈ gw := gw_8 229 rfl rfl
theorem wr_8_227 : (Jvm.Cond.instanceMethod ({ cls := "java/lang/String", name := "indexOf", desc := "(I)I" } : Jvm.MethodName)) ∈ gw := gw_8 227 rfl rfl
theorem wr_8_228 : (Jvm.Cond.selects "java/lang/String" ({ cls := "java/lang/String", name := "indexOf", desc := "(I)I" } : Jvm.MethodName) ({ cls := "java/lang/String", name := "indexOf", desc := "(I)I" } : Jvm.MethodName)) ∈ gw := gw_8 228 rfl rfl
theorem dr_cX14_symbol_140 : decode cX14_symbol 140 = .ok (.ifCond .lt 7, 3) := by decide +kernel
theorem dr_cX14_symbol_167 : decode cX14_symbol 167 = .ok (.new 87, 3) := by decide +kernel
theorem wr_7_231 : (Jvm.Cond.classLink "SpillForgeModel$Reader" (87 : Nat) "java/lang/StringBuilder") ∈ gw := gw_7 231 rfl rfl
theorem dr_cX14_symbol_170 : decode cX14_symbol 170 = .ok (.dup, 1) := by decide +kernel
theorem dr_cX14_symbol_171 : decode cX14_symbol 171 = .ok (.invokespecial 89, 3) := by decide +kernel
theorem wr_7_232 : (Jvm.Cond.methodLink "SpillForgeModel$Reader" (89 : Nat) ({ cls := "java/lang/StringBuilder", name := "<init>", desc := "()V" } : Jvm.MethodName)) ∈ gw := gw_7 232 rfl rfl
theorem wr_7_47 : (Jvm.Cond.code ({ cls := "java/lang/StringBuilder", name := "<init>", desc := "()V" } : Jvm.MethodName) prog_35_method_1_code (1 : Nat) (Option.none : Option Jvm.ClassFile.FieldType)) ∈ gw := gw_7 47 rfl rfl
theorem wr_7_46 : (Jvm.Cond.instanceMethod ({ cls := "java/lang/StringBuilder", name := "<init>", desc := "()V" } : Jvm.MethodName)) ∈ gw := gw_7 46 rfl rfl
theorem dr_cX14_symbol_174 : decode cX14_symbol 174 = .ok (.ldc 9, 2) := by decide +kernel
theorem dr_cX14_symbol_176 : decode cX14_symbol 176 = .ok (.invokevirtual 102, 3) := by decide +kernel
theorem wr_8_191 : (Jvm.Cond.methodLink "SpillForgeModel$Reader" (102 : Nat) ({ cls := "java/lang/StringBuilder", name := "append", desc := "(Ljava/lang/String;)Ljava/lang/StringBuilder;" } : Jvm.MethodName)) ∈ gw := gw_8 191 rfl rfl
theorem wr_8_139 : (Jvm.Cond.code ({ cls := "java/lang/StringBuilder", name := "append", desc := "(Ljava/lang/String;)Ljava/lang/StringBuilder;" } : Jvm.MethodName) prog_35_method_7_code (2 : Nat) (Option.some (Jvm.ClassFile.FieldType.object "java/lang/StringBuilder"))) ∈ gw := gw_8 139 rfl rfl
theorem wr_8_137 : (Jvm.Cond.instanceMethod ({ cls := "java/lang/StringBuilder", name := "append", desc := "(Ljava/lang/String;)Ljava/lang/StringBuilder;" } : Jvm.MethodName)) ∈ gw := gw_8 137 rfl rfl
theorem wr_8_138 : (Jvm.Cond.selects "java/lang/StringBuilder" ({ cls := "java/lang/StringBuilder", name := "append", desc := "(Ljava/lang/String;)Ljava/lang/StringBuilder;" } : Jvm.MethodName) ({ cls := "java/lang/StringBuilder", name := "append", desc := "(Ljava/lang/String;)Ljava/lang/StringBuilder;" } : Jvm.MethodName)) ∈ gw := gw_8 138 rfl rfl
theorem dr_cX14_symbol_179 : decode cX14_symbol 179 = .ok (.iload_n 1, 1) := by decide +kernel
theorem dr_cX14_symbol_180 : decode cX14_symbol 180 = .ok (.i2c, 1) := by decide +kernel
theorem dr_cX14_symbol_181 : decode cX14_symbol 181 = .ok (.invokevirtual 90, 3) := by decide +kernel
theorem wr_7_233 : (Jvm.Cond.methodLink "SpillForgeModel$Reader" (90 : Nat) ({ cls := "java/lang/StringBuilder", name := "append", desc := "(C)Ljava/lang/StringBuilder;" } : Jvm.MethodName)) ∈ gw := gw_7 233 rfl rfl
theorem wr_7_236 : (Jvm.Cond.code ({ cls := "java/lang/StringBuilder", name := "append", desc := "(C)Ljava/lang/StringBuilder;" } : Jvm.MethodName) prog_35_method_14_code (2 : Nat) (Option.some (Jvm.ClassFile.FieldType.object "java/lang/StringBuilder"))) ∈ gw := gw_7 236 rfl rfl
theorem wr_7_234 : (Jvm.Cond.instanceMethod ({ cls := "java/lang/StringBuilder", name := "append", desc := "(C)Ljava/lang/StringBuilder;" } : Jvm.MethodName)) ∈ gw := gw_7 234 rfl rfl
theorem wr_7_235 : (Jvm.Cond.selects "java/lang/StringBuilder" ({ cls := "java/lang/StringBuilder", name := "append", desc := "(C)Ljava/lang/StringBuilder;" } : Jvm.MethodName) ({ cls := "java/lang/StringBuilder", name := "append", desc := "(C)Ljava/lang/StringBuilder;" } : Jvm.MethodName)) ∈ gw := gw_7 235 rfl rfl
theorem dr_cX14_symbol_184 : decode cX14_symbol 184 = .ok (.invokevirtual 94, 3) := by decide +kernel
theorem wr_8_62 : (Jvm.Cond.methodLink "SpillForgeModel$Reader" (94 : Nat) ({ cls := "java/lang/StringBuilder", name := "toString", desc := "()Ljava/lang/String;" } : Jvm.MethodName)) ∈ gw := gw_8 62 rfl rfl
theorem wr_8_65 : (Jvm.Cond.code ({ cls := "java/lang/StringBuilder", name := "toString", desc := "()Ljava/lang/String;" } : Jvm.MethodName) prog_35_method_42_code (1 : Nat) (Option.some (Jvm.ClassFile.FieldType.object "java/lang/String"))) ∈ gw := gw_8 65 rfl rfl
theorem wr_8_63 : (Jvm.Cond.instanceMethod ({ cls := "java/lang/StringBuilder", name := "toString", desc := "()Ljava/lang/String;" } : Jvm.MethodName)) ∈ gw := gw_8 63 rfl rfl
theorem wr_8_64 : (Jvm.Cond.selects "java/lang/StringBuilder" ({ cls := "java/lang/StringBuilder", name := "toString", desc := "()Ljava/lang/String;" } : Jvm.MethodName) ({ cls := "java/lang/StringBuilder", name := "toString", desc := "()Ljava/lang/String;" } : Jvm.MethodName)) ∈ gw := gw_8 64 rfl rfl
theorem dr_cX14_symbol_187 : decode cX14_symbol 187 = .ok (.goto 5, 3) := by decide +kernel
theorem dr_cX14_symbol_143 : decode cX14_symbol 143 = .ok (.iconst 5, 1) := by decide +kernel
theorem dr_cX14_symbol_144 : decode cX14_symbol 144 = .ok (.goto 5, 3) := by decide +kernel
theorem dr_cX14_symbol_0 : decode cX14_symbol 0 = .ok (.aload_n 0, 1) := by decide +kernel
theorem dr_cX14_symbol_1 : decode cX14_symbol 1 = .ok (.getfield 44, 3) := by decide +kernel
theorem dr_cX14_symbol_4 : decode cX14_symbol 4 = .ok (.iconst 1, 1) := by decide +kernel
theorem dr_cX14_symbol_5 : decode cX14_symbol 5 = .ok (.iadd, 1) := by decide +kernel
theorem dr_cX14_symbol_6 : decode cX14_symbol 6 = .ok (.aload_n 0, 1) := by decide +kernel
theorem dr_cX14_symbol_7 : decode cX14_symbol 7 = .ok (.getfield 32, 3) := by decide +kernel
theorem dr_cX14_symbol_10 : decode cX14_symbol 10 = .ok (.if_icmp .ge 63, 3) := by decide +kernel
theorem dr_cX14_symbol_13 : decode cX14_symbol 13 = .ok (.aload_n 0, 1) := by decide +kernel
theorem dr_cX14_symbol_14 : decode cX14_symbol 14 = .ok (.getfield 28, 3) := by decide +kernel
theorem dr_cX14_symbol_17 : decode cX14_symbol 17 = .ok (.aload_n 0, 1) := by decide +kernel
theorem dr_cX14_symbol_18 : decode cX14_symbol 18 = .ok (.getfield 44, 3) := by decide +kernel
theorem dr_cX14_symbol_21 : decode cX14_symbol 21 = .ok (.iconst 1, 1) := by decide +kernel
theorem dr_cX14_symbol_22 : decode cX14_symbol 22 = .ok (.iadd, 1) := by decide +kernel
theorem dr_cX14_symbol_23 : decode cX14_symbol 23 = .ok (.baload, 1) := by decide +kernel
theorem dr_cX14_symbol_24 : decode cX14_symbol 24 = .ok (.bipush 32, 2) := by decide +kernel
theorem dr_cX14_symbol_26 : decode cX14_symbol 26 = .ok (.if_icmp .le 47, 3) := by decide +kernel
theorem dr_cX14_symbol_29 : decode cX14_symbol 29 = .ok (.iload_n 1, 1) := by decide +kernel
theorem dr_cX14_symbol_30 : decode cX14_symbol 30 = .ok (.bipush 32, 2) := by decide +kernel
theorem dr_cX14_symbol_32 : decode cX14_symbol 32 = .ok (.if_icmp .le 41, 3) := by decide +kernel
theorem dr_cX14_symbol_35 : decode cX14_symbol 35 = .ok (.new 87, 3) := by decide +kernel
theorem dr_cX14_symbol_38 : decode cX14_symbol 38 = .ok (.dup, 1) := by decide +kernel
theorem dr_cX14_symbol_39 : decode cX14_symbol 39 = .ok (.invokespecial 89, 3) := by decide +kernel
theorem dr_cX14_symbol_42 : decode cX14_symbol 42 = .ok (.ldc 9, 2) := by decide +kernel
theorem dr_cX14_symbol_44 : decode cX14_symbol 44 = .ok (.invokevirtual 102, 3) := by decide +kernel
theorem dr_cX14_symbol_47 : decode cX14_symbol 47 = .ok (.iload_n 1, 1) := by decide +kernel
theorem dr_cX14_symbol_48 : decode cX14_symbol 48 = .ok (.i2c, 1) := by decide +kernel
theorem dr_cX14_symbol_49 : decode cX14_symbol 49 = .ok (.invokevirtual 90, 3) := by decide +kernel
theorem dr_cX14_symbol_52 : decode cX14_symbol 52 = .ok (.aload_n 0, 1) := by decide +kernel
theorem dr_cX14_symbol_53 : decode cX14_symbol 53 = .ok (.getfield 28, 3) := by decide +kernel
theorem dr_cX14_symbol_56 : decode cX14_symbol 56 = .ok (.aload_n 0, 1) := by decide +kernel
theorem dr_cX14_symbol_57 : decode cX14_symbol 57 = .ok (.getfield 44, 3) := by decide +kernel
theorem dr_cX14_symbol_60 : decode cX14_symbol 60 = .ok (.iconst 1, 1) := by decide +kernel
theorem dr_cX14_symbol_61 : decode cX14_symbol 61 = .ok (.iadd, 1) := by decide +kernel
theorem dr_cX14_symbol_62 : decode cX14_symbol 62 = .ok (.baload, 1) := by decide +kernel
theorem dr_cX14_symbol_63 : decode cX14_symbol 63 = .ok (.i2c, 1) := by decide +kernel
theorem dr_cX14_symbol_64 : decode cX14_symbol 64 = .ok (.invokevirtual 90, 3) := by decide +kernel
theorem dr_cX14_symbol_67 : decode cX14_symbol 67 = .ok (.invokevirtual 94, 3) := by decide +kernel
theorem dr_cX14_symbol_70 : decode cX14_symbol 70 = .ok (.goto 5, 3) := by decide +kernel
theorem dr_cX14_symbol_84 : decode cX14_symbol 84 = .ok (.ldc 117, 2) := by decide +kernel
theorem dr_cX14_symbol_86 : decode cX14_symbol 86 = .ok (.new 87, 3) := by decide +kernel
theorem dr_cX14_symbol_89 : decode cX14_symbol 89 = .ok (.dup, 1) := by decide +kernel
theorem dr_cX14_symbol_90 : decode cX14_symbol 90 = .ok (.invokespecial 89, 3) := by decide +kernel
theorem dr_cX14_symbol_93 : decode cX14_symbol 93 = .ok (.ldc 100, 2) := by decide +kernel
theorem dr_cX14_symbol_95 : decode cX14_symbol 95 = .ok (.invokevirtual 102, 3) := by decide +kernel
theorem dr_cX14_symbol_98 : decode cX14_symbol 98 = .ok (.aload_n 2, 1) := by decide +kernel
theorem dr_cX14_symbol_99 : decode cX14_symbol 99 = .ok (.invokevirtual 102, 3) := by decide +kernel
theorem dr_cX14_symbol_102 : decode cX14_symbol 102 = .ok (.ldc 100, 2) := by decide +kernel
theorem dr_cX14_symbol_104 : decode cX14_symbol 104 = .ok (.invokevirtual 102, 3) := by decide +kernel
theorem dr_cX14_symbol_107 : decode cX14_symbol 107 = .ok (.invokevirtual 94, 3) := by decide +kernel
theorem dr_cX14_symbol_110 : decode cX14_symbol 110 = .ok (.invokevirtual 105, 3) := by decide +kernel
theorem wr_8_192 : (Jvm.Cond.methodLink "SpillForgeModel$Reader" (105 : Nat) ({ cls := "java/lang/String", name := "indexOf", desc := "(Ljava/lang/String;)I" } : Jvm.MethodName)) ∈ gw := gw_8 192 rfl rfl
theorem wr_8_195 : (Jvm.Cond.code ({ cls := "java/lang/String", name := "indexOf", desc := "(Ljava/lang/String;)I" } : Jvm.MethodName) prog_34_method_84_code (3 : Nat) (Option.some Jvm.ClassFile.FieldType.int)) ∈ gw := gw_8 195 rfl rfl
theorem wr_8_193 : (Jvm.Cond.instanceMethod ({ cls := "java/lang/String", name := "indexOf", desc := "(Ljava/lang/String;)I" } : Jvm.MethodName)) ∈ gw := gw_8 193 rfl rfl
theorem wr_8_194 : (Jvm.Cond.selects "java/lang/String" ({ cls := "java/lang/String", name := "indexOf", desc := "(Ljava/lang/String;)I" } : Jvm.MethodName) ({ cls := "java/lang/String", name := "indexOf", desc := "(Ljava/lang/String;)I" } : Jvm.MethodName)) ∈ gw := gw_8 194 rfl rfl
theorem dr_cX14_symbol_113 : decode cX14_symbol 113 = .ok (.ifCond .lt 7, 3) := by decide +kernel
theorem dr_cX14_symbol_116 : decode cX14_symbol 116 = .ok (.iconst 1, 1) := by decide +kernel
theorem dr_cX14_symbol_117 : decode cX14_symbol 117 = .ok (.goto 4, 3) := by decide +kernel
theorem dr_cX14_symbol_157 : decode cX14_symbol 157 = .ok (.aload_n 2, 1) := by decide +kernel
theorem dr_cX14_symbol_158 : decode cX14_symbol 158 = .ok (.goto 34, 3) := by decide +kernel
theorem dr_cX14_symbol_204 : decode cX14_symbol 204 = .ok (.iconst 2, 1) := by decide +kernel
theorem dr_cX14_symbol_205 : decode cX14_symbol 205 = .ok (.goto 4, 3) := by decide +kernel
abbrev ky_650083_Reader_symbol : gKey := (cX14_symbol, 4, "SpillForgeModel$Reader", none, [], "symbol", fun _ _ => True)
def pp_650083_Reader_symbol (D : va_G) (I : FieldType → ClassId) (P650060 : List Nat) (F650061 : Nat → va_E) (q650062 : Nat) (q650063 : Nat) (p650064 : Int32) (p650065 : Int32) (p650066 : Int32) (p650067 : Int32) (p650068 : Int32) (p650069 : Int32) (p650070 : Int32) (qo650071 : Nat) (p650072 : Int32) (p650073 : Int32) (p650074 : Int32) (qo650075 : Nat) (qo650076 : Nat) (p650077 : Int32) (f650078 : Nat → Int32) : Option Value → va_W → Nat → Nat → Prop := fun r w dc ds => ∃ (P651050 : List Nat) (F651051 : Nat → va_E) (o651047 : Int32) (o651048 : Int32) (q651049 : Nat), r = none ∧ w = va_pl P651050 F651051 ∧ rSub P650060 P651050 ∧ rFr [q650062] P650060 F650061 F651051 ∧ F651051 q650062 = .inr (19, [.ref q650063, .int p650065, .int o651047, .int o651048, .int p650068, .int p650069, .int p650070, .ref q651049, .int p650072, .int p650073, .int p650074, .ref qo650075, .ref qo650076, .int p650077]) ∧ F651051 q650063 = .inl (I .byte, 8192, .inl f650078) ∧ dc ≤ (16 * (o651047.toInt - p650066.toInt)).toNat ∧ ds ≤ (160 * (o651047.toInt - p650066.toInt)).toNat ∧ gB o651047 1 8192 ∧ gB o651048 5 6 ∧ p650066.toInt < o651047.toInt ∧ o651047.toInt ≤ p650065.toInt ∧ tP I P651050 F651051 o651048 q651049 qo650076 qo650075 ∧ vP o651048 p650069
set_option maxRecDepth 100000 in
set_option maxHeartbeats 4000000 in
theorem cp_650083_Reader_symbol (l : Launch) (hl0 : l.stackTraces = false) (D : va_G) (I : FieldType → ClassId) (P650060 : List Nat) (F650061 : Nat → va_E) (q650062 : Nat) (q650063 : Nat) (p650064 : Int32) (p650065 : Int32) (p650066 : Int32) (p650067 : Int32) (p650068 : Int32) (p650069 : Int32) (p650070 : Int32) (qo650071 : Nat) (p650072 : Int32) (p650073 : Int32) (p650074 : Int32) (qo650075 : Nat) (qo650076 : Nat) (p650077 : Int32) (f650078 : Nat → Int32) (hmq650062 : q650062 ∈ P650060) (hmq650063 : q650063 ∈ P650060) (heq650062 : F650061 q650062 = .inr (19, [.ref q650063, .int p650065, .int p650066, .int p650067, .int p650068, .int p650069, .int p650070, .ref qo650071, .int p650072, .int p650073, .int p650074, .ref qo650075, .ref qo650076, .int p650077])) (heq650063 : F650061 q650063 = .inl (I .byte, 8192, .inl f650078)) (bp650064 : gB p650064 (-128) 127) (bp650065 : gB p650065 0 8192) (bp650066 : gB p650066 0 8192) (bp650067 : gB p650067 0 6) (bp650068 : gB p650068 0 8192) (bp650070 : gB p650070 0 6) (bp650072 : gB p650072 (-1) 8192) (bp650073 : gB p650073 0 4) (bp650074 : gB p650074 0 1000000) (bp650077 : gB p650077 0 1000000) (bf650078 : gF f650078 (-128) 127) (x650079 : p650066.toInt ≤ p650065.toInt) (x650080 : p650066.toInt < p650065.toInt) (x650081 : qo650076 ∈ P650060) (x650082 : qo650075 ∈ P650060) : CtA (gV D I) l yX14_symbol cX14_symbol 4 none 6 132 ((16 * (p650065.toInt - p650066.toInt)).toNat) ((160 * (p650065.toInt - p650066.toInt)).toNat) [.ref q650062, .int p650064] (va_pl P650060 F650061) (pp_650083_Reader_symbol D I P650060 F650061 q650062 q650063 p650064 p650065 p650066 p650067 p650068 p650069 p650070 qo650071 p650072 p650073 p650074 qo650075 qo650076 p650077 f650078) gNA := by
  refine CtA_of hl0 (by decide) (Nat.le_of_ble_eq_true rfl) ?_
  have bp650069 := gB_any p650069
  have hMC : 16 ≤ ((16 * (p650065.toInt - p650066.toInt)).toNat) := by omega
  have hMS : 160 ≤ ((160 * (p650065.toInt - p650066.toInt)).toNat) := by omega
  have jn650084 : G (gV D I) l (gRm 6 132 ((16 * (p650065.toInt - p650066.toInt)).toNat) ((160 * (p650065.toInt - p650066.toInt)).toNat)) (gMA (gV D I) (pp_650083_Reader_symbol D I P650060 F650061 q650062 q650063 p650064 p650065 p650066 p650067 p650068 p650069 p650070 qo650071 p650072 p650073 p650074 qo650075 qo650076 p650077 f650078) gNA ((16 * (p650065.toInt - p650066.toInt)).toNat) ((160 * (p650065.toInt - p650066.toInt)).toNat)) ky_650083_Reader_symbol 73 [(0, .ref q650062), (1, .int p650064)] [] (va_pl P650060 F650061) 0 0 := by
    refine G_ldcK (a := D.2 1000 32) dr_cX14_symbol_73 (fun _ _ _ h => gx_vk 32 rfl rfl h) ?_
    have hl32_650084 : (sb_32.length : Int) = 0 := rfl
    refine G_astore_n (L' := [(2, .ref (D.2 1000 32)), (0, .ref q650062), (1, .int p650064)]) dr_cX14_symbol_75 (Nat.le_of_ble_eq_true rfl) rfl ?_
    refine G_aload_n 0 dr_cX14_symbol_76 rfl ?_
    refine Gw_callVk (As := []) (gV_ok D I) (cp_640734_String_length l hl0 D I P650060 F650061 (D.2 1000 32) (D.2 1001 32) sb_32 (gx_sc 32 rfl rfl) (by omega) (by decide +kernel)) dr_cX14_symbol_77 ⟨wr_8_223, wr_1_21, wr_3_60, by decide, rfl, (Nat.le_of_ble_eq_true rfl), (Nat.le_of_ble_eq_true rfl)⟩ wr_3_58 wr_3_59 (fun _ _ _ h => ((gx_sc 32 rfl rfl) _ _ _ h).1) (Nat.le_trans (show 0 + 0 ≤ 16 by decide) hMC) (Nat.le_trans (show 0 + 0 ≤ 160 by decide) hMS) (Nat.le_of_ble_eq_true rfl) (fun r650089 w650090 dc650086 ds650087 hp650088 => ?_) (fun _ _ _ _ _ z => z.elim)
    obtain ⟨o650091, rfl, rfl, hdc, hds, bo650091, x650092⟩ := hp650088
    have bo650091' : gB o650091 0 0 := ⟨by omega, by omega⟩
    change G _ _ _ _ _ _ _ (.int o650091 :: _) _ _ _
    refine G_widen (cs' := 0) (sl' := 0) (Nat.add_le_add_left hdc 0) (Nat.add_le_add_left hds 0) ?_
    refine G_iconst 2 dr_cX14_symbol_80 (by decide +kernel) ?_
    refine G_icmp_ne 120 dr_cX14_symbol_81 (by decide +kernel) (fun _ => ?_) (fun hc => absurd (show False by have := gj_eq hc (show Int32.toInt 2 = 2 by decide); omega) not_false)
    refine G_iconst 0 dr_cX14_symbol_120 (by decide +kernel) ?_
    refine G_istore_n (L' := [(3, .int 0), (2, .ref (D.2 1000 32)), (0, .ref q650062), (1, .int p650064)]) dr_cX14_symbol_121 (Nat.le_of_ble_eq_true rfl) rfl ?_
    clear bo650091 bo650091'; try clear r650089; try clear w650090; try clear dc650086; try clear ds650087; try clear hp650088; try clear x650092
    refine G_aload_n 2 dr_cX14_symbol_122 rfl ?_
    refine G_iload_n 0 dr_cX14_symbol_123 rfl ?_
    refine G_if_ne 143 dr_cX14_symbol_124 (by decide +kernel) (fun hc => absurd hc (by decide)) (fun _ => ?_)
    refine G_iload_n 3 dr_cX14_symbol_127 rfl ?_
    refine G_bipush 32 dr_cX14_symbol_128 (by decide +kernel) ?_
    refine G_icmp_le 147 dr_cX14_symbol_130 (by decide +kernel) (fun hc650093 => ?_) (fun hc650093 => ?_)
    · have r650094 : p650064.toInt ≤ 32 := gj_le hc650093 (show Int32.toInt 32 = 32 by decide)
      have bp650064' : gB p650064 (-128) 32 := ⟨by omega, by omega⟩
      refine G_bipush 6 dr_cX14_symbol_147 (by decide +kernel) ?_
      refine Gp_put 3 hmq650062 heq650062 dr_cX14_symbol_149 (gk_X14 D I) (Nat.le_of_ble_eq_true rfl) wr_9_35 rfl rfl rfl (Nat.le_of_ble_eq_true rfl) (fun F650095 e650096 n650097 => ?_)
      have he650098 : F650095 q650063 = .inl (I .byte, 8192, .inl f650078) := (n650097 q650063 (rn_ao heq650063 heq650062)).trans heq650063
      have he650099 : F650095 q650062 = .inr (19, [.ref q650063, .int p650065, .int p650066, .int 6, .int p650068, .int p650069, .int p650070, .ref qo650071, .int p650072, .int p650073, .int p650074, .ref qo650075, .ref qo650076, .int p650077]) := e650096
      have hfr650100 : rFr [q650062] P650060 F650061 F650095 := rFr_put (rFr_rf (W := []) (P := P650060) (F := F650061)) n650097
      refine G_aload_n 2 dr_cX14_symbol_152 rfl ?_
      refine G_iload_n 0 dr_cX14_symbol_153 rfl ?_
      refine G_if_eq 161 dr_cX14_symbol_154 (by decide +kernel) (fun _ => ?_) (fun hc => absurd hc (by decide))
      refine G_iload_n 3 dr_cX14_symbol_161 rfl ?_
      refine G_bipush 32 dr_cX14_symbol_162 (by decide +kernel) ?_
      refine G_icmp_le 190 dr_cX14_symbol_164 (by decide +kernel) (fun _ => ?_) (fun hc => absurd (show False by have := gj_nle hc (show Int32.toInt 32 = 32 by decide); omega) not_false)
      refine G_ldcK (a := D.2 1000 32) dr_cX14_symbol_190 (fun _ _ _ h => gx_vk 32 rfl rfl h) ?_
      have hl32_650100 : (sb_32.length : Int) = 0 := rfl
      refine Gp_put 7 hmq650062 he650099 dr_cX14_symbol_192 (gk_X14 D I) (Nat.le_of_ble_eq_true rfl) wr_9_39 rfl rfl rfl (Nat.le_of_ble_eq_true rfl) (fun F650102 e650103 n650104 => ?_)
      have he650105 : F650102 q650063 = .inl (I .byte, 8192, .inl f650078) := (n650104 q650063 (rn_ao he650098 he650099)).trans he650098
      have he650106 : F650102 q650062 = .inr (19, [.ref q650063, .int p650065, .int p650066, .int 6, .int p650068, .int p650069, .int p650070, .ref (D.2 1000 32), .int p650072, .int p650073, .int p650074, .ref qo650075, .ref qo650076, .int p650077]) := e650103
      have hfr650107 : rFr [q650062] P650060 F650061 F650102 := rFr_put' List.mem_cons_self hfr650100 n650104
      clear he650098 he650099 hfr650100
      refine G_aload_n 2 dr_cX14_symbol_195 rfl ?_
      refine G_dup dr_cX14_symbol_196 rfl ?_
      refine Gp_get 2 hmq650062 he650106 dr_cX14_symbol_197 (gk_X14 D I) (Nat.le_of_ble_eq_true rfl) wr_9_34 rfl ?_
      refine G_iload_n 0 dr_cX14_symbol_200 rfl ?_
      refine G_if_eq 208 dr_cX14_symbol_201 (by decide +kernel) (fun _ => ?_) (fun hc => absurd hc (by decide))
      refine G_iconst 1 dr_cX14_symbol_208 (by decide +kernel) ?_
      refine G_iadd dr_cX14_symbol_209 (G_nam fun z650108 hz650108 => ?_)
      have ez650108 : z650108.toInt = p650066.toInt + 1 := by rw [gI_add hz650108 bp650066 (gBl (show Int32.toInt 1 = 1 by decide)) (by decide) (by decide), show Int32.toInt 1 = 1 from by decide]
      have bz650108 : gB z650108 1 8193 := gB_add (gI_add hz650108 bp650066 (gBl (show Int32.toInt 1 = 1 by decide)) (by decide) (by decide)) bp650066 (gBl (show Int32.toInt 1 = 1 by decide)) (by decide) (by decide)
      refine Gp_put 2 hmq650062 he650106 dr_cX14_symbol_210 (gk_X14 D I) (Nat.le_of_ble_eq_true rfl) wr_9_34 rfl rfl rfl (Nat.le_of_ble_eq_true rfl) (fun F650109 e650110 n650111 => ?_)
      have he650112 : F650109 q650063 = .inl (I .byte, 8192, .inl f650078) := (n650111 q650063 (rn_ao he650105 he650106)).trans he650105
      have he650113 : F650109 q650062 = .inr (19, [.ref q650063, .int p650065, .int z650108, .int 6, .int p650068, .int p650069, .int p650070, .ref (D.2 1000 32), .int p650072, .int p650073, .int p650074, .ref qo650075, .ref qo650076, .int p650077]) := e650110
      have hfr650114 : rFr [q650062] P650060 F650061 F650109 := rFr_put' List.mem_cons_self hfr650107 n650111
      exact G_vretA dr_cX14_symbol_213 rfl (show 0 ≤ ((16 * (p650065.toInt - p650066.toInt)).toNat) by omega) (show 0 ≤ ((160 * (p650065.toInt - p650066.toInt)).toNat) by omega) ⟨P650060, F650109, z650108, 6, (D.2 1000 32), rfl, rfl, (rSub_rf (P := P650060)), hfr650114, he650113, he650112, (by omega), (by omega), ⟨by omega, by omega⟩, (gB_w (gBl (show Int32.toInt 6 = 6 by decide)) (by decide) (by decide)), (by have qa0 : Int32.toInt 0 = 0 := (by decide); have qa1 : Int32.toInt 6 = 6 := (by decide); omega), (by have qa0 : Int32.toInt 0 = 0 := (by decide); have qa1 : Int32.toInt 6 = 6 := (by decide); omega), (tP_no (by decide) (by decide)), (vP_no (by decide) (by decide))⟩
    · have r650115 : 32 < p650064.toInt := gj_nle hc650093 (show Int32.toInt 32 = 32 by decide)
      have bp650064' : gB p650064 33 127 := ⟨by omega, by omega⟩
      refine G_ldcK (a := D.2 1000 37) dr_cX14_symbol_133 (fun _ _ _ h => gx_vk 37 rfl rfl h) ?_
      have hl37_650115 : (sb_37.length : Int) = 14 := rfl
      refine G_iload_n 3 dr_cX14_symbol_135 rfl ?_
      refine G_i2c dr_cX14_symbol_136 (G_nam fun z650117 hz650117 => ?_)
      have ez650117 : z650117.toInt = p650064.toInt := gI_i2c hz650117 (by omega) (by omega)
      have bz650117 : gB z650117 33 127 := ⟨by omega, by omega⟩
      refine Gw_callVk (As := [.int z650117]) (gV_ok D I) (cp_648681_String_indexOf l hl0 D I P650060 F650061 (D.2 1000 37) (D.2 1001 37) sb_37 z650117 (gx_sc 37 rfl rfl) (by omega) (by decide +kernel) (gB_w bz650117 (by decide) (by decide))) dr_cX14_symbol_137 ⟨wr_8_226, wr_1_21, wr_8_229, by decide, rfl, (Nat.le_of_ble_eq_true rfl), (Nat.le_of_ble_eq_true rfl)⟩ wr_8_227 wr_8_228 (fun _ _ _ h => ((gx_sc 37 rfl rfl) _ _ _ h).1) (Nat.le_trans (show 0 + 0 ≤ 16 by decide) hMC) (Nat.le_trans (show 0 + 0 ≤ 160 by decide) hMS) (Nat.le_of_ble_eq_true rfl) (fun r650121 w650122 dc650118 ds650119 hp650120 => ?_) (fun _ _ _ _ _ z => z.elim)
      obtain ⟨o650123, rfl, rfl, hdc, hds, bo650123⟩ := hp650120
      change G _ _ _ _ _ _ _ (.int o650123 :: _) _ _ _
      refine G_widen (cs' := 0) (sl' := 0) (Nat.add_le_add_left hdc 0) (Nat.add_le_add_left hds 0) ?_
      refine G_if_lt 147 dr_cX14_symbol_140 (by decide +kernel) (fun hc650124 => ?_) (fun hc650124 => ?_)
      · have r650125 : o650123.toInt < 0 := gj_lt hc650124 (show Int32.toInt 0 = 0 by decide)
        have bo650123' : gB o650123 (-1) (-1) := ⟨by omega, by omega⟩
        refine G_bipush 6 dr_cX14_symbol_147 (by decide +kernel) ?_
        refine Gp_put 3 hmq650062 heq650062 dr_cX14_symbol_149 (gk_X14 D I) (Nat.le_of_ble_eq_true rfl) wr_9_35 rfl rfl rfl (Nat.le_of_ble_eq_true rfl) (fun F650126 e650127 n650128 => ?_)
        have he650129 : F650126 q650063 = .inl (I .byte, 8192, .inl f650078) := (n650128 q650063 (rn_ao heq650063 heq650062)).trans heq650063
        have he650130 : F650126 q650062 = .inr (19, [.ref q650063, .int p650065, .int p650066, .int 6, .int p650068, .int p650069, .int p650070, .ref qo650071, .int p650072, .int p650073, .int p650074, .ref qo650075, .ref qo650076, .int p650077]) := e650127
        have hfr650131 : rFr [q650062] P650060 F650061 F650126 := rFr_put (rFr_rf (W := []) (P := P650060) (F := F650061)) n650128
        clear hz650117 ez650117 bz650117 bo650123 bo650123'; try clear r650121; try clear w650122; try clear dc650118; try clear ds650119; try clear hp650120; try clear r650125
        refine G_aload_n 2 dr_cX14_symbol_152 rfl ?_
        refine G_iload_n 0 dr_cX14_symbol_153 rfl ?_
        refine G_if_eq 161 dr_cX14_symbol_154 (by decide +kernel) (fun _ => ?_) (fun hc => absurd hc (by decide))
        refine G_iload_n 3 dr_cX14_symbol_161 rfl ?_
        refine G_bipush 32 dr_cX14_symbol_162 (by decide +kernel) ?_
        refine G_icmp_le 190 dr_cX14_symbol_164 (by decide +kernel) (fun hc => absurd (show False by have := gj_le hc (show Int32.toInt 32 = 32 by decide); omega) not_false) (fun _ => ?_)
        refine G_new [.null, .int 0, .int 0, .int 0] dr_cX14_symbol_167 (gk_J4 D I) wr_7_231 wr_7_44 wr_1_20 (gfs_J4) (Nat.le_trans (show 0 + 1 ≤ 16 by decide) hMC) (Nat.le_trans (show 0 + 4 ≤ 160 by decide) hMS) (fun q650132 => Gp_in (fun P650133 F650134 hq650135 hP650136 e650137 n650138 => ?_))
        refine G_widen (cs' := 1) (sl' := 4) (by omega) (by omega) ?_
        have he650139 : F650134 q650062 = .inr (19, [.ref q650063, .int p650065, .int p650066, .int 6, .int p650068, .int p650069, .int p650070, .ref qo650071, .int p650072, .int p650073, .int p650074, .ref qo650075, .ref qo650076, .int p650077]) := (n650138 q650062 (fun h => hq650135 (h ▸ hmq650062))).trans he650130
        have he650140 : F650134 q650063 = .inl (I .byte, 8192, .inl f650078) := (n650138 q650063 (fun h => hq650135 (h ▸ hmq650063))).trans he650129
        have he650141 : F650134 q650132 = .inr (1, [.null, .int 0, .int 0, .int 0]) := e650137
        have hm650142 : q650062 ∈ P650133 := (hP650136 q650062).mpr (Or.inl hmq650062)
        have hm650143 : q650063 ∈ P650133 := (hP650136 q650063).mpr (Or.inl hmq650063)
        have hm650144 : q650132 ∈ P650133 := (hP650136 q650132).mpr (Or.inr rfl)
        have hq650145 : q650132 ∉ P650060 := fun z => hq650135 ((rSub_rf (P := P650060)) q650132 z)
        have hfr650146 : rFr [q650062] P650060 F650061 F650134 := rFr_new (rSub_rf (P := P650060)) hq650135 hfr650131 n650138
        have hsb650147 : rSub P650060 P650133 := rSub_new (rSub_rf (P := P650060)) hP650136
        refine G_dup dr_cX14_symbol_170 rfl ?_
        refine Gw_callI (As := []) (gV_ok D I) (cp_640417_StringBuilder_init l hl0 D I P650133 F650134 q650132 0 0 hm650144 he650141 (gB_w (gBl (show Int32.toInt 0 = 0 by decide)) (by decide) (by decide)) (gB_w (gBl (show Int32.toInt 0 = 0 by decide)) (by decide) (by decide))) dr_cX14_symbol_171 ⟨wr_7_232, wr_1_20, wr_7_47, by decide, rfl, (Nat.le_of_ble_eq_true rfl), (Nat.le_of_ble_eq_true rfl)⟩ wr_7_46 rfl (Nat.le_trans (show 1 + 1 ≤ 16 by decide) hMC) (Nat.le_trans (show 4 + 16 ≤ 160 by decide) hMS) (Nat.le_of_ble_eq_true rfl) (fun r650151 w650152 dc650148 ds650149 hp650150 => ?_)
        obtain ⟨P650154, F650155, q650153, rfl, rfl, hsb650156, hfr650157, he650158, he650159, hm650160, hq650161, hdc, hds⟩ := hp650150
        have hm650162 : q650062 ∈ P650154 := hsb650156 q650062 hm650142
        have hm650163 : q650063 ∈ P650154 := hsb650156 q650063 hm650143
        have hm650164 : q650132 ∈ P650154 := hsb650156 q650132 hm650144
        have hq650165 : q650153 ∉ P650060 := fun z => hq650161 (hsb650147 q650153 z)
        have hsb650166 : rSub P650060 P650154 := rSub_tr hsb650147 hsb650156
        have he650167 : F650155 q650062 = .inr (19, [.ref q650063, .int p650065, .int p650066, .int 6, .int p650068, .int p650069, .int p650070, .ref qo650071, .int p650072, .int p650073, .int p650074, .ref qo650075, .ref qo650076, .int p650077]) := (hfr650157 q650062 hm650142 (nm_c (fun h => hq650145 (h ▸ hmq650062)) nm_n)).trans he650139
        have he650168 : F650155 q650063 = .inl (I .byte, 8192, .inl f650078) := (hfr650157 q650063 hm650143 (nm_c (fun h => hq650145 (h ▸ hmq650063)) nm_n)).trans he650140
        have hfr650169 : rFr [q650062] P650060 F650061 F650155 := rFr_call hsb650147 hfr650146 hfr650157 (fun b hb hn => ⟨(nm_c (fun e => hn (e ▸ List.mem_cons_self)) nm_n), (nm_c (fun e => hq650145 (e ▸ hb)) nm_n)⟩)
        change G _ _ _ _ _ _ _ _ _ _ _
        refine G_widen (cs' := 2) (sl' := 20) (Nat.add_le_add_left hdc 1) (Nat.add_le_add_left hds 4) ?_
        refine G_ldcK (a := D.2 1000 32) dr_cX14_symbol_174 (fun _ _ _ h => gx_vk 32 rfl rfl h) ?_
        have hl32_650169 : (sb_32.length : Int) = 0 := rfl
        refine Gw_callV (As := [.ref (D.2 1000 32)]) (gV_ok D I) (cp_640714_StringBuilder_append l hl0 D I P650154 F650155 q650132 q650153 (D.2 1000 32) (D.2 1001 32) sb_32 0 0 (fun _ => 0) 16 hm650164 hm650160 he650158 he650159 (gx_sc 32 rfl rfl) (by omega) (by decide +kernel) (gB_w (gBl (show Int32.toInt 0 = 0 by decide)) (by decide) (by decide)) (gB_w (gBl (show Int32.toInt 0 = 0 by decide)) (by decide) (by decide)) (gF_w gF_0 (by decide) (by decide)) (by have qa0 : Int32.toInt 0 = 0 := (by decide); have qa1 : Int32.toInt 6 = 6 := (by decide); omega) (by have qa0 : Int32.toInt 0 = 0 := (by decide); have qa1 : Int32.toInt 6 = 6 := (by decide); omega)) dr_cX14_symbol_176 ⟨wr_8_191, wr_1_20, wr_8_139, by decide, rfl, (Nat.le_of_ble_eq_true rfl), (Nat.le_of_ble_eq_true rfl)⟩ wr_8_137 wr_8_138 hm650164 he650158 rfl (Nat.le_trans (show 2 + 0 ≤ 16 by decide) hMC) (Nat.le_trans (show 20 + 0 ≤ 160 by decide) hMS) (Nat.le_of_ble_eq_true rfl) (fun r650174 w650175 dc650171 ds650172 hp650173 => ?_) (fun _ _ _ _ _ z => z.elim)
        obtain ⟨F650181, o650176, f650177, rfl, rfl, hfr650183, he650184, he650185, hdc, hds, bo650176, bf650177, x650178, x650179, x650180⟩ := hp650173
        have he650186 : F650181 q650062 = .inr (19, [.ref q650063, .int p650065, .int p650066, .int 6, .int p650068, .int p650069, .int p650070, .ref qo650071, .int p650072, .int p650073, .int p650074, .ref qo650075, .ref qo650076, .int p650077]) := (hfr650183 q650062 hm650162 (nm_c (fun h => hq650145 (h ▸ hmq650062)) (nm_c (fun h => hq650165 (h ▸ hmq650062)) nm_n))).trans he650167
        have he650187 : F650181 q650063 = .inl (I .byte, 8192, .inl f650078) := (hfr650183 q650063 hm650163 (nm_c (fun h => hq650145 (h ▸ hmq650063)) (nm_c (fun h => hq650165 (h ▸ hmq650063)) nm_n))).trans he650168
        have hfr650188 : rFr [q650062] P650060 F650061 F650181 := rFr_call hsb650166 hfr650169 hfr650183 (fun b hb hn => ⟨(nm_c (fun e => hn (e ▸ List.mem_cons_self)) nm_n), (nm_c (fun e => hq650145 (e ▸ hb)) (nm_c (fun e => hq650165 (e ▸ hb)) nm_n))⟩)
        rw [show Int32.toInt 0 = 0 from by decide] at x650178
        have bo650176' : gB o650176 0 0 := ⟨by omega, by omega⟩
        rw [show Int32.toInt 0 = 0 from by decide] at x650179
        rw [show Int32.toInt 0 = 0 from by decide] at x650180
        change G _ _ _ _ _ _ _ (.ref q650132 :: _) _ _ _
        refine G_widen (cs' := 2) (sl' := 20) (Nat.add_le_add_left hdc 2) (Nat.add_le_add_left hds 20) ?_
        refine G_iload_n 3 dr_cX14_symbol_179 rfl ?_
        refine G_i2c dr_cX14_symbol_180 (G_nam fun z650189 hz650189 => ?_)
        have ez650189 : z650189.toInt = p650064.toInt := gI_i2c hz650189 (by omega) (by omega)
        have bz650189 : gB z650189 33 127 := ⟨by omega, by omega⟩
        refine Gw_callV (As := [.int z650189]) (gV_ok D I) (cp_639991_StringBuilder_append l hl0 D I P650154 F650181 q650132 q650153 z650189 0 o650176 f650177 16 hm650164 hm650160 he650184 he650185 (gB_w bz650189 (by decide) (by decide)) (gB_w (gBl (show Int32.toInt 0 = 0 by decide)) (by decide) (by decide)) (gB_w bo650176' (by decide) (by decide)) bf650177 (by have qa0 : Int32.toInt 0 = 0 := (by decide); have qa1 : Int32.toInt 6 = 6 := (by decide); omega) (by have qa0 : Int32.toInt 0 = 0 := (by decide); have qa1 : Int32.toInt 6 = 6 := (by decide); omega)) dr_cX14_symbol_181 ⟨wr_7_233, wr_1_20, wr_7_236, by decide, rfl, (Nat.le_of_ble_eq_true rfl), (Nat.le_of_ble_eq_true rfl)⟩ wr_7_234 wr_7_235 hm650164 he650184 rfl (Nat.le_trans (show 2 + 0 ≤ 16 by decide) hMC) (Nat.le_trans (show 20 + 0 ≤ 160 by decide) hMS) (Nat.le_of_ble_eq_true rfl) (fun r650193 w650194 dc650190 ds650191 hp650192 => ?_) (fun _ _ _ _ _ z => z.elim)
        obtain ⟨F650198, o650195, f650196, rfl, rfl, hfr650200, he650201, he650202, hdc, hds, bo650195, bf650196, x650197⟩ := hp650192
        have he650203 : F650198 q650062 = .inr (19, [.ref q650063, .int p650065, .int p650066, .int 6, .int p650068, .int p650069, .int p650070, .ref qo650071, .int p650072, .int p650073, .int p650074, .ref qo650075, .ref qo650076, .int p650077]) := (hfr650200 q650062 hm650162 (nm_c (fun h => hq650165 (h ▸ hmq650062)) (nm_c (fun h => hq650145 (h ▸ hmq650062)) nm_n))).trans he650186
        have he650204 : F650198 q650063 = .inl (I .byte, 8192, .inl f650078) := (hfr650200 q650063 hm650163 (nm_c (fun h => hq650165 (h ▸ hmq650063)) (nm_c (fun h => hq650145 (h ▸ hmq650063)) nm_n))).trans he650187
        have hfr650205 : rFr [q650062] P650060 F650061 F650198 := rFr_call hsb650166 hfr650188 hfr650200 (fun b hb hn => ⟨(nm_c (fun e => hn (e ▸ List.mem_cons_self)) nm_n), (nm_c (fun e => hq650165 (e ▸ hb)) (nm_c (fun e => hq650145 (e ▸ hb)) nm_n))⟩)
        have bo650195' : gB o650195 1 1 := ⟨by omega, by omega⟩
        change G _ _ _ _ _ _ _ (.ref q650132 :: _) _ _ _
        refine G_widen (cs' := 2) (sl' := 20) (Nat.add_le_add_left hdc 2) (Nat.add_le_add_left hds 20) ?_
        refine Gw_callV (As := []) (gV_ok D I) (cp_641174_StringBuilder_toString l hl0 D I P650154 F650198 q650132 q650153 0 o650195 f650196 16 hm650164 hm650160 he650201 he650202 (gB_w (gBl (show Int32.toInt 0 = 0 by decide)) (by decide) (by decide)) (gB_w bo650195' (by decide) (by decide)) bf650196 (by have qa0 : Int32.toInt 0 = 0 := (by decide); have qa1 : Int32.toInt 6 = 6 := (by decide); omega) (by have qa0 : Int32.toInt 0 = 0 := (by decide); have qa1 : Int32.toInt 6 = 6 := (by decide); omega)) dr_cX14_symbol_184 ⟨wr_8_62, wr_1_20, wr_8_65, by decide, rfl, (Nat.le_of_ble_eq_true rfl), (Nat.le_of_ble_eq_true rfl)⟩ wr_8_63 wr_8_64 hm650164 he650201 rfl (Nat.le_trans (show 2 + 2 ≤ 16 by decide) hMC) (show 20 + (o650195.toInt.toNat + 4) ≤ ((160 * (p650065.toInt - p650066.toInt)).toNat) by first | omega | decide) (Nat.le_of_ble_eq_true rfl) (fun r650209 w650210 dc650206 ds650207 hp650208 => ?_) (fun _ _ _ _ _ z => z.elim)
        obtain ⟨P650217, F650218, q650211, q650212, n650213, f650214, rfl, rfl, hsb650219, hfr650220, he650221, he650222, he650223, he650224, hm650225, hq650226, hm650227, hq650228, hdc, hds, bf650214, x650215, x650216⟩ := hp650208
        have hm650229 : q650062 ∈ P650217 := hsb650219 q650062 hm650162
        have hm650230 : q650063 ∈ P650217 := hsb650219 q650063 hm650163
        have hm650231 : q650132 ∈ P650217 := hsb650219 q650132 hm650164
        have hm650232 : q650153 ∈ P650217 := hsb650219 q650153 hm650160
        have hq650233 : q650211 ∉ P650060 := fun z => hq650226 (hsb650166 q650211 z)
        have hq650234 : q650212 ∉ P650060 := fun z => hq650228 (hsb650166 q650212 z)
        have hsb650235 : rSub P650060 P650217 := rSub_tr hsb650166 hsb650219
        have he650236 : F650218 q650062 = .inr (19, [.ref q650063, .int p650065, .int p650066, .int 6, .int p650068, .int p650069, .int p650070, .ref qo650071, .int p650072, .int p650073, .int p650074, .ref qo650075, .ref qo650076, .int p650077]) := (hfr650220 q650062 hm650162 nm_n).trans he650203
        have he650237 : F650218 q650063 = .inl (I .byte, 8192, .inl f650078) := (hfr650220 q650063 hm650163 nm_n).trans he650204
        have hfr650238 : rFr [q650062] P650060 F650061 F650218 := rFr_call hsb650166 hfr650205 hfr650220 (fun b hb hn => ⟨(nm_c (fun e => hn (e ▸ List.mem_cons_self)) nm_n), nm_n⟩)
        have hne650239 : q650153 ≠ q650212 := fun h => hq650228 (h ▸ hm650160)
        change G _ _ _ _ _ _ _ (.ref q650211 :: _) _ _ _
        refine G_widen (cs' := 4) (sl' := 20 + (o650195.toInt.toNat + 4)) (Nat.add_le_add_left hdc 2) (by omega) ?_
        refine G_goto 192 dr_cX14_symbol_187 (by decide +kernel) ?_
        refine Gp_put 7 hm650229 he650236 dr_cX14_symbol_192 (gk_X14 D I) (Nat.le_of_ble_eq_true rfl) wr_9_39 rfl rfl rfl (Nat.le_of_ble_eq_true rfl) (fun F650240 e650241 n650242 => ?_)
        have he650243 : F650240 q650063 = .inl (I .byte, 8192, .inl f650078) := (n650242 q650063 (rn_ao he650237 he650236)).trans he650237
        have he650244 : F650240 q650211 = .inr (0, [.ref q650212, .int 0, .int 0, .int 0]) := (n650242 q650211 (fun h => hq650233 (h ▸ hmq650062))).trans he650221
        have he650245 : F650240 q650132 = .inr (1, [.ref q650153, .int 0, .int 0, .int o650195]) := (n650242 q650132 (fun h => hq650145 (h ▸ hmq650062))).trans he650222
        have he650246 : F650240 q650153 = .inl (I .byte, 16, .inl f650196) := (n650242 q650153 (fun h => hq650165 (h ▸ hmq650062))).trans he650223
        have he650247 : F650240 q650212 = .inl (I .byte, n650213, .inl f650214) := (n650242 q650212 (fun h => hq650234 (h ▸ hmq650062))).trans he650224
        have he650248 : F650240 q650062 = .inr (19, [.ref q650063, .int p650065, .int p650066, .int 6, .int p650068, .int p650069, .int p650070, .ref q650211, .int p650072, .int p650073, .int p650074, .ref qo650075, .ref qo650076, .int p650077]) := e650241
        have hfr650249 : rFr [q650062] P650060 F650061 F650240 := rFr_put' List.mem_cons_self hfr650238 n650242
        clear he650129 he650130 hfr650131 he650139 he650140 he650141 hm650142 hm650143 hm650144 hq650145 hfr650146 hsb650147 hsb650156 hfr650157 he650158 he650159 hm650160 hq650161 hm650162 hm650163 hm650164 hq650165 hsb650166 he650167 he650168 hfr650169 hfr650183 he650184 he650185 bo650176 bf650177 he650186 he650187 hfr650188 hz650189 ez650189 bz650189 hfr650200 he650201 he650202 bo650195 bf650196 he650203 he650204 hfr650205 hsb650219 hfr650220 he650221 he650222 he650223 he650224 hq650226 hq650228 hm650231 hm650232 he650236 he650237 hfr650238 hne650239 he650245 he650246; try clear r650151; try clear w650152; try clear dc650148; try clear ds650149; try clear hp650150; try clear r650174; try clear w650175; try clear dc650171; try clear ds650172; try clear hp650173; try clear x650179; try clear x650180; try clear r650193; try clear w650194; try clear dc650190; try clear ds650191; try clear hp650192; try clear r650209; try clear w650210; try clear dc650206; try clear ds650207; try clear hp650208; try clear x650216
        refine G_aload_n 2 dr_cX14_symbol_195 rfl ?_
        refine G_dup dr_cX14_symbol_196 rfl ?_
        refine Gp_get 2 hm650229 he650248 dr_cX14_symbol_197 (gk_X14 D I) (Nat.le_of_ble_eq_true rfl) wr_9_34 rfl ?_
        refine G_iload_n 0 dr_cX14_symbol_200 rfl ?_
        refine G_if_eq 208 dr_cX14_symbol_201 (by decide +kernel) (fun _ => ?_) (fun hc => absurd hc (by decide))
        refine G_iconst 1 dr_cX14_symbol_208 (by decide +kernel) ?_
        refine G_iadd dr_cX14_symbol_209 (G_nam fun z650250 hz650250 => ?_)
        have ez650250 : z650250.toInt = p650066.toInt + 1 := by rw [gI_add hz650250 bp650066 (gBl (show Int32.toInt 1 = 1 by decide)) (by decide) (by decide), show Int32.toInt 1 = 1 from by decide]
        have bz650250 : gB z650250 1 8193 := gB_add (gI_add hz650250 bp650066 (gBl (show Int32.toInt 1 = 1 by decide)) (by decide) (by decide)) bp650066 (gBl (show Int32.toInt 1 = 1 by decide)) (by decide) (by decide)
        refine Gp_put 2 hm650229 he650248 dr_cX14_symbol_210 (gk_X14 D I) (Nat.le_of_ble_eq_true rfl) wr_9_34 rfl rfl rfl (Nat.le_of_ble_eq_true rfl) (fun F650251 e650252 n650253 => ?_)
        have he650254 : F650251 q650063 = .inl (I .byte, 8192, .inl f650078) := (n650253 q650063 (rn_ao he650243 he650248)).trans he650243
        have he650255 : F650251 q650211 = .inr (0, [.ref q650212, .int 0, .int 0, .int 0]) := (n650253 q650211 (fun h => hq650233 (h ▸ hmq650062))).trans he650244
        have he650256 : F650251 q650212 = .inl (I .byte, n650213, .inl f650214) := (n650253 q650212 (fun h => hq650234 (h ▸ hmq650062))).trans he650247
        have he650257 : F650251 q650062 = .inr (19, [.ref q650063, .int p650065, .int z650250, .int 6, .int p650068, .int p650069, .int p650070, .ref q650211, .int p650072, .int p650073, .int p650074, .ref qo650075, .ref qo650076, .int p650077]) := e650252
        have hfr650258 : rFr [q650062] P650060 F650061 F650251 := rFr_put' List.mem_cons_self hfr650249 n650253
        exact G_vretA dr_cX14_symbol_213 rfl (show 4 ≤ ((16 * (p650065.toInt - p650066.toInt)).toNat) by omega) (show 20 + (o650195.toInt.toNat + 4) ≤ ((160 * (p650065.toInt - p650066.toInt)).toNat) by omega) ⟨P650217, F650251, z650250, 6, q650211, rfl, rfl, hsb650235, hfr650258, he650257, he650254, (by omega), (by omega), ⟨by omega, by omega⟩, (gB_w (gBl (show Int32.toInt 6 = 6 by decide)) (by decide) (by decide)), (by have qa0 : Int32.toInt 0 = 0 := (by decide); have qa1 : Int32.toInt 6 = 6 := (by decide); omega), (by have qa0 : Int32.toInt 0 = 0 := (by decide); have qa1 : Int32.toInt 6 = 6 := (by decide); omega), (tP_no (by decide) (by decide)), (vP_no (by decide) (by decide))⟩
      · have r650259 : 0 ≤ o650123.toInt := gj_nlt hc650124 (show Int32.toInt 0 = 0 by decide)
        have bo650123' : gB o650123 0 65534 := ⟨by omega, by omega⟩
        refine G_iconst 5 dr_cX14_symbol_143 (by decide +kernel) ?_
        refine G_goto 149 dr_cX14_symbol_144 (by decide +kernel) ?_
        refine Gp_put 3 hmq650062 heq650062 dr_cX14_symbol_149 (gk_X14 D I) (Nat.le_of_ble_eq_true rfl) wr_9_35 rfl rfl rfl (Nat.le_of_ble_eq_true rfl) (fun F650260 e650261 n650262 => ?_)
        have he650263 : F650260 q650063 = .inl (I .byte, 8192, .inl f650078) := (n650262 q650063 (rn_ao heq650063 heq650062)).trans heq650063
        have he650264 : F650260 q650062 = .inr (19, [.ref q650063, .int p650065, .int p650066, .int 5, .int p650068, .int p650069, .int p650070, .ref qo650071, .int p650072, .int p650073, .int p650074, .ref qo650075, .ref qo650076, .int p650077]) := e650261
        have hfr650265 : rFr [q650062] P650060 F650061 F650260 := rFr_put (rFr_rf (W := []) (P := P650060) (F := F650061)) n650262
        clear hz650117 ez650117 bz650117 bo650123 bo650123'; try clear r650121; try clear w650122; try clear dc650118; try clear ds650119; try clear hp650120; try clear r650259
        refine G_aload_n 2 dr_cX14_symbol_152 rfl ?_
        refine G_iload_n 0 dr_cX14_symbol_153 rfl ?_
        refine G_if_eq 161 dr_cX14_symbol_154 (by decide +kernel) (fun _ => ?_) (fun hc => absurd hc (by decide))
        refine G_iload_n 3 dr_cX14_symbol_161 rfl ?_
        refine G_bipush 32 dr_cX14_symbol_162 (by decide +kernel) ?_
        refine G_icmp_le 190 dr_cX14_symbol_164 (by decide +kernel) (fun hc => absurd (show False by have := gj_le hc (show Int32.toInt 32 = 32 by decide); omega) not_false) (fun _ => ?_)
        refine G_new [.null, .int 0, .int 0, .int 0] dr_cX14_symbol_167 (gk_J4 D I) wr_7_231 wr_7_44 wr_1_20 (gfs_J4) (Nat.le_trans (show 0 + 1 ≤ 16 by decide) hMC) (Nat.le_trans (show 0 + 4 ≤ 160 by decide) hMS) (fun q650266 => Gp_in (fun P650267 F650268 hq650269 hP650270 e650271 n650272 => ?_))
        refine G_widen (cs' := 1) (sl' := 4) (by omega) (by omega) ?_
        have he650273 : F650268 q650062 = .inr (19, [.ref q650063, .int p650065, .int p650066, .int 5, .int p650068, .int p650069, .int p650070, .ref qo650071, .int p650072, .int p650073, .int p650074, .ref qo650075, .ref qo650076, .int p650077]) := (n650272 q650062 (fun h => hq650269 (h ▸ hmq650062))).trans he650264
        have he650274 : F650268 q650063 = .inl (I .byte, 8192, .inl f650078) := (n650272 q650063 (fun h => hq650269 (h ▸ hmq650063))).trans he650263
        have he650275 : F650268 q650266 = .inr (1, [.null, .int 0, .int 0, .int 0]) := e650271
        have hm650276 : q650062 ∈ P650267 := (hP650270 q650062).mpr (Or.inl hmq650062)
        have hm650277 : q650063 ∈ P650267 := (hP650270 q650063).mpr (Or.inl hmq650063)
        have hm650278 : q650266 ∈ P650267 := (hP650270 q650266).mpr (Or.inr rfl)
        have hq650279 : q650266 ∉ P650060 := fun z => hq650269 ((rSub_rf (P := P650060)) q650266 z)
        have hfr650280 : rFr [q650062] P650060 F650061 F650268 := rFr_new (rSub_rf (P := P650060)) hq650269 hfr650265 n650272
        have hsb650281 : rSub P650060 P650267 := rSub_new (rSub_rf (P := P650060)) hP650270
        refine G_dup dr_cX14_symbol_170 rfl ?_
        refine Gw_callI (As := []) (gV_ok D I) (cp_640417_StringBuilder_init l hl0 D I P650267 F650268 q650266 0 0 hm650278 he650275 (gB_w (gBl (show Int32.toInt 0 = 0 by decide)) (by decide) (by decide)) (gB_w (gBl (show Int32.toInt 0 = 0 by decide)) (by decide) (by decide))) dr_cX14_symbol_171 ⟨wr_7_232, wr_1_20, wr_7_47, by decide, rfl, (Nat.le_of_ble_eq_true rfl), (Nat.le_of_ble_eq_true rfl)⟩ wr_7_46 rfl (Nat.le_trans (show 1 + 1 ≤ 16 by decide) hMC) (Nat.le_trans (show 4 + 16 ≤ 160 by decide) hMS) (Nat.le_of_ble_eq_true rfl) (fun r650285 w650286 dc650282 ds650283 hp650284 => ?_)
        obtain ⟨P650288, F650289, q650287, rfl, rfl, hsb650290, hfr650291, he650292, he650293, hm650294, hq650295, hdc, hds⟩ := hp650284
        have hm650296 : q650062 ∈ P650288 := hsb650290 q650062 hm650276
        have hm650297 : q650063 ∈ P650288 := hsb650290 q650063 hm650277
        have hm650298 : q650266 ∈ P650288 := hsb650290 q650266 hm650278
        have hq650299 : q650287 ∉ P650060 := fun z => hq650295 (hsb650281 q650287 z)
        have hsb650300 : rSub P650060 P650288 := rSub_tr hsb650281 hsb650290
        have he650301 : F650289 q650062 = .inr (19, [.ref q650063, .int p650065, .int p650066, .int 5, .int p650068, .int p650069, .int p650070, .ref qo650071, .int p650072, .int p650073, .int p650074, .ref qo650075, .ref qo650076, .int p650077]) := (hfr650291 q650062 hm650276 (nm_c (fun h => hq650279 (h ▸ hmq650062)) nm_n)).trans he650273
        have he650302 : F650289 q650063 = .inl (I .byte, 8192, .inl f650078) := (hfr650291 q650063 hm650277 (nm_c (fun h => hq650279 (h ▸ hmq650063)) nm_n)).trans he650274
        have hfr650303 : rFr [q650062] P650060 F650061 F650289 := rFr_call hsb650281 hfr650280 hfr650291 (fun b hb hn => ⟨(nm_c (fun e => hn (e ▸ List.mem_cons_self)) nm_n), (nm_c (fun e => hq650279 (e ▸ hb)) nm_n)⟩)
        change G _ _ _ _ _ _ _ _ _ _ _
        refine G_widen (cs' := 2) (sl' := 20) (Nat.add_le_add_left hdc 1) (Nat.add_le_add_left hds 4) ?_
        refine G_ldcK (a := D.2 1000 32) dr_cX14_symbol_174 (fun _ _ _ h => gx_vk 32 rfl rfl h) ?_
        have hl32_650303 : (sb_32.length : Int) = 0 := rfl
        refine Gw_callV (As := [.ref (D.2 1000 32)]) (gV_ok D I) (cp_640714_StringBuilder_append l hl0 D I P650288 F650289 q650266 q650287 (D.2 1000 32) (D.2 1001 32) sb_32 0 0 (fun _ => 0) 16 hm650298 hm650294 he650292 he650293 (gx_sc 32 rfl rfl) (by omega) (by decide +kernel) (gB_w (gBl (show Int32.toInt 0 = 0 by decide)) (by decide) (by decide)) (gB_w (gBl (show Int32.toInt 0 = 0 by decide)) (by decide) (by decide)) (gF_w gF_0 (by decide) (by decide)) (by have qa0 : Int32.toInt 0 = 0 := (by decide); have qa1 : Int32.toInt 5 = 5 := (by decide); omega) (by have qa0 : Int32.toInt 0 = 0 := (by decide); have qa1 : Int32.toInt 5 = 5 := (by decide); omega)) dr_cX14_symbol_176 ⟨wr_8_191, wr_1_20, wr_8_139, by decide, rfl, (Nat.le_of_ble_eq_true rfl), (Nat.le_of_ble_eq_true rfl)⟩ wr_8_137 wr_8_138 hm650298 he650292 rfl (Nat.le_trans (show 2 + 0 ≤ 16 by decide) hMC) (Nat.le_trans (show 20 + 0 ≤ 160 by decide) hMS) (Nat.le_of_ble_eq_true rfl) (fun r650308 w650309 dc650305 ds650306 hp650307 => ?_) (fun _ _ _ _ _ z => z.elim)
        obtain ⟨F650315, o650310, f650311, rfl, rfl, hfr650317, he650318, he650319, hdc, hds, bo650310, bf650311, x650312, x650313, x650314⟩ := hp650307
        have he650320 : F650315 q650062 = .inr (19, [.ref q650063, .int p650065, .int p650066, .int 5, .int p650068, .int p650069, .int p650070, .ref qo650071, .int p650072, .int p650073, .int p650074, .ref qo650075, .ref qo650076, .int p650077]) := (hfr650317 q650062 hm650296 (nm_c (fun h => hq650279 (h ▸ hmq650062)) (nm_c (fun h => hq650299 (h ▸ hmq650062)) nm_n))).trans he650301
        have he650321 : F650315 q650063 = .inl (I .byte, 8192, .inl f650078) := (hfr650317 q650063 hm650297 (nm_c (fun h => hq650279 (h ▸ hmq650063)) (nm_c (fun h => hq650299 (h ▸ hmq650063)) nm_n))).trans he650302
        have hfr650322 : rFr [q650062] P650060 F650061 F650315 := rFr_call hsb650300 hfr650303 hfr650317 (fun b hb hn => ⟨(nm_c (fun e => hn (e ▸ List.mem_cons_self)) nm_n), (nm_c (fun e => hq650279 (e ▸ hb)) (nm_c (fun e => hq650299 (e ▸ hb)) nm_n))⟩)
        rw [show Int32.toInt 0 = 0 from by decide] at x650312
        have bo650310' : gB o650310 0 0 := ⟨by omega, by omega⟩
        rw [show Int32.toInt 0 = 0 from by decide] at x650313
        rw [show Int32.toInt 0 = 0 from by decide] at x650314
        change G _ _ _ _ _ _ _ (.ref q650266 :: _) _ _ _
        refine G_widen (cs' := 2) (sl' := 20) (Nat.add_le_add_left hdc 2) (Nat.add_le_add_left hds 20) ?_
        refine G_iload_n 3 dr_cX14_symbol_179 rfl ?_
        refine G_i2c dr_cX14_symbol_180 (G_nam fun z650323 hz650323 => ?_)
        have ez650323 : z650323.toInt = p650064.toInt := gI_i2c hz650323 (by omega) (by omega)
        have bz650323 : gB z650323 33 127 := ⟨by omega, by omega⟩
        refine Gw_callV (As := [.int z650323]) (gV_ok D I) (cp_639991_StringBuilder_append l hl0 D I P650288 F650315 q650266 q650287 z650323 0 o650310 f650311 16 hm650298 hm650294 he650318 he650319 (gB_w bz650323 (by decide) (by decide)) (gB_w (gBl (show Int32.toInt 0 = 0 by decide)) (by decide) (by decide)) (gB_w bo650310' (by decide) (by decide)) bf650311 (by have qa0 : Int32.toInt 0 = 0 := (by decide); have qa1 : Int32.toInt 5 = 5 := (by decide); omega) (by have qa0 : Int32.toInt 0 = 0 := (by decide); have qa1 : Int32.toInt 5 = 5 := (by decide); omega)) dr_cX14_symbol_181 ⟨wr_7_233, wr_1_20, wr_7_236, by decide, rfl, (Nat.le_of_ble_eq_true rfl), (Nat.le_of_ble_eq_true rfl)⟩ wr_7_234 wr_7_235 hm650298 he650318 rfl (Nat.le_trans (show 2 + 0 ≤ 16 by decide) hMC) (Nat.le_trans (show 20 + 0 ≤ 160 by decide) hMS) (Nat.le_of_ble_eq_true rfl) (fun r650327 w650328 dc650324 ds650325 hp650326 => ?_) (fun _ _ _ _ _ z => z.elim)
        obtain ⟨F650332, o650329, f650330, rfl, rfl, hfr650334, he650335, he650336, hdc, hds, bo650329, bf650330, x650331⟩ := hp650326
        have he650337 : F650332 q650062 = .inr (19, [.ref q650063, .int p650065, .int p650066, .int 5, .int p650068, .int p650069, .int p650070, .ref qo650071, .int p650072, .int p650073, .int p650074, .ref qo650075, .ref qo650076, .int p650077]) := (hfr650334 q650062 hm650296 (nm_c (fun h => hq650299 (h ▸ hmq650062)) (nm_c (fun h => hq650279 (h ▸ hmq650062)) nm_n))).trans he650320
        have he650338 : F650332 q650063 = .inl (I .byte, 8192, .inl f650078) := (hfr650334 q650063 hm650297 (nm_c (fun h => hq650299 (h ▸ hmq650063)) (nm_c (fun h => hq650279 (h ▸ hmq650063)) nm_n))).trans he650321
        have hfr650339 : rFr [q650062] P650060 F650061 F650332 := rFr_call hsb650300 hfr650322 hfr650334 (fun b hb hn => ⟨(nm_c (fun e => hn (e ▸ List.mem_cons_self)) nm_n), (nm_c (fun e => hq650299 (e ▸ hb)) (nm_c (fun e => hq650279 (e ▸ hb)) nm_n))⟩)
        have bo650329' : gB o650329 1 1 := ⟨by omega, by omega⟩
        change G _ _ _ _ _ _ _ (.ref q650266 :: _) _ _ _
        refine G_widen (cs' := 2) (sl' := 20) (Nat.add_le_add_left hdc 2) (Nat.add_le_add_left hds 20) ?_
        refine Gw_callV (As := []) (gV_ok D I) (cp_641174_StringBuilder_toString l hl0 D I P650288 F650332 q650266 q650287 0 o650329 f650330 16 hm650298 hm650294 he650335 he650336 (gB_w (gBl (show Int32.toInt 0 = 0 by decide)) (by decide) (by decide)) (gB_w bo650329' (by decide) (by decide)) bf650330 (by have qa0 : Int32.toInt 0 = 0 := (by decide); have qa1 : Int32.toInt 5 = 5 := (by decide); omega) (by have qa0 : Int32.toInt 0 = 0 := (by decide); have qa1 : Int32.toInt 5 = 5 := (by decide); omega)) dr_cX14_symbol_184 ⟨wr_8_62, wr_1_20, wr_8_65, by decide, rfl, (Nat.le_of_ble_eq_true rfl), (Nat.le_of_ble_eq_true rfl)⟩ wr_8_63 wr_8_64 hm650298 he650335 rfl (Nat.le_trans (show 2 + 2 ≤ 16 by decide) hMC) (show 20 + (o650329.toInt.toNat + 4) ≤ ((160 * (p650065.toInt - p650066.toInt)).toNat) by first | omega | decide) (Nat.le_of_ble_eq_true rfl) (fun r650343 w650344 dc650340 ds650341 hp650342 => ?_) (fun _ _ _ _ _ z => z.elim)
        obtain ⟨P650351, F650352, q650345, q650346, n650347, f650348, rfl, rfl, hsb650353, hfr650354, he650355, he650356, he650357, he650358, hm650359, hq650360, hm650361, hq650362, hdc, hds, bf650348, x650349, x650350⟩ := hp650342
        have hm650363 : q650062 ∈ P650351 := hsb650353 q650062 hm650296
        have hm650364 : q650063 ∈ P650351 := hsb650353 q650063 hm650297
        have hm650365 : q650266 ∈ P650351 := hsb650353 q650266 hm650298
        have hm650366 : q650287 ∈ P650351 := hsb650353 q650287 hm650294
        have hq650367 : q650345 ∉ P650060 := fun z => hq650360 (hsb650300 q650345 z)
        have hq650368 : q650346 ∉ P650060 := fun z => hq650362 (hsb650300 q650346 z)
        have hsb650369 : rSub P650060 P650351 := rSub_tr hsb650300 hsb650353
        have he650370 : F650352 q650062 = .inr (19, [.ref q650063, .int p650065, .int p650066, .int 5, .int p650068, .int p650069, .int p650070, .ref qo650071, .int p650072, .int p650073, .int p650074, .ref qo650075, .ref qo650076, .int p650077]) := (hfr650354 q650062 hm650296 nm_n).trans he650337
        have he650371 : F650352 q650063 = .inl (I .byte, 8192, .inl f650078) := (hfr650354 q650063 hm650297 nm_n).trans he650338
        have hfr650372 : rFr [q650062] P650060 F650061 F650352 := rFr_call hsb650300 hfr650339 hfr650354 (fun b hb hn => ⟨(nm_c (fun e => hn (e ▸ List.mem_cons_self)) nm_n), nm_n⟩)
        have hne650373 : q650287 ≠ q650346 := fun h => hq650362 (h ▸ hm650294)
        change G _ _ _ _ _ _ _ (.ref q650345 :: _) _ _ _
        refine G_widen (cs' := 4) (sl' := 20 + (o650329.toInt.toNat + 4)) (Nat.add_le_add_left hdc 2) (by omega) ?_
        refine G_goto 192 dr_cX14_symbol_187 (by decide +kernel) ?_
        refine Gp_put 7 hm650363 he650370 dr_cX14_symbol_192 (gk_X14 D I) (Nat.le_of_ble_eq_true rfl) wr_9_39 rfl rfl rfl (Nat.le_of_ble_eq_true rfl) (fun F650374 e650375 n650376 => ?_)
        have he650377 : F650374 q650063 = .inl (I .byte, 8192, .inl f650078) := (n650376 q650063 (rn_ao he650371 he650370)).trans he650371
        have he650378 : F650374 q650345 = .inr (0, [.ref q650346, .int 0, .int 0, .int 0]) := (n650376 q650345 (fun h => hq650367 (h ▸ hmq650062))).trans he650355
        have he650379 : F650374 q650266 = .inr (1, [.ref q650287, .int 0, .int 0, .int o650329]) := (n650376 q650266 (fun h => hq650279 (h ▸ hmq650062))).trans he650356
        have he650380 : F650374 q650287 = .inl (I .byte, 16, .inl f650330) := (n650376 q650287 (fun h => hq650299 (h ▸ hmq650062))).trans he650357
        have he650381 : F650374 q650346 = .inl (I .byte, n650347, .inl f650348) := (n650376 q650346 (fun h => hq650368 (h ▸ hmq650062))).trans he650358
        have he650382 : F650374 q650062 = .inr (19, [.ref q650063, .int p650065, .int p650066, .int 5, .int p650068, .int p650069, .int p650070, .ref q650345, .int p650072, .int p650073, .int p650074, .ref qo650075, .ref qo650076, .int p650077]) := e650375
        have hfr650383 : rFr [q650062] P650060 F650061 F650374 := rFr_put' List.mem_cons_self hfr650372 n650376
        clear he650263 he650264 hfr650265 he650273 he650274 he650275 hm650276 hm650277 hm650278 hq650279 hfr650280 hsb650281 hsb650290 hfr650291 he650292 he650293 hm650294 hq650295 hm650296 hm650297 hm650298 hq650299 hsb650300 he650301 he650302 hfr650303 hfr650317 he650318 he650319 bo650310 bf650311 he650320 he650321 hfr650322 hz650323 ez650323 bz650323 hfr650334 he650335 he650336 bo650329 bf650330 he650337 he650338 hfr650339 hsb650353 hfr650354 he650355 he650356 he650357 he650358 hq650360 hq650362 hm650365 hm650366 he650370 he650371 hfr650372 hne650373 he650379 he650380; try clear r650285; try clear w650286; try clear dc650282; try clear ds650283; try clear hp650284; try clear r650308; try clear w650309; try clear dc650305; try clear ds650306; try clear hp650307; try clear x650313; try clear x650314; try clear r650327; try clear w650328; try clear dc650324; try clear ds650325; try clear hp650326; try clear r650343; try clear w650344; try clear dc650340; try clear ds650341; try clear hp650342; try clear x650350
        refine G_aload_n 2 dr_cX14_symbol_195 rfl ?_
        refine G_dup dr_cX14_symbol_196 rfl ?_
        refine Gp_get 2 hm650363 he650382 dr_cX14_symbol_197 (gk_X14 D I) (Nat.le_of_ble_eq_true rfl) wr_9_34 rfl ?_
        refine G_iload_n 0 dr_cX14_symbol_200 rfl ?_
        refine G_if_eq 208 dr_cX14_symbol_201 (by decide +kernel) (fun _ => ?_) (fun hc => absurd hc (by decide))
        refine G_iconst 1 dr_cX14_symbol_208 (by decide +kernel) ?_
        refine G_iadd dr_cX14_symbol_209 (G_nam fun z650384 hz650384 => ?_)
        have ez650384 : z650384.toInt = p650066.toInt + 1 := by rw [gI_add hz650384 bp650066 (gBl (show Int32.toInt 1 = 1 by decide)) (by decide) (by decide), show Int32.toInt 1 = 1 from by decide]
        have bz650384 : gB z650384 1 8193 := gB_add (gI_add hz650384 bp650066 (gBl (show Int32.toInt 1 = 1 by decide)) (by decide) (by decide)) bp650066 (gBl (show Int32.toInt 1 = 1 by decide)) (by decide) (by decide)
        refine Gp_put 2 hm650363 he650382 dr_cX14_symbol_210 (gk_X14 D I) (Nat.le_of_ble_eq_true rfl) wr_9_34 rfl rfl rfl (Nat.le_of_ble_eq_true rfl) (fun F650385 e650386 n650387 => ?_)
        have he650388 : F650385 q650063 = .inl (I .byte, 8192, .inl f650078) := (n650387 q650063 (rn_ao he650377 he650382)).trans he650377
        have he650389 : F650385 q650345 = .inr (0, [.ref q650346, .int 0, .int 0, .int 0]) := (n650387 q650345 (fun h => hq650367 (h ▸ hmq650062))).trans he650378
        have he650390 : F650385 q650346 = .inl (I .byte, n650347, .inl f650348) := (n650387 q650346 (fun h => hq650368 (h ▸ hmq650062))).trans he650381
        have he650391 : F650385 q650062 = .inr (19, [.ref q650063, .int p650065, .int z650384, .int 5, .int p650068, .int p650069, .int p650070, .ref q650345, .int p650072, .int p650073, .int p650074, .ref qo650075, .ref qo650076, .int p650077]) := e650386
        have hfr650392 : rFr [q650062] P650060 F650061 F650385 := rFr_put' List.mem_cons_self hfr650383 n650387
        exact G_vretA dr_cX14_symbol_213 rfl (show 4 ≤ ((16 * (p650065.toInt - p650066.toInt)).toNat) by omega) (show 20 + (o650329.toInt.toNat + 4) ≤ ((160 * (p650065.toInt - p650066.toInt)).toNat) by omega) ⟨P650351, F650385, z650384, 5, q650345, rfl, rfl, hsb650369, hfr650392, he650391, he650388, (by omega), (by omega), ⟨by omega, by omega⟩, (gB_w (gBl (show Int32.toInt 5 = 5 by decide)) (by decide) (by decide)), (by have qa0 : Int32.toInt 0 = 0 := (by decide); have qa1 : Int32.toInt 5 = 5 := (by decide); omega), (by have qa0 : Int32.toInt 0 = 0 := (by decide); have qa1 : Int32.toInt 5 = 5 := (by decide); omega), (tP_5 hm650359 he650389 hm650361 he650390 bf650348 (by omega) (gB_w (gBl (show Int32.toInt 0 = 0 by decide)) (by decide) (by decide)) (fun e => hq650368 (e ▸ x650081)) (fun e => hq650368 (e ▸ x650082))), (vP_no (by decide) (by decide))⟩
  refine G_aload_n 0 dr_cX14_symbol_0 rfl ?_
  refine Gp_get 2 hmq650062 heq650062 dr_cX14_symbol_1 (gk_X14 D I) (Nat.le_of_ble_eq_true rfl) wr_9_34 rfl ?_
  refine G_iconst 1 dr_cX14_symbol_4 (by decide +kernel) ?_
  refine G_iadd dr_cX14_symbol_5 (G_nam fun z650393 hz650393 => ?_)
  have ez650393 : z650393.toInt = p650066.toInt + 1 := by rw [gI_add hz650393 bp650066 (gBl (show Int32.toInt 1 = 1 by decide)) (by decide) (by decide), show Int32.toInt 1 = 1 from by decide]
  have bz650393 : gB z650393 1 8193 := gB_add (gI_add hz650393 bp650066 (gBl (show Int32.toInt 1 = 1 by decide)) (by decide) (by decide)) bp650066 (gBl (show Int32.toInt 1 = 1 by decide)) (by decide) (by decide)
  refine G_aload_n 0 dr_cX14_symbol_6 rfl ?_
  refine Gp_get 1 hmq650062 heq650062 dr_cX14_symbol_7 (gk_X14 D I) (Nat.le_of_ble_eq_true rfl) wr_9_33 rfl ?_
  refine G_icmp_ge 73 dr_cX14_symbol_10 (by decide +kernel) (fun hc650394 => ?_) (fun hc650394 => ?_)
  · have r650395 : p650065.toInt ≤ z650393.toInt := gC_le hc650394
    refine G_lv (L' := [(0, .ref q650062), (1, .int p650064)]) [0, 1] rfl ?_
    exact jn650084
  · have r650396 : z650393.toInt < p650065.toInt := gC_nle hc650394
    have bz650393' : gB z650393 1 8191 := ⟨by omega, by omega⟩
    have bp650065' : gB p650065 2 8192 := ⟨by omega, by omega⟩
    refine G_aload_n 0 dr_cX14_symbol_13 rfl ?_
    refine Gp_get 0 hmq650062 heq650062 dr_cX14_symbol_14 (gk_X14 D I) (Nat.le_of_ble_eq_true rfl) wr_9_32 rfl ?_
    refine G_aload_n 0 dr_cX14_symbol_17 rfl ?_
    refine Gp_get 2 hmq650062 heq650062 dr_cX14_symbol_18 (gk_X14 D I) (Nat.le_of_ble_eq_true rfl) wr_9_34 rfl ?_
    refine G_iconst 1 dr_cX14_symbol_21 (by decide +kernel) ?_
    refine G_iadd dr_cX14_symbol_22 (G_eqi (y := z650393) hz650393.symm ?_)
    refine Gp_bald 1 hmq650063 heq650063 dr_cX14_symbol_23 rfl (gB_in bz650393' (by decide) (by decide)) (G_nam fun z650397 hz650397 => ?_)
    have bz650397 : gB z650397 (-128) 127 := by rw [hz650397]; exact bf650078 _
    refine G_bipush 32 dr_cX14_symbol_24 (by decide +kernel) ?_
    refine G_icmp_le 73 dr_cX14_symbol_26 (by decide +kernel) (fun hc650398 => ?_) (fun hc650398 => ?_)
    · have r650399 : z650397.toInt ≤ 32 := gj_le hc650398 (show Int32.toInt 32 = 32 by decide)
      have bz650397' : gB z650397 (-128) 32 := ⟨by omega, by omega⟩
      refine G_lv (L' := [(0, .ref q650062), (1, .int p650064)]) [0, 1] rfl ?_
      exact jn650084
    · have r650400 : 32 < z650397.toInt := gj_nle hc650398 (show Int32.toInt 32 = 32 by decide)
      have bz650397' : gB z650397 33 127 := ⟨by omega, by omega⟩
      refine G_iload_n 1 dr_cX14_symbol_29 rfl ?_
      refine G_bipush 32 dr_cX14_symbol_30 (by decide +kernel) ?_
      refine G_icmp_le 73 dr_cX14_symbol_32 (by decide +kernel) (fun hc650401 => ?_) (fun hc650401 => ?_)
      · have r650402 : p650064.toInt ≤ 32 := gj_le hc650401 (show Int32.toInt 32 = 32 by decide)
        have bp650064' : gB p650064 (-128) 32 := ⟨by omega, by omega⟩
        refine G_lv (L' := [(0, .ref q650062), (1, .int p650064)]) [0, 1] rfl ?_
        exact jn650084
      · have r650403 : 32 < p650064.toInt := gj_nle hc650401 (show Int32.toInt 32 = 32 by decide)
        have bp650064' : gB p650064 33 127 := ⟨by omega, by omega⟩
        refine G_new [.null, .int 0, .int 0, .int 0] dr_cX14_symbol_35 (gk_J4 D I) wr_7_231 wr_7_44 wr_1_20 (gfs_J4) (Nat.le_trans (show 0 + 1 ≤ 16 by decide) hMC) (Nat.le_trans (show 0 + 4 ≤ 160 by decide) hMS) (fun q650404 => Gp_in (fun P650405 F650406 hq650407 hP650408 e650409 n650410 => ?_))
        refine G_widen (cs' := 1) (sl' := 4) (by omega) (by omega) ?_
        have he650411 : F650406 q650062 = .inr (19, [.ref q650063, .int p650065, .int p650066, .int p650067, .int p650068, .int p650069, .int p650070, .ref qo650071, .int p650072, .int p650073, .int p650074, .ref qo650075, .ref qo650076, .int p650077]) := (n650410 q650062 (fun h => hq650407 (h ▸ hmq650062))).trans heq650062
        have he650412 : F650406 q650063 = .inl (I .byte, 8192, .inl f650078) := (n650410 q650063 (fun h => hq650407 (h ▸ hmq650063))).trans heq650063
        have he650413 : F650406 q650404 = .inr (1, [.null, .int 0, .int 0, .int 0]) := e650409
        have hm650414 : q650062 ∈ P650405 := (hP650408 q650062).mpr (Or.inl hmq650062)
        have hm650415 : q650063 ∈ P650405 := (hP650408 q650063).mpr (Or.inl hmq650063)
        have hm650416 : q650404 ∈ P650405 := (hP650408 q650404).mpr (Or.inr rfl)
        have hq650417 : q650404 ∉ P650060 := fun z => hq650407 ((rSub_rf (P := P650060)) q650404 z)
        have hfr650418 : rFr [] P650060 F650061 F650406 := rFr_new (rSub_rf (P := P650060)) hq650407 (rFr_rf (W := []) (P := P650060) (F := F650061)) n650410
        have hsb650419 : rSub P650060 P650405 := rSub_new (rSub_rf (P := P650060)) hP650408
        refine G_dup dr_cX14_symbol_38 rfl ?_
        refine Gw_callI (As := []) (gV_ok D I) (cp_640417_StringBuilder_init l hl0 D I P650405 F650406 q650404 0 0 hm650416 he650413 (gB_w (gBl (show Int32.toInt 0 = 0 by decide)) (by decide) (by decide)) (gB_w (gBl (show Int32.toInt 0 = 0 by decide)) (by decide) (by decide))) dr_cX14_symbol_39 ⟨wr_7_232, wr_1_20, wr_7_47, by decide, rfl, (Nat.le_of_ble_eq_true rfl), (Nat.le_of_ble_eq_true rfl)⟩ wr_7_46 rfl (Nat.le_trans (show 1 + 1 ≤ 16 by decide) hMC) (Nat.le_trans (show 4 + 16 ≤ 160 by decide) hMS) (Nat.le_of_ble_eq_true rfl) (fun r650423 w650424 dc650420 ds650421 hp650422 => ?_)
        obtain ⟨P650426, F650427, q650425, rfl, rfl, hsb650428, hfr650429, he650430, he650431, hm650432, hq650433, hdc, hds⟩ := hp650422
        have hm650434 : q650062 ∈ P650426 := hsb650428 q650062 hm650414
        have hm650435 : q650063 ∈ P650426 := hsb650428 q650063 hm650415
        have hm650436 : q650404 ∈ P650426 := hsb650428 q650404 hm650416
        have hq650437 : q650425 ∉ P650060 := fun z => hq650433 (hsb650419 q650425 z)
        have hsb650438 : rSub P650060 P650426 := rSub_tr hsb650419 hsb650428
        have he650439 : F650427 q650062 = .inr (19, [.ref q650063, .int p650065, .int p650066, .int p650067, .int p650068, .int p650069, .int p650070, .ref qo650071, .int p650072, .int p650073, .int p650074, .ref qo650075, .ref qo650076, .int p650077]) := (hfr650429 q650062 hm650414 (nm_c (fun h => hq650417 (h ▸ hmq650062)) nm_n)).trans he650411
        have he650440 : F650427 q650063 = .inl (I .byte, 8192, .inl f650078) := (hfr650429 q650063 hm650415 (nm_c (fun h => hq650417 (h ▸ hmq650063)) nm_n)).trans he650412
        have hfr650441 : rFr [] P650060 F650061 F650427 := rFr_call hsb650419 hfr650418 hfr650429 (fun b hb hn => ⟨nm_n, (nm_c (fun e => hq650417 (e ▸ hb)) nm_n)⟩)
        change G _ _ _ _ _ _ _ _ _ _ _
        refine G_widen (cs' := 2) (sl' := 20) (Nat.add_le_add_left hdc 1) (Nat.add_le_add_left hds 4) ?_
        refine G_ldcK (a := D.2 1000 32) dr_cX14_symbol_42 (fun _ _ _ h => gx_vk 32 rfl rfl h) ?_
        have hl32_650441 : (sb_32.length : Int) = 0 := rfl
        refine Gw_callV (As := [.ref (D.2 1000 32)]) (gV_ok D I) (cp_640714_StringBuilder_append l hl0 D I P650426 F650427 q650404 q650425 (D.2 1000 32) (D.2 1001 32) sb_32 0 0 (fun _ => 0) 16 hm650436 hm650432 he650430 he650431 (gx_sc 32 rfl rfl) (by omega) (by decide +kernel) (gB_w (gBl (show Int32.toInt 0 = 0 by decide)) (by decide) (by decide)) (gB_w (gBl (show Int32.toInt 0 = 0 by decide)) (by decide) (by decide)) (gF_w gF_0 (by decide) (by decide)) (by have qa0 : Int32.toInt 0 = 0 := (by decide); omega) (by have qa0 : Int32.toInt 0 = 0 := (by decide); omega)) dr_cX14_symbol_44 ⟨wr_8_191, wr_1_20, wr_8_139, by decide, rfl, (Nat.le_of_ble_eq_true rfl), (Nat.le_of_ble_eq_true rfl)⟩ wr_8_137 wr_8_138 hm650436 he650430 rfl (Nat.le_trans (show 2 + 0 ≤ 16 by decide) hMC) (Nat.le_trans (show 20 + 0 ≤ 160 by decide) hMS) (Nat.le_of_ble_eq_true rfl) (fun r650446 w650447 dc650443 ds650444 hp650445 => ?_) (fun _ _ _ _ _ z => z.elim)
        obtain ⟨F650453, o650448, f650449, rfl, rfl, hfr650455, he650456, he650457, hdc, hds, bo650448, bf650449, x650450, x650451, x650452⟩ := hp650445
        have he650458 : F650453 q650062 = .inr (19, [.ref q650063, .int p650065, .int p650066, .int p650067, .int p650068, .int p650069, .int p650070, .ref qo650071, .int p650072, .int p650073, .int p650074, .ref qo650075, .ref qo650076, .int p650077]) := (hfr650455 q650062 hm650434 (nm_c (fun h => hq650417 (h ▸ hmq650062)) (nm_c (fun h => hq650437 (h ▸ hmq650062)) nm_n))).trans he650439
        have he650459 : F650453 q650063 = .inl (I .byte, 8192, .inl f650078) := (hfr650455 q650063 hm650435 (nm_c (fun h => hq650417 (h ▸ hmq650063)) (nm_c (fun h => hq650437 (h ▸ hmq650063)) nm_n))).trans he650440
        have hfr650460 : rFr [] P650060 F650061 F650453 := rFr_call hsb650438 hfr650441 hfr650455 (fun b hb hn => ⟨nm_n, (nm_c (fun e => hq650417 (e ▸ hb)) (nm_c (fun e => hq650437 (e ▸ hb)) nm_n))⟩)
        rw [show Int32.toInt 0 = 0 from by decide] at x650450
        have bo650448' : gB o650448 0 0 := ⟨by omega, by omega⟩
        rw [show Int32.toInt 0 = 0 from by decide] at x650451
        rw [show Int32.toInt 0 = 0 from by decide] at x650452
        change G _ _ _ _ _ _ _ (.ref q650404 :: _) _ _ _
        refine G_widen (cs' := 2) (sl' := 20) (Nat.add_le_add_left hdc 2) (Nat.add_le_add_left hds 20) ?_
        refine G_iload_n 1 dr_cX14_symbol_47 rfl ?_
        refine G_i2c dr_cX14_symbol_48 (G_nam fun z650461 hz650461 => ?_)
        have ez650461 : z650461.toInt = p650064.toInt := gI_i2c hz650461 (by omega) (by omega)
        have bz650461 : gB z650461 33 127 := ⟨by omega, by omega⟩
        refine Gw_callV (As := [.int z650461]) (gV_ok D I) (cp_639991_StringBuilder_append l hl0 D I P650426 F650453 q650404 q650425 z650461 0 o650448 f650449 16 hm650436 hm650432 he650456 he650457 (gB_w bz650461 (by decide) (by decide)) (gB_w (gBl (show Int32.toInt 0 = 0 by decide)) (by decide) (by decide)) (gB_w bo650448' (by decide) (by decide)) bf650449 (by have qa0 : Int32.toInt 0 = 0 := (by decide); omega) (by have qa0 : Int32.toInt 0 = 0 := (by decide); omega)) dr_cX14_symbol_49 ⟨wr_7_233, wr_1_20, wr_7_236, by decide, rfl, (Nat.le_of_ble_eq_true rfl), (Nat.le_of_ble_eq_true rfl)⟩ wr_7_234 wr_7_235 hm650436 he650456 rfl (Nat.le_trans (show 2 + 0 ≤ 16 by decide) hMC) (Nat.le_trans (show 20 + 0 ≤ 160 by decide) hMS) (Nat.le_of_ble_eq_true rfl) (fun r650465 w650466 dc650462 ds650463 hp650464 => ?_) (fun _ _ _ _ _ z => z.elim)
        obtain ⟨F650470, o650467, f650468, rfl, rfl, hfr650472, he650473, he650474, hdc, hds, bo650467, bf650468, x650469⟩ := hp650464
        have he650475 : F650470 q650062 = .inr (19, [.ref q650063, .int p650065, .int p650066, .int p650067, .int p650068, .int p650069, .int p650070, .ref qo650071, .int p650072, .int p650073, .int p650074, .ref qo650075, .ref qo650076, .int p650077]) := (hfr650472 q650062 hm650434 (nm_c (fun h => hq650437 (h ▸ hmq650062)) (nm_c (fun h => hq650417 (h ▸ hmq650062)) nm_n))).trans he650458
        have he650476 : F650470 q650063 = .inl (I .byte, 8192, .inl f650078) := (hfr650472 q650063 hm650435 (nm_c (fun h => hq650437 (h ▸ hmq650063)) (nm_c (fun h => hq650417 (h ▸ hmq650063)) nm_n))).trans he650459
        have hfr650477 : rFr [] P650060 F650061 F650470 := rFr_call hsb650438 hfr650460 hfr650472 (fun b hb hn => ⟨nm_n, (nm_c (fun e => hq650437 (e ▸ hb)) (nm_c (fun e => hq650417 (e ▸ hb)) nm_n))⟩)
        have bo650467' : gB o650467 1 1 := ⟨by omega, by omega⟩
        change G _ _ _ _ _ _ _ (.ref q650404 :: _) _ _ _
        refine G_widen (cs' := 2) (sl' := 20) (Nat.add_le_add_left hdc 2) (Nat.add_le_add_left hds 20) ?_
        refine G_aload_n 0 dr_cX14_symbol_52 rfl ?_
        refine Gp_get 0 hm650434 he650475 dr_cX14_symbol_53 (gk_X14 D I) (Nat.le_of_ble_eq_true rfl) wr_9_32 rfl ?_
        refine G_aload_n 0 dr_cX14_symbol_56 rfl ?_
        refine Gp_get 2 hm650434 he650475 dr_cX14_symbol_57 (gk_X14 D I) (Nat.le_of_ble_eq_true rfl) wr_9_34 rfl ?_
        refine G_iconst 1 dr_cX14_symbol_60 (by decide +kernel) ?_
        refine G_iadd dr_cX14_symbol_61 (G_eqi (y := z650393) hz650393.symm ?_)
        refine Gp_bald 1 hm650435 he650476 dr_cX14_symbol_62 rfl (gB_in bz650393' (by decide) (by decide)) (G_eqi (y := z650397) hz650397.symm ?_)
        refine G_i2c dr_cX14_symbol_63 (G_nam fun z650478 hz650478 => ?_)
        have ez650478 : z650478.toInt = z650397.toInt := gI_i2c hz650478 (by omega) (by omega)
        have bz650478 : gB z650478 33 127 := ⟨by omega, by omega⟩
        refine Gw_callV (As := [.int z650478]) (gV_ok D I) (cp_639991_StringBuilder_append l hl0 D I P650426 F650470 q650404 q650425 z650478 0 o650467 f650468 16 hm650436 hm650432 he650473 he650474 (gB_w bz650478 (by decide) (by decide)) (gB_w (gBl (show Int32.toInt 0 = 0 by decide)) (by decide) (by decide)) (gB_w bo650467' (by decide) (by decide)) bf650468 (by have qa0 : Int32.toInt 0 = 0 := (by decide); omega) (by have qa0 : Int32.toInt 0 = 0 := (by decide); omega)) dr_cX14_symbol_64 ⟨wr_7_233, wr_1_20, wr_7_236, by decide, rfl, (Nat.le_of_ble_eq_true rfl), (Nat.le_of_ble_eq_true rfl)⟩ wr_7_234 wr_7_235 hm650436 he650473 rfl (Nat.le_trans (show 2 + 0 ≤ 16 by decide) hMC) (Nat.le_trans (show 20 + 0 ≤ 160 by decide) hMS) (Nat.le_of_ble_eq_true rfl) (fun r650482 w650483 dc650479 ds650480 hp650481 => ?_) (fun _ _ _ _ _ z => z.elim)
        obtain ⟨F650487, o650484, f650485, rfl, rfl, hfr650489, he650490, he650491, hdc, hds, bo650484, bf650485, x650486⟩ := hp650481
        have he650492 : F650487 q650062 = .inr (19, [.ref q650063, .int p650065, .int p650066, .int p650067, .int p650068, .int p650069, .int p650070, .ref qo650071, .int p650072, .int p650073, .int p650074, .ref qo650075, .ref qo650076, .int p650077]) := (hfr650489 q650062 hm650434 (nm_c (fun h => hq650437 (h ▸ hmq650062)) (nm_c (fun h => hq650417 (h ▸ hmq650062)) nm_n))).trans he650475
        have he650493 : F650487 q650063 = .inl (I .byte, 8192, .inl f650078) := (hfr650489 q650063 hm650435 (nm_c (fun h => hq650437 (h ▸ hmq650063)) (nm_c (fun h => hq650417 (h ▸ hmq650063)) nm_n))).trans he650476
        have hfr650494 : rFr [] P650060 F650061 F650487 := rFr_call hsb650438 hfr650477 hfr650489 (fun b hb hn => ⟨nm_n, (nm_c (fun e => hq650437 (e ▸ hb)) (nm_c (fun e => hq650417 (e ▸ hb)) nm_n))⟩)
        have bo650484' : gB o650484 2 2 := ⟨by omega, by omega⟩
        change G _ _ _ _ _ _ _ (.ref q650404 :: _) _ _ _
        refine G_widen (cs' := 2) (sl' := 20) (Nat.add_le_add_left hdc 2) (Nat.add_le_add_left hds 20) ?_
        refine Gw_callV (As := []) (gV_ok D I) (cp_641174_StringBuilder_toString l hl0 D I P650426 F650487 q650404 q650425 0 o650484 f650485 16 hm650436 hm650432 he650490 he650491 (gB_w (gBl (show Int32.toInt 0 = 0 by decide)) (by decide) (by decide)) (gB_w bo650484' (by decide) (by decide)) bf650485 (by have qa0 : Int32.toInt 0 = 0 := (by decide); omega) (by have qa0 : Int32.toInt 0 = 0 := (by decide); omega)) dr_cX14_symbol_67 ⟨wr_8_62, wr_1_20, wr_8_65, by decide, rfl, (Nat.le_of_ble_eq_true rfl), (Nat.le_of_ble_eq_true rfl)⟩ wr_8_63 wr_8_64 hm650436 he650490 rfl (Nat.le_trans (show 2 + 2 ≤ 16 by decide) hMC) (show 20 + (o650484.toInt.toNat + 4) ≤ ((160 * (p650065.toInt - p650066.toInt)).toNat) by first | omega | decide) (Nat.le_of_ble_eq_true rfl) (fun r650498 w650499 dc650495 ds650496 hp650497 => ?_) (fun _ _ _ _ _ z => z.elim)
        obtain ⟨P650506, F650507, q650500, q650501, n650502, f650503, rfl, rfl, hsb650508, hfr650509, he650510, he650511, he650512, he650513, hm650514, hq650515, hm650516, hq650517, hdc, hds, bf650503, x650504, x650505⟩ := hp650497
        have hm650518 : q650062 ∈ P650506 := hsb650508 q650062 hm650434
        have hm650519 : q650063 ∈ P650506 := hsb650508 q650063 hm650435
        have hm650520 : q650404 ∈ P650506 := hsb650508 q650404 hm650436
        have hm650521 : q650425 ∈ P650506 := hsb650508 q650425 hm650432
        have hq650522 : q650500 ∉ P650060 := fun z => hq650515 (hsb650438 q650500 z)
        have hq650523 : q650501 ∉ P650060 := fun z => hq650517 (hsb650438 q650501 z)
        have hsb650524 : rSub P650060 P650506 := rSub_tr hsb650438 hsb650508
        have he650525 : F650507 q650062 = .inr (19, [.ref q650063, .int p650065, .int p650066, .int p650067, .int p650068, .int p650069, .int p650070, .ref qo650071, .int p650072, .int p650073, .int p650074, .ref qo650075, .ref qo650076, .int p650077]) := (hfr650509 q650062 hm650434 nm_n).trans he650492
        have he650526 : F650507 q650063 = .inl (I .byte, 8192, .inl f650078) := (hfr650509 q650063 hm650435 nm_n).trans he650493
        have hfr650527 : rFr [] P650060 F650061 F650507 := rFr_call hsb650438 hfr650494 hfr650509 (fun b hb hn => ⟨nm_n, nm_n⟩)
        have hne650528 : q650425 ≠ q650501 := fun h => hq650517 (h ▸ hm650432)
        change G _ _ _ _ _ _ _ (.ref q650500 :: _) _ _ _
        refine G_widen (cs' := 4) (sl' := 20 + (o650484.toInt.toNat + 4)) (Nat.add_le_add_left hdc 2) (by omega) ?_
        refine G_goto 75 dr_cX14_symbol_70 (by decide +kernel) ?_
        refine G_astore_n (L' := [(2, .ref q650500), (0, .ref q650062), (1, .int p650064)]) dr_cX14_symbol_75 (Nat.le_of_ble_eq_true rfl) rfl ?_
        clear jn650084 bz650393 bz650397 he650411 he650412 he650413 hm650414 hm650415 hm650416 hq650417 hfr650418 hsb650419 hsb650428 hfr650429 he650430 he650431 hm650432 hq650433 hm650434 hm650435 hm650436 hq650437 hsb650438 he650439 he650440 hfr650441 hfr650455 he650456 he650457 bo650448 bf650449 he650458 he650459 hfr650460 hz650461 ez650461 bz650461 hfr650472 he650473 he650474 bo650467 bf650468 he650475 he650476 hfr650477 hz650478 ez650478 bz650478 hfr650489 he650490 he650491 bo650484 bf650485 he650492 he650493 hfr650494 hsb650508 hfr650509 he650511 he650512 hq650515 hq650517 hm650520 hm650521 hne650528; try clear r650423; try clear w650424; try clear dc650420; try clear ds650421; try clear hp650422; try clear r650446; try clear w650447; try clear dc650443; try clear ds650444; try clear hp650445; try clear x650451; try clear x650452; try clear r650465; try clear w650466; try clear dc650462; try clear ds650463; try clear hp650464; try clear r650482; try clear w650483; try clear dc650479; try clear ds650480; try clear hp650481; try clear r650498; try clear w650499; try clear dc650495; try clear ds650496; try clear hp650497; try clear x650505
        refine G_aload_n 0 dr_cX14_symbol_76 rfl ?_
        refine Gw_callV (As := []) (gV_ok D I) (cp_640519_String_length l hl0 D I P650506 F650507 q650500 q650501 0 0 f650503 n650502 hm650514 hm650516 he650510 he650513 (gB_w (gBl (show Int32.toInt 0 = 0 by decide)) (by decide) (by decide)) bf650503 (by have qa0 : Int32.toInt 0 = 0 := (by decide); omega)) dr_cX14_symbol_77 ⟨wr_8_223, wr_1_21, wr_3_60, by decide, rfl, (Nat.le_of_ble_eq_true rfl), (Nat.le_of_ble_eq_true rfl)⟩ wr_3_58 wr_3_59 hm650514 he650510 rfl (Nat.le_trans (show 4 + 0 ≤ 16 by decide) hMC) (show 20 + (o650484.toInt.toNat + 4) + 0 ≤ ((160 * (p650065.toInt - p650066.toInt)).toNat) by first | omega | decide) (Nat.le_of_ble_eq_true rfl) (fun r650532 w650533 dc650529 ds650530 hp650531 => ?_) (fun _ _ _ _ _ z => z.elim)
        obtain ⟨o650534, rfl, rfl, hdc, hds, bo650534, x650535⟩ := hp650531
        have bo650534' : gB o650534 2 2 := ⟨by omega, by omega⟩
        change G _ _ _ _ _ _ _ (.int o650534 :: _) _ _ _
        refine G_widen (cs' := 4) (sl' := 20 + (o650484.toInt.toNat + 4) + 0) (Nat.add_le_add_left hdc 4) (by omega) ?_
        refine G_iconst 2 dr_cX14_symbol_80 (by decide +kernel) ?_
        refine G_icmp_ne 120 dr_cX14_symbol_81 (by decide +kernel) (fun hc => absurd (show False by have := gj_neq hc (show Int32.toInt 2 = 2 by decide); omega) not_false) (fun _ => ?_)
        clear bo650534; try clear r650532; try clear w650533; try clear dc650529; try clear ds650530; try clear hp650531
        refine G_ldcK (a := D.2 1000 36) dr_cX14_symbol_84 (fun _ _ _ h => gx_vk 36 rfl rfl h) ?_
        have hl36_650535 : (sb_36.length : Int) = 16 := rfl
        refine G_new [.null, .int 0, .int 0, .int 0] dr_cX14_symbol_86 (gk_J4 D I) wr_7_231 wr_7_44 wr_1_20 (gfs_J4) (Nat.le_trans (show 4 + 1 ≤ 16 by decide) hMC) (show 20 + (o650484.toInt.toNat + 4) + 0 + 4 ≤ ((160 * (p650065.toInt - p650066.toInt)).toNat) by first | omega | decide) (fun q650537 => Gp_in (fun P650538 F650539 hq650540 hP650541 e650542 n650543 => ?_))
        refine G_widen (cs' := 5) (sl' := 20 + (o650484.toInt.toNat + 4) + 0 + 4) (by omega) (by omega) ?_
        have he650544 : F650539 q650062 = .inr (19, [.ref q650063, .int p650065, .int p650066, .int p650067, .int p650068, .int p650069, .int p650070, .ref qo650071, .int p650072, .int p650073, .int p650074, .ref qo650075, .ref qo650076, .int p650077]) := (n650543 q650062 (fun h => hq650540 (h ▸ hm650518))).trans he650525
        have he650545 : F650539 q650063 = .inl (I .byte, 8192, .inl f650078) := (n650543 q650063 (fun h => hq650540 (h ▸ hm650519))).trans he650526
        have he650546 : F650539 q650500 = .inr (0, [.ref q650501, .int 0, .int 0, .int 0]) := (n650543 q650500 (fun h => hq650540 (h ▸ hm650514))).trans he650510
        have he650547 : F650539 q650501 = .inl (I .byte, n650502, .inl f650503) := (n650543 q650501 (fun h => hq650540 (h ▸ hm650516))).trans he650513
        have he650548 : F650539 q650537 = .inr (1, [.null, .int 0, .int 0, .int 0]) := e650542
        have hm650549 : q650062 ∈ P650538 := (hP650541 q650062).mpr (Or.inl hm650518)
        have hm650550 : q650063 ∈ P650538 := (hP650541 q650063).mpr (Or.inl hm650519)
        have hm650551 : q650500 ∈ P650538 := (hP650541 q650500).mpr (Or.inl hm650514)
        have hm650552 : q650501 ∈ P650538 := (hP650541 q650501).mpr (Or.inl hm650516)
        have hm650553 : q650537 ∈ P650538 := (hP650541 q650537).mpr (Or.inr rfl)
        have hq650554 : q650537 ∉ P650060 := fun z => hq650540 (hsb650524 q650537 z)
        have hfr650555 : rFr [] P650060 F650061 F650539 := rFr_new hsb650524 hq650540 hfr650527 n650543
        have hsb650556 : rSub P650060 P650538 := rSub_new hsb650524 hP650541
        refine G_dup dr_cX14_symbol_89 rfl ?_
        refine Gw_callI (As := []) (gV_ok D I) (cp_640417_StringBuilder_init l hl0 D I P650538 F650539 q650537 0 0 hm650553 he650548 (gB_w (gBl (show Int32.toInt 0 = 0 by decide)) (by decide) (by decide)) (gB_w (gBl (show Int32.toInt 0 = 0 by decide)) (by decide) (by decide))) dr_cX14_symbol_90 ⟨wr_7_232, wr_1_20, wr_7_47, by decide, rfl, (Nat.le_of_ble_eq_true rfl), (Nat.le_of_ble_eq_true rfl)⟩ wr_7_46 rfl (Nat.le_trans (show 5 + 1 ≤ 16 by decide) hMC) (show 20 + (o650484.toInt.toNat + 4) + 0 + 4 + 16 ≤ ((160 * (p650065.toInt - p650066.toInt)).toNat) by first | omega | decide) (Nat.le_of_ble_eq_true rfl) (fun r650560 w650561 dc650557 ds650558 hp650559 => ?_)
        obtain ⟨P650563, F650564, q650562, rfl, rfl, hsb650565, hfr650566, he650567, he650568, hm650569, hq650570, hdc, hds⟩ := hp650559
        have hm650571 : q650062 ∈ P650563 := hsb650565 q650062 hm650549
        have hm650572 : q650063 ∈ P650563 := hsb650565 q650063 hm650550
        have hm650573 : q650500 ∈ P650563 := hsb650565 q650500 hm650551
        have hm650574 : q650501 ∈ P650563 := hsb650565 q650501 hm650552
        have hm650575 : q650537 ∈ P650563 := hsb650565 q650537 hm650553
        have hq650576 : q650562 ∉ P650060 := fun z => hq650570 (hsb650556 q650562 z)
        have hsb650577 : rSub P650060 P650563 := rSub_tr hsb650556 hsb650565
        have he650578 : F650564 q650062 = .inr (19, [.ref q650063, .int p650065, .int p650066, .int p650067, .int p650068, .int p650069, .int p650070, .ref qo650071, .int p650072, .int p650073, .int p650074, .ref qo650075, .ref qo650076, .int p650077]) := (hfr650566 q650062 hm650549 (nm_c (fun h => hq650554 (h ▸ hmq650062)) nm_n)).trans he650544
        have he650579 : F650564 q650063 = .inl (I .byte, 8192, .inl f650078) := (hfr650566 q650063 hm650550 (nm_c (fun h => hq650554 (h ▸ hmq650063)) nm_n)).trans he650545
        have he650580 : F650564 q650500 = .inr (0, [.ref q650501, .int 0, .int 0, .int 0]) := (hfr650566 q650500 hm650551 (nm_c (rn_oo he650546 he650548 (by decide)) nm_n)).trans he650546
        have he650581 : F650564 q650501 = .inl (I .byte, n650502, .inl f650503) := (hfr650566 q650501 hm650552 (nm_c (rn_ao he650547 he650548) nm_n)).trans he650547
        have hfr650582 : rFr [] P650060 F650061 F650564 := rFr_call hsb650556 hfr650555 hfr650566 (fun b hb hn => ⟨nm_n, (nm_c (fun e => hq650554 (e ▸ hb)) nm_n)⟩)
        have hne650583 : q650501 ≠ q650562 := fun h => hq650570 (h ▸ hm650552)
        change G _ _ _ _ _ _ _ _ _ _ _
        refine G_widen (cs' := 6) (sl' := 20 + (o650484.toInt.toNat + 4) + 0 + 4 + 16) (Nat.add_le_add_left hdc 5) (by omega) ?_
        refine G_ldcK (a := D.2 1000 35) dr_cX14_symbol_93 (fun _ _ _ h => gx_vk 35 rfl rfl h) ?_
        have hl35_650583 : (sb_35.length : Int) = 1 := rfl
        refine Gw_callV (As := [.ref (D.2 1000 35)]) (gV_ok D I) (cp_640714_StringBuilder_append l hl0 D I P650563 F650564 q650537 q650562 (D.2 1000 35) (D.2 1001 35) sb_35 0 0 (fun _ => 0) 16 hm650575 hm650569 he650567 he650568 (gx_sc 35 rfl rfl) (by omega) (by decide +kernel) (gB_w (gBl (show Int32.toInt 0 = 0 by decide)) (by decide) (by decide)) (gB_w (gBl (show Int32.toInt 0 = 0 by decide)) (by decide) (by decide)) (gF_w gF_0 (by decide) (by decide)) (by have qa0 : Int32.toInt 0 = 0 := (by decide); omega) (by have qa0 : Int32.toInt 0 = 0 := (by decide); omega)) dr_cX14_symbol_95 ⟨wr_8_191, wr_1_20, wr_8_139, by decide, rfl, (Nat.le_of_ble_eq_true rfl), (Nat.le_of_ble_eq_true rfl)⟩ wr_8_137 wr_8_138 hm650575 he650567 rfl (Nat.le_trans (show 6 + 0 ≤ 16 by decide) hMC) (show 20 + (o650484.toInt.toNat + 4) + 0 + 4 + 16 + 0 ≤ ((160 * (p650065.toInt - p650066.toInt)).toNat) by first | omega | decide) (Nat.le_of_ble_eq_true rfl) (fun r650588 w650589 dc650585 ds650586 hp650587 => ?_) (fun _ _ _ _ _ z => z.elim)
        obtain ⟨F650595, o650590, f650591, rfl, rfl, hfr650597, he650598, he650599, hdc, hds, bo650590, bf650591, x650592, x650593, x650594⟩ := hp650587
        have he650600 : F650595 q650062 = .inr (19, [.ref q650063, .int p650065, .int p650066, .int p650067, .int p650068, .int p650069, .int p650070, .ref qo650071, .int p650072, .int p650073, .int p650074, .ref qo650075, .ref qo650076, .int p650077]) := (hfr650597 q650062 hm650571 (nm_c (fun h => hq650554 (h ▸ hmq650062)) (nm_c (fun h => hq650576 (h ▸ hmq650062)) nm_n))).trans he650578
        have he650601 : F650595 q650063 = .inl (I .byte, 8192, .inl f650078) := (hfr650597 q650063 hm650572 (nm_c (fun h => hq650554 (h ▸ hmq650063)) (nm_c (fun h => hq650576 (h ▸ hmq650063)) nm_n))).trans he650579
        have he650602 : F650595 q650500 = .inr (0, [.ref q650501, .int 0, .int 0, .int 0]) := (hfr650597 q650500 hm650573 (nm_c (rn_oo he650580 he650567 (by decide)) (nm_c (rn_oa he650580 he650568) nm_n))).trans he650580
        have he650603 : F650595 q650501 = .inl (I .byte, n650502, .inl f650503) := (hfr650597 q650501 hm650574 (nm_c (rn_ao he650581 he650567) (nm_c hne650583 nm_n))).trans he650581
        have hfr650604 : rFr [] P650060 F650061 F650595 := rFr_call hsb650577 hfr650582 hfr650597 (fun b hb hn => ⟨nm_n, (nm_c (fun e => hq650554 (e ▸ hb)) (nm_c (fun e => hq650576 (e ▸ hb)) nm_n))⟩)
        rw [show Int32.toInt 0 = 0 from by decide] at x650592
        have bo650590' : gB o650590 1 1 := ⟨by omega, by omega⟩
        rw [show Int32.toInt 0 = 0 from by decide] at x650593
        rw [show Int32.toInt 0 = 0 from by decide] at x650594
        change G _ _ _ _ _ _ _ (.ref q650537 :: _) _ _ _
        refine G_widen (cs' := 6) (sl' := 20 + (o650484.toInt.toNat + 4) + 0 + 4 + 16 + 0) (Nat.add_le_add_left hdc 6) (by omega) ?_
        refine G_aload_n 0 dr_cX14_symbol_98 rfl ?_
        refine Gw_callV (As := [.ref q650500]) (gV_ok D I) (cp_640491_StringBuilder_append l hl0 D I P650563 F650595 q650537 q650500 q650562 q650501 0 o650590 0 0 f650591 16 f650503 n650502 hm650575 hm650573 hm650569 hm650574 he650598 he650602 he650599 he650603 (Ne.symm hne650583) (gB_w (gBl (show Int32.toInt 0 = 0 by decide)) (by decide) (by decide)) (gB_w bo650590' (by decide) (by decide)) (gB_w (gBl (show Int32.toInt 0 = 0 by decide)) (by decide) (by decide)) bf650591 bf650503 (by have qa0 : Int32.toInt 0 = 0 := (by decide); omega) (by have qa0 : Int32.toInt 0 = 0 := (by decide); omega) (by have qa0 : Int32.toInt 0 = 0 := (by decide); omega)) dr_cX14_symbol_99 ⟨wr_8_191, wr_1_20, wr_8_139, by decide, rfl, (Nat.le_of_ble_eq_true rfl), (Nat.le_of_ble_eq_true rfl)⟩ wr_8_137 wr_8_138 hm650575 he650598 rfl (Nat.le_trans (show 6 + 0 ≤ 16 by decide) hMC) (show 20 + (o650484.toInt.toNat + 4) + 0 + 4 + 16 + 0 + 0 ≤ ((160 * (p650065.toInt - p650066.toInt)).toNat) by first | omega | decide) (Nat.le_of_ble_eq_true rfl) (fun r650608 w650609 dc650605 ds650606 hp650607 => ?_) (fun _ _ _ _ _ z => z.elim)
        obtain ⟨F650615, o650610, f650611, rfl, rfl, hfr650617, he650618, he650619, he650620, he650621, hdc, hds, bo650610, bf650611, x650612, x650613, x650614⟩ := hp650607
        have he650622 : F650615 q650062 = .inr (19, [.ref q650063, .int p650065, .int p650066, .int p650067, .int p650068, .int p650069, .int p650070, .ref qo650071, .int p650072, .int p650073, .int p650074, .ref qo650075, .ref qo650076, .int p650077]) := (hfr650617 q650062 hm650571 (nm_c (fun h => hq650554 (h ▸ hmq650062)) (nm_c (fun h => hq650576 (h ▸ hmq650062)) nm_n))).trans he650600
        have he650623 : F650615 q650063 = .inl (I .byte, 8192, .inl f650078) := (hfr650617 q650063 hm650572 (nm_c (fun h => hq650554 (h ▸ hmq650063)) (nm_c (fun h => hq650576 (h ▸ hmq650063)) nm_n))).trans he650601
        have hfr650624 : rFr [] P650060 F650061 F650615 := rFr_call hsb650577 hfr650604 hfr650617 (fun b hb hn => ⟨nm_n, (nm_c (fun e => hq650554 (e ▸ hb)) (nm_c (fun e => hq650576 (e ▸ hb)) nm_n))⟩)
        have bo650610' : gB o650610 3 3 := ⟨by omega, by omega⟩
        change G _ _ _ _ _ _ _ (.ref q650537 :: _) _ _ _
        refine G_widen (cs' := 6) (sl' := 20 + (o650484.toInt.toNat + 4) + 0 + 4 + 16 + 0 + 0) (Nat.add_le_add_left hdc 6) (by omega) ?_
        refine G_ldcK (a := D.2 1000 35) dr_cX14_symbol_102 (fun _ _ _ h => gx_vk 35 rfl rfl h) ?_
        have hl35_650624 : (sb_35.length : Int) = 1 := rfl
        refine Gw_callV (As := [.ref (D.2 1000 35)]) (gV_ok D I) (cp_640714_StringBuilder_append l hl0 D I P650563 F650615 q650537 q650562 (D.2 1000 35) (D.2 1001 35) sb_35 0 o650610 f650611 16 hm650575 hm650569 he650618 he650620 (gx_sc 35 rfl rfl) (by omega) (by decide +kernel) (gB_w (gBl (show Int32.toInt 0 = 0 by decide)) (by decide) (by decide)) (gB_w bo650610' (by decide) (by decide)) bf650611 (by have qa0 : Int32.toInt 0 = 0 := (by decide); omega) (by have qa0 : Int32.toInt 0 = 0 := (by decide); omega)) dr_cX14_symbol_104 ⟨wr_8_191, wr_1_20, wr_8_139, by decide, rfl, (Nat.le_of_ble_eq_true rfl), (Nat.le_of_ble_eq_true rfl)⟩ wr_8_137 wr_8_138 hm650575 he650618 rfl (Nat.le_trans (show 6 + 0 ≤ 16 by decide) hMC) (show 20 + (o650484.toInt.toNat + 4) + 0 + 4 + 16 + 0 + 0 + 0 ≤ ((160 * (p650065.toInt - p650066.toInt)).toNat) by first | omega | decide) (Nat.le_of_ble_eq_true rfl) (fun r650629 w650630 dc650626 ds650627 hp650628 => ?_) (fun _ _ _ _ _ z => z.elim)
        obtain ⟨F650636, o650631, f650632, rfl, rfl, hfr650638, he650639, he650640, hdc, hds, bo650631, bf650632, x650633, x650634, x650635⟩ := hp650628
        have he650641 : F650636 q650062 = .inr (19, [.ref q650063, .int p650065, .int p650066, .int p650067, .int p650068, .int p650069, .int p650070, .ref qo650071, .int p650072, .int p650073, .int p650074, .ref qo650075, .ref qo650076, .int p650077]) := (hfr650638 q650062 hm650571 (nm_c (fun h => hq650554 (h ▸ hmq650062)) (nm_c (fun h => hq650576 (h ▸ hmq650062)) nm_n))).trans he650622
        have he650642 : F650636 q650063 = .inl (I .byte, 8192, .inl f650078) := (hfr650638 q650063 hm650572 (nm_c (fun h => hq650554 (h ▸ hmq650063)) (nm_c (fun h => hq650576 (h ▸ hmq650063)) nm_n))).trans he650623
        have he650643 : F650636 q650500 = .inr (0, [.ref q650501, .int 0, .int 0, .int 0]) := (hfr650638 q650500 hm650573 (nm_c (rn_oo he650619 he650618 (by decide)) (nm_c (rn_oa he650619 he650620) nm_n))).trans he650619
        have he650644 : F650636 q650501 = .inl (I .byte, n650502, .inl f650503) := (hfr650638 q650501 hm650574 (nm_c (rn_ao he650621 he650618) (nm_c hne650583 nm_n))).trans he650621
        have hfr650645 : rFr [] P650060 F650061 F650636 := rFr_call hsb650577 hfr650624 hfr650638 (fun b hb hn => ⟨nm_n, (nm_c (fun e => hq650554 (e ▸ hb)) (nm_c (fun e => hq650576 (e ▸ hb)) nm_n))⟩)
        have bo650631' : gB o650631 4 4 := ⟨by omega, by omega⟩
        change G _ _ _ _ _ _ _ (.ref q650537 :: _) _ _ _
        refine G_widen (cs' := 6) (sl' := 20 + (o650484.toInt.toNat + 4) + 0 + 4 + 16 + 0 + 0 + 0) (Nat.add_le_add_left hdc 6) (by omega) ?_
        refine Gw_callV (As := []) (gV_ok D I) (cp_641174_StringBuilder_toString l hl0 D I P650563 F650636 q650537 q650562 0 o650631 f650632 16 hm650575 hm650569 he650639 he650640 (gB_w (gBl (show Int32.toInt 0 = 0 by decide)) (by decide) (by decide)) (gB_w bo650631' (by decide) (by decide)) bf650632 (by have qa0 : Int32.toInt 0 = 0 := (by decide); omega) (by have qa0 : Int32.toInt 0 = 0 := (by decide); omega)) dr_cX14_symbol_107 ⟨wr_8_62, wr_1_20, wr_8_65, by decide, rfl, (Nat.le_of_ble_eq_true rfl), (Nat.le_of_ble_eq_true rfl)⟩ wr_8_63 wr_8_64 hm650575 he650639 rfl (Nat.le_trans (show 6 + 2 ≤ 16 by decide) hMC) (show 20 + (o650484.toInt.toNat + 4) + 0 + 4 + 16 + 0 + 0 + 0 + (o650631.toInt.toNat + 4) ≤ ((160 * (p650065.toInt - p650066.toInt)).toNat) by first | omega | decide) (Nat.le_of_ble_eq_true rfl) (fun r650649 w650650 dc650646 ds650647 hp650648 => ?_) (fun _ _ _ _ _ z => z.elim)
        obtain ⟨P650657, F650658, q650651, q650652, n650653, f650654, rfl, rfl, hsb650659, hfr650660, he650661, he650662, he650663, he650664, hm650665, hq650666, hm650667, hq650668, hdc, hds, bf650654, x650655, x650656⟩ := hp650648
        have hm650669 : q650062 ∈ P650657 := hsb650659 q650062 hm650571
        have hm650670 : q650063 ∈ P650657 := hsb650659 q650063 hm650572
        have hm650671 : q650500 ∈ P650657 := hsb650659 q650500 hm650573
        have hm650672 : q650501 ∈ P650657 := hsb650659 q650501 hm650574
        have hm650673 : q650537 ∈ P650657 := hsb650659 q650537 hm650575
        have hm650674 : q650562 ∈ P650657 := hsb650659 q650562 hm650569
        have hq650675 : q650651 ∉ P650060 := fun z => hq650666 (hsb650577 q650651 z)
        have hq650676 : q650652 ∉ P650060 := fun z => hq650668 (hsb650577 q650652 z)
        have hsb650677 : rSub P650060 P650657 := rSub_tr hsb650577 hsb650659
        have he650678 : F650658 q650062 = .inr (19, [.ref q650063, .int p650065, .int p650066, .int p650067, .int p650068, .int p650069, .int p650070, .ref qo650071, .int p650072, .int p650073, .int p650074, .ref qo650075, .ref qo650076, .int p650077]) := (hfr650660 q650062 hm650571 nm_n).trans he650641
        have he650679 : F650658 q650063 = .inl (I .byte, 8192, .inl f650078) := (hfr650660 q650063 hm650572 nm_n).trans he650642
        have he650680 : F650658 q650500 = .inr (0, [.ref q650501, .int 0, .int 0, .int 0]) := (hfr650660 q650500 hm650573 nm_n).trans he650643
        have he650681 : F650658 q650501 = .inl (I .byte, n650502, .inl f650503) := (hfr650660 q650501 hm650574 nm_n).trans he650644
        have hfr650682 : rFr [] P650060 F650061 F650658 := rFr_call hsb650577 hfr650645 hfr650660 (fun b hb hn => ⟨nm_n, nm_n⟩)
        have hne650683 : q650500 ≠ q650651 := fun h => hq650666 (h ▸ hm650573)
        have hne650684 : q650501 ≠ q650652 := fun h => hq650668 (h ▸ hm650574)
        have hne650685 : q650562 ≠ q650652 := fun h => hq650668 (h ▸ hm650569)
        change G _ _ _ _ _ _ _ (.ref q650651 :: _) _ _ _
        refine G_widen (cs' := 8) (sl' := 20 + (o650484.toInt.toNat + 4) + 0 + 4 + 16 + 0 + 0 + 0 + (o650631.toInt.toNat + 4)) (Nat.add_le_add_left hdc 6) (by omega) ?_
        refine Gw_callVk (As := [.ref q650651]) (gV_ok D I) (cp_641623_String_indexOf l hl0 D I P650657 F650658 q650651 q650652 (D.2 1000 36) (D.2 1001 36) sb_36 0 0 f650654 n650653 hm650665 hm650667 he650661 he650664 (gx_sc 36 rfl rfl) (by omega) (by decide +kernel) (gB_w (gBl (show Int32.toInt 0 = 0 by decide)) (by decide) (by decide)) bf650654 (by have qa0 : Int32.toInt 0 = 0 := (by decide); omega) (by have qa0 : Int32.toInt 0 = 0 := (by decide); omega)) dr_cX14_symbol_110 ⟨wr_8_192, wr_1_21, wr_8_195, by decide, rfl, (Nat.le_of_ble_eq_true rfl), (Nat.le_of_ble_eq_true rfl)⟩ wr_8_193 wr_8_194 (fun _ _ _ h => ((gx_sc 36 rfl rfl) _ _ _ h).1) (Nat.le_trans (show 8 + 0 ≤ 16 by decide) hMC) (show 20 + (o650484.toInt.toNat + 4) + 0 + 4 + 16 + 0 + 0 + 0 + (o650631.toInt.toNat + 4) + 0 ≤ ((160 * (p650065.toInt - p650066.toInt)).toNat) by first | omega | decide) (Nat.le_of_ble_eq_true rfl) (fun r650689 w650690 dc650686 ds650687 hp650688 => ?_) (fun _ _ _ _ _ z => z.elim)
        obtain ⟨o650691, rfl, rfl, hdc, hds, bo650691, x650692, x650693⟩ := hp650688
        change G _ _ _ _ _ _ _ (.int o650691 :: _) _ _ _
        refine G_widen (cs' := 8) (sl' := 20 + (o650484.toInt.toNat + 4) + 0 + 4 + 16 + 0 + 0 + 0 + (o650631.toInt.toNat + 4) + 0) (Nat.add_le_add_left hdc 8) (by omega) ?_
        refine G_if_lt 120 dr_cX14_symbol_113 (by decide +kernel) (fun hc650694 => ?_) (fun hc650694 => ?_)
        · have r650695 : o650691.toInt < 0 := gj_lt hc650694 (show Int32.toInt 0 = 0 by decide)
          have bo650691' : gB o650691 (-2147483646) (-1) := ⟨by omega, by omega⟩
          refine G_iconst 0 dr_cX14_symbol_120 (by decide +kernel) ?_
          refine G_istore_n (L' := [(3, .int 0), (2, .ref q650500), (0, .ref q650062), (1, .int p650064)]) dr_cX14_symbol_121 (Nat.le_of_ble_eq_true rfl) rfl ?_
          clear he650510 he650513 hm650514 hm650516 hm650518 hm650519 hsb650524 he650525 he650526 hfr650527 he650544 he650545 he650546 he650547 he650548 hm650549 hm650550 hm650551 hm650552 hm650553 hq650554 hfr650555 hsb650556 hsb650565 hfr650566 he650567 he650568 hm650569 hq650570 hm650571 hm650572 hm650573 hm650574 hm650575 hq650576 hsb650577 he650578 he650579 he650580 he650581 hfr650582 hne650583 hfr650597 he650598 he650599 bo650590 bf650591 he650600 he650601 he650602 he650603 hfr650604 hfr650617 he650618 he650619 he650620 he650621 bo650610 bf650611 he650622 he650623 hfr650624 hfr650638 he650639 he650640 bo650631 bf650632 he650641 he650642 he650643 he650644 hfr650645 hsb650659 hfr650660 he650661 he650662 he650663 he650664 hm650665 hq650666 hm650667 hq650668 bf650654 hm650673 hm650674 hq650675 hq650676 hne650683 hne650684 hne650685 bo650691; try clear r650560; try clear w650561; try clear dc650557; try clear ds650558; try clear hp650559; try clear r650588; try clear w650589; try clear dc650585; try clear ds650586; try clear hp650587; try clear x650593; try clear x650594; try clear r650608; try clear w650609; try clear dc650605; try clear ds650606; try clear hp650607; try clear x650613; try clear x650614; try clear r650629; try clear w650630; try clear dc650626; try clear ds650627; try clear hp650628; try clear x650634; try clear x650635; try clear r650649; try clear w650650; try clear dc650646; try clear ds650647; try clear hp650648; try clear x650656; try clear r650689; try clear w650690; try clear dc650686; try clear ds650687; try clear hp650688; try clear x650693
          refine G_aload_n 2 dr_cX14_symbol_122 rfl ?_
          refine G_iload_n 0 dr_cX14_symbol_123 rfl ?_
          refine G_if_ne 143 dr_cX14_symbol_124 (by decide +kernel) (fun hc => absurd hc (by decide)) (fun _ => ?_)
          refine G_iload_n 3 dr_cX14_symbol_127 rfl ?_
          refine G_bipush 32 dr_cX14_symbol_128 (by decide +kernel) ?_
          refine G_icmp_le 147 dr_cX14_symbol_130 (by decide +kernel) (fun hc => absurd (show False by have := gj_le hc (show Int32.toInt 32 = 32 by decide); omega) not_false) (fun _ => ?_)
          refine G_ldcK (a := D.2 1000 37) dr_cX14_symbol_133 (fun _ _ _ h => gx_vk 37 rfl rfl h) ?_
          have hl37_650695 : (sb_37.length : Int) = 14 := rfl
          refine G_iload_n 3 dr_cX14_symbol_135 rfl ?_
          refine G_i2c dr_cX14_symbol_136 (G_nam fun z650697 hz650697 => ?_)
          have ez650697 : z650697.toInt = p650064.toInt := gI_i2c hz650697 (by omega) (by omega)
          have bz650697 : gB z650697 33 127 := ⟨by omega, by omega⟩
          refine Gw_callVk (As := [.int z650697]) (gV_ok D I) (cp_648681_String_indexOf l hl0 D I P650657 F650658 (D.2 1000 37) (D.2 1001 37) sb_37 z650697 (gx_sc 37 rfl rfl) (by omega) (by decide +kernel) (gB_w bz650697 (by decide) (by decide))) dr_cX14_symbol_137 ⟨wr_8_226, wr_1_21, wr_8_229, by decide, rfl, (Nat.le_of_ble_eq_true rfl), (Nat.le_of_ble_eq_true rfl)⟩ wr_8_227 wr_8_228 (fun _ _ _ h => ((gx_sc 37 rfl rfl) _ _ _ h).1) (Nat.le_trans (show 8 + 0 ≤ 16 by decide) hMC) (show 20 + (o650484.toInt.toNat + 4) + 0 + 4 + 16 + 0 + 0 + 0 + (o650631.toInt.toNat + 4) + 0 + 0 ≤ ((160 * (p650065.toInt - p650066.toInt)).toNat) by first | omega | decide) (Nat.le_of_ble_eq_true rfl) (fun r650701 w650702 dc650698 ds650699 hp650700 => ?_) (fun _ _ _ _ _ z => z.elim)
          obtain ⟨o650703, rfl, rfl, hdc, hds, bo650703⟩ := hp650700
          change G _ _ _ _ _ _ _ (.int o650703 :: _) _ _ _
          refine G_widen (cs' := 8) (sl' := 20 + (o650484.toInt.toNat + 4) + 0 + 4 + 16 + 0 + 0 + 0 + (o650631.toInt.toNat + 4) + 0 + 0) (Nat.add_le_add_left hdc 8) (by omega) ?_
          refine G_if_lt 147 dr_cX14_symbol_140 (by decide +kernel) (fun hc650704 => ?_) (fun hc650704 => ?_)
          · have r650705 : o650703.toInt < 0 := gj_lt hc650704 (show Int32.toInt 0 = 0 by decide)
            have bo650703' : gB o650703 (-1) (-1) := ⟨by omega, by omega⟩
            refine G_bipush 6 dr_cX14_symbol_147 (by decide +kernel) ?_
            refine Gp_put 3 hm650669 he650678 dr_cX14_symbol_149 (gk_X14 D I) (Nat.le_of_ble_eq_true rfl) wr_9_35 rfl rfl rfl (Nat.le_of_ble_eq_true rfl) (fun F650706 e650707 n650708 => ?_)
            have he650709 : F650706 q650063 = .inl (I .byte, 8192, .inl f650078) := (n650708 q650063 (rn_ao he650679 he650678)).trans he650679
            have he650710 : F650706 q650500 = .inr (0, [.ref q650501, .int 0, .int 0, .int 0]) := (n650708 q650500 (fun h => hq650522 (h ▸ hmq650062))).trans he650680
            have he650711 : F650706 q650501 = .inl (I .byte, n650502, .inl f650503) := (n650708 q650501 (fun h => hq650523 (h ▸ hmq650062))).trans he650681
            have he650712 : F650706 q650062 = .inr (19, [.ref q650063, .int p650065, .int p650066, .int 6, .int p650068, .int p650069, .int p650070, .ref qo650071, .int p650072, .int p650073, .int p650074, .ref qo650075, .ref qo650076, .int p650077]) := e650707
            have hfr650713 : rFr [q650062] P650060 F650061 F650706 := rFr_put hfr650682 n650708
            clear he650678 he650679 he650680 he650681 hfr650682 hz650697 ez650697 bz650697 bo650703 bo650703'; try clear r650701; try clear w650702; try clear dc650698; try clear ds650699; try clear hp650700; try clear r650705
            refine G_aload_n 2 dr_cX14_symbol_152 rfl ?_
            refine G_iload_n 0 dr_cX14_symbol_153 rfl ?_
            refine G_if_eq 161 dr_cX14_symbol_154 (by decide +kernel) (fun _ => ?_) (fun hc => absurd hc (by decide))
            refine G_iload_n 3 dr_cX14_symbol_161 rfl ?_
            refine G_bipush 32 dr_cX14_symbol_162 (by decide +kernel) ?_
            refine G_icmp_le 190 dr_cX14_symbol_164 (by decide +kernel) (fun hc => absurd (show False by have := gj_le hc (show Int32.toInt 32 = 32 by decide); omega) not_false) (fun _ => ?_)
            refine G_new [.null, .int 0, .int 0, .int 0] dr_cX14_symbol_167 (gk_J4 D I) wr_7_231 wr_7_44 wr_1_20 (gfs_J4) (Nat.le_trans (show 8 + 1 ≤ 16 by decide) hMC) (show 20 + (o650484.toInt.toNat + 4) + 0 + 4 + 16 + 0 + 0 + 0 + (o650631.toInt.toNat + 4) + 0 + 0 + 4 ≤ ((160 * (p650065.toInt - p650066.toInt)).toNat) by first | omega | decide) (fun q650714 => Gp_in (fun P650715 F650716 hq650717 hP650718 e650719 n650720 => ?_))
            refine G_widen (cs' := 9) (sl' := 20 + (o650484.toInt.toNat + 4) + 0 + 4 + 16 + 0 + 0 + 0 + (o650631.toInt.toNat + 4) + 0 + 0 + 4) (by omega) (by omega) ?_
            have he650721 : F650716 q650062 = .inr (19, [.ref q650063, .int p650065, .int p650066, .int 6, .int p650068, .int p650069, .int p650070, .ref qo650071, .int p650072, .int p650073, .int p650074, .ref qo650075, .ref qo650076, .int p650077]) := (n650720 q650062 (fun h => hq650717 (h ▸ hm650669))).trans he650712
            have he650722 : F650716 q650063 = .inl (I .byte, 8192, .inl f650078) := (n650720 q650063 (fun h => hq650717 (h ▸ hm650670))).trans he650709
            have he650723 : F650716 q650500 = .inr (0, [.ref q650501, .int 0, .int 0, .int 0]) := (n650720 q650500 (fun h => hq650717 (h ▸ hm650671))).trans he650710
            have he650724 : F650716 q650501 = .inl (I .byte, n650502, .inl f650503) := (n650720 q650501 (fun h => hq650717 (h ▸ hm650672))).trans he650711
            have he650725 : F650716 q650714 = .inr (1, [.null, .int 0, .int 0, .int 0]) := e650719
            have hm650726 : q650062 ∈ P650715 := (hP650718 q650062).mpr (Or.inl hm650669)
            have hm650727 : q650063 ∈ P650715 := (hP650718 q650063).mpr (Or.inl hm650670)
            have hm650728 : q650500 ∈ P650715 := (hP650718 q650500).mpr (Or.inl hm650671)
            have hm650729 : q650501 ∈ P650715 := (hP650718 q650501).mpr (Or.inl hm650672)
            have hm650730 : q650714 ∈ P650715 := (hP650718 q650714).mpr (Or.inr rfl)
            have hq650731 : q650714 ∉ P650060 := fun z => hq650717 (hsb650677 q650714 z)
            have hfr650732 : rFr [q650062] P650060 F650061 F650716 := rFr_new hsb650677 hq650717 hfr650713 n650720
            have hsb650733 : rSub P650060 P650715 := rSub_new hsb650677 hP650718
            refine G_dup dr_cX14_symbol_170 rfl ?_
            refine Gw_callI (As := []) (gV_ok D I) (cp_640417_StringBuilder_init l hl0 D I P650715 F650716 q650714 0 0 hm650730 he650725 (gB_w (gBl (show Int32.toInt 0 = 0 by decide)) (by decide) (by decide)) (gB_w (gBl (show Int32.toInt 0 = 0 by decide)) (by decide) (by decide))) dr_cX14_symbol_171 ⟨wr_7_232, wr_1_20, wr_7_47, by decide, rfl, (Nat.le_of_ble_eq_true rfl), (Nat.le_of_ble_eq_true rfl)⟩ wr_7_46 rfl (Nat.le_trans (show 9 + 1 ≤ 16 by decide) hMC) (show 20 + (o650484.toInt.toNat + 4) + 0 + 4 + 16 + 0 + 0 + 0 + (o650631.toInt.toNat + 4) + 0 + 0 + 4 + 16 ≤ ((160 * (p650065.toInt - p650066.toInt)).toNat) by first | omega | decide) (Nat.le_of_ble_eq_true rfl) (fun r650737 w650738 dc650734 ds650735 hp650736 => ?_)
            obtain ⟨P650740, F650741, q650739, rfl, rfl, hsb650742, hfr650743, he650744, he650745, hm650746, hq650747, hdc, hds⟩ := hp650736
            have hm650748 : q650062 ∈ P650740 := hsb650742 q650062 hm650726
            have hm650749 : q650063 ∈ P650740 := hsb650742 q650063 hm650727
            have hm650750 : q650500 ∈ P650740 := hsb650742 q650500 hm650728
            have hm650751 : q650501 ∈ P650740 := hsb650742 q650501 hm650729
            have hm650752 : q650714 ∈ P650740 := hsb650742 q650714 hm650730
            have hq650753 : q650739 ∉ P650060 := fun z => hq650747 (hsb650733 q650739 z)
            have hsb650754 : rSub P650060 P650740 := rSub_tr hsb650733 hsb650742
            have he650755 : F650741 q650062 = .inr (19, [.ref q650063, .int p650065, .int p650066, .int 6, .int p650068, .int p650069, .int p650070, .ref qo650071, .int p650072, .int p650073, .int p650074, .ref qo650075, .ref qo650076, .int p650077]) := (hfr650743 q650062 hm650726 (nm_c (fun h => hq650731 (h ▸ hmq650062)) nm_n)).trans he650721
            have he650756 : F650741 q650063 = .inl (I .byte, 8192, .inl f650078) := (hfr650743 q650063 hm650727 (nm_c (fun h => hq650731 (h ▸ hmq650063)) nm_n)).trans he650722
            have he650757 : F650741 q650500 = .inr (0, [.ref q650501, .int 0, .int 0, .int 0]) := (hfr650743 q650500 hm650728 (nm_c (rn_oo he650723 he650725 (by decide)) nm_n)).trans he650723
            have he650758 : F650741 q650501 = .inl (I .byte, n650502, .inl f650503) := (hfr650743 q650501 hm650729 (nm_c (rn_ao he650724 he650725) nm_n)).trans he650724
            have hfr650759 : rFr [q650062] P650060 F650061 F650741 := rFr_call hsb650733 hfr650732 hfr650743 (fun b hb hn => ⟨(nm_c (fun e => hn (e ▸ List.mem_cons_self)) nm_n), (nm_c (fun e => hq650731 (e ▸ hb)) nm_n)⟩)
            have hne650760 : q650501 ≠ q650739 := fun h => hq650747 (h ▸ hm650729)
            change G _ _ _ _ _ _ _ _ _ _ _
            refine G_widen (cs' := 10) (sl' := 20 + (o650484.toInt.toNat + 4) + 0 + 4 + 16 + 0 + 0 + 0 + (o650631.toInt.toNat + 4) + 0 + 0 + 4 + 16) (Nat.add_le_add_left hdc 9) (by omega) ?_
            refine G_ldcK (a := D.2 1000 32) dr_cX14_symbol_174 (fun _ _ _ h => gx_vk 32 rfl rfl h) ?_
            have hl32_650760 : (sb_32.length : Int) = 0 := rfl
            refine Gw_callV (As := [.ref (D.2 1000 32)]) (gV_ok D I) (cp_640714_StringBuilder_append l hl0 D I P650740 F650741 q650714 q650739 (D.2 1000 32) (D.2 1001 32) sb_32 0 0 (fun _ => 0) 16 hm650752 hm650746 he650744 he650745 (gx_sc 32 rfl rfl) (by omega) (by decide +kernel) (gB_w (gBl (show Int32.toInt 0 = 0 by decide)) (by decide) (by decide)) (gB_w (gBl (show Int32.toInt 0 = 0 by decide)) (by decide) (by decide)) (gF_w gF_0 (by decide) (by decide)) (by have qa0 : Int32.toInt 0 = 0 := (by decide); have qa1 : Int32.toInt 6 = 6 := (by decide); omega) (by have qa0 : Int32.toInt 0 = 0 := (by decide); have qa1 : Int32.toInt 6 = 6 := (by decide); omega)) dr_cX14_symbol_176 ⟨wr_8_191, wr_1_20, wr_8_139, by decide, rfl, (Nat.le_of_ble_eq_true rfl), (Nat.le_of_ble_eq_true rfl)⟩ wr_8_137 wr_8_138 hm650752 he650744 rfl (Nat.le_trans (show 10 + 0 ≤ 16 by decide) hMC) (show 20 + (o650484.toInt.toNat + 4) + 0 + 4 + 16 + 0 + 0 + 0 + (o650631.toInt.toNat + 4) + 0 + 0 + 4 + 16 + 0 ≤ ((160 * (p650065.toInt - p650066.toInt)).toNat) by first | omega | decide) (Nat.le_of_ble_eq_true rfl) (fun r650765 w650766 dc650762 ds650763 hp650764 => ?_) (fun _ _ _ _ _ z => z.elim)
            obtain ⟨F650772, o650767, f650768, rfl, rfl, hfr650774, he650775, he650776, hdc, hds, bo650767, bf650768, x650769, x650770, x650771⟩ := hp650764
            have he650777 : F650772 q650062 = .inr (19, [.ref q650063, .int p650065, .int p650066, .int 6, .int p650068, .int p650069, .int p650070, .ref qo650071, .int p650072, .int p650073, .int p650074, .ref qo650075, .ref qo650076, .int p650077]) := (hfr650774 q650062 hm650748 (nm_c (fun h => hq650731 (h ▸ hmq650062)) (nm_c (fun h => hq650753 (h ▸ hmq650062)) nm_n))).trans he650755
            have he650778 : F650772 q650063 = .inl (I .byte, 8192, .inl f650078) := (hfr650774 q650063 hm650749 (nm_c (fun h => hq650731 (h ▸ hmq650063)) (nm_c (fun h => hq650753 (h ▸ hmq650063)) nm_n))).trans he650756
            have he650779 : F650772 q650500 = .inr (0, [.ref q650501, .int 0, .int 0, .int 0]) := (hfr650774 q650500 hm650750 (nm_c (rn_oo he650757 he650744 (by decide)) (nm_c (rn_oa he650757 he650745) nm_n))).trans he650757
            have he650780 : F650772 q650501 = .inl (I .byte, n650502, .inl f650503) := (hfr650774 q650501 hm650751 (nm_c (rn_ao he650758 he650744) (nm_c hne650760 nm_n))).trans he650758
            have hfr650781 : rFr [q650062] P650060 F650061 F650772 := rFr_call hsb650754 hfr650759 hfr650774 (fun b hb hn => ⟨(nm_c (fun e => hn (e ▸ List.mem_cons_self)) nm_n), (nm_c (fun e => hq650731 (e ▸ hb)) (nm_c (fun e => hq650753 (e ▸ hb)) nm_n))⟩)
            rw [show Int32.toInt 0 = 0 from by decide] at x650769
            have bo650767' : gB o650767 0 0 := ⟨by omega, by omega⟩
            rw [show Int32.toInt 0 = 0 from by decide] at x650770
            rw [show Int32.toInt 0 = 0 from by decide] at x650771
            change G _ _ _ _ _ _ _ (.ref q650714 :: _) _ _ _
            refine G_widen (cs' := 10) (sl' := 20 + (o650484.toInt.toNat + 4) + 0 + 4 + 16 + 0 + 0 + 0 + (o650631.toInt.toNat + 4) + 0 + 0 + 4 + 16 + 0) (Nat.add_le_add_left hdc 10) (by omega) ?_
            refine G_iload_n 3 dr_cX14_symbol_179 rfl ?_
            refine G_i2c dr_cX14_symbol_180 (G_nam fun z650782 hz650782 => ?_)
            have ez650782 : z650782.toInt = p650064.toInt := gI_i2c hz650782 (by omega) (by omega)
            have bz650782 : gB z650782 33 127 := ⟨by omega, by omega⟩
            refine Gw_callV (As := [.int z650782]) (gV_ok D I) (cp_639991_StringBuilder_append l hl0 D I P650740 F650772 q650714 q650739 z650782 0 o650767 f650768 16 hm650752 hm650746 he650775 he650776 (gB_w bz650782 (by decide) (by decide)) (gB_w (gBl (show Int32.toInt 0 = 0 by decide)) (by decide) (by decide)) (gB_w bo650767' (by decide) (by decide)) bf650768 (by have qa0 : Int32.toInt 0 = 0 := (by decide); have qa1 : Int32.toInt 6 = 6 := (by decide); omega) (by have qa0 : Int32.toInt 0 = 0 := (by decide); have qa1 : Int32.toInt 6 = 6 := (by decide); omega)) dr_cX14_symbol_181 ⟨wr_7_233, wr_1_20, wr_7_236, by decide, rfl, (Nat.le_of_ble_eq_true rfl), (Nat.le_of_ble_eq_true rfl)⟩ wr_7_234 wr_7_235 hm650752 he650775 rfl (Nat.le_trans (show 10 + 0 ≤ 16 by decide) hMC) (show 20 + (o650484.toInt.toNat + 4) + 0 + 4 + 16 + 0 + 0 + 0 + (o650631.toInt.toNat + 4) + 0 + 0 + 4 + 16 + 0 + 0 ≤ ((160 * (p650065.toInt - p650066.toInt)).toNat) by first | omega | decide) (Nat.le_of_ble_eq_true rfl) (fun r650786 w650787 dc650783 ds650784 hp650785 => ?_) (fun _ _ _ _ _ z => z.elim)
            obtain ⟨F650791, o650788, f650789, rfl, rfl, hfr650793, he650794, he650795, hdc, hds, bo650788, bf650789, x650790⟩ := hp650785
            have he650796 : F650791 q650062 = .inr (19, [.ref q650063, .int p650065, .int p650066, .int 6, .int p650068, .int p650069, .int p650070, .ref qo650071, .int p650072, .int p650073, .int p650074, .ref qo650075, .ref qo650076, .int p650077]) := (hfr650793 q650062 hm650748 (nm_c (fun h => hq650753 (h ▸ hmq650062)) (nm_c (fun h => hq650731 (h ▸ hmq650062)) nm_n))).trans he650777
            have he650797 : F650791 q650063 = .inl (I .byte, 8192, .inl f650078) := (hfr650793 q650063 hm650749 (nm_c (fun h => hq650753 (h ▸ hmq650063)) (nm_c (fun h => hq650731 (h ▸ hmq650063)) nm_n))).trans he650778
            have he650798 : F650791 q650500 = .inr (0, [.ref q650501, .int 0, .int 0, .int 0]) := (hfr650793 q650500 hm650750 (nm_c (rn_oa he650779 he650776) (nm_c (rn_oo he650779 he650775 (by decide)) nm_n))).trans he650779
            have he650799 : F650791 q650501 = .inl (I .byte, n650502, .inl f650503) := (hfr650793 q650501 hm650751 (nm_c hne650760 (nm_c (rn_ao he650780 he650775) nm_n))).trans he650780
            have hfr650800 : rFr [q650062] P650060 F650061 F650791 := rFr_call hsb650754 hfr650781 hfr650793 (fun b hb hn => ⟨(nm_c (fun e => hn (e ▸ List.mem_cons_self)) nm_n), (nm_c (fun e => hq650753 (e ▸ hb)) (nm_c (fun e => hq650731 (e ▸ hb)) nm_n))⟩)
            have bo650788' : gB o650788 1 1 := ⟨by omega, by omega⟩
            change G _ _ _ _ _ _ _ (.ref q650714 :: _) _ _ _
            refine G_widen (cs' := 10) (sl' := 20 + (o650484.toInt.toNat + 4) + 0 + 4 + 16 + 0 + 0 + 0 + (o650631.toInt.toNat + 4) + 0 + 0 + 4 + 16 + 0 + 0) (Nat.add_le_add_left hdc 10) (by omega) ?_
            refine Gw_callV (As := []) (gV_ok D I) (cp_641174_StringBuilder_toString l hl0 D I P650740 F650791 q650714 q650739 0 o650788 f650789 16 hm650752 hm650746 he650794 he650795 (gB_w (gBl (show Int32.toInt 0 = 0 by decide)) (by decide) (by decide)) (gB_w bo650788' (by decide) (by decide)) bf650789 (by have qa0 : Int32.toInt 0 = 0 := (by decide); have qa1 : Int32.toInt 6 = 6 := (by decide); omega) (by have qa0 : Int32.toInt 0 = 0 := (by decide); have qa1 : Int32.toInt 6 = 6 := (by decide); omega)) dr_cX14_symbol_184 ⟨wr_8_62, wr_1_20, wr_8_65, by decide, rfl, (Nat.le_of_ble_eq_true rfl), (Nat.le_of_ble_eq_true rfl)⟩ wr_8_63 wr_8_64 hm650752 he650794 rfl (Nat.le_trans (show 10 + 2 ≤ 16 by decide) hMC) (show 20 + (o650484.toInt.toNat + 4) + 0 + 4 + 16 + 0 + 0 + 0 + (o650631.toInt.toNat + 4) + 0 + 0 + 4 + 16 + 0 + 0 + (o650788.toInt.toNat + 4) ≤ ((160 * (p650065.toInt - p650066.toInt)).toNat) by first | omega | decide) (Nat.le_of_ble_eq_true rfl) (fun r650804 w650805 dc650801 ds650802 hp650803 => ?_) (fun _ _ _ _ _ z => z.elim)
            obtain ⟨P650812, F650813, q650806, q650807, n650808, f650809, rfl, rfl, hsb650814, hfr650815, he650816, he650817, he650818, he650819, hm650820, hq650821, hm650822, hq650823, hdc, hds, bf650809, x650810, x650811⟩ := hp650803
            have hm650824 : q650062 ∈ P650812 := hsb650814 q650062 hm650748
            have hm650825 : q650063 ∈ P650812 := hsb650814 q650063 hm650749
            have hm650826 : q650500 ∈ P650812 := hsb650814 q650500 hm650750
            have hm650827 : q650501 ∈ P650812 := hsb650814 q650501 hm650751
            have hm650828 : q650714 ∈ P650812 := hsb650814 q650714 hm650752
            have hm650829 : q650739 ∈ P650812 := hsb650814 q650739 hm650746
            have hq650830 : q650806 ∉ P650060 := fun z => hq650821 (hsb650754 q650806 z)
            have hq650831 : q650807 ∉ P650060 := fun z => hq650823 (hsb650754 q650807 z)
            have hsb650832 : rSub P650060 P650812 := rSub_tr hsb650754 hsb650814
            have he650833 : F650813 q650062 = .inr (19, [.ref q650063, .int p650065, .int p650066, .int 6, .int p650068, .int p650069, .int p650070, .ref qo650071, .int p650072, .int p650073, .int p650074, .ref qo650075, .ref qo650076, .int p650077]) := (hfr650815 q650062 hm650748 nm_n).trans he650796
            have he650834 : F650813 q650063 = .inl (I .byte, 8192, .inl f650078) := (hfr650815 q650063 hm650749 nm_n).trans he650797
            have he650835 : F650813 q650500 = .inr (0, [.ref q650501, .int 0, .int 0, .int 0]) := (hfr650815 q650500 hm650750 nm_n).trans he650798
            have he650836 : F650813 q650501 = .inl (I .byte, n650502, .inl f650503) := (hfr650815 q650501 hm650751 nm_n).trans he650799
            have hfr650837 : rFr [q650062] P650060 F650061 F650813 := rFr_call hsb650754 hfr650800 hfr650815 (fun b hb hn => ⟨(nm_c (fun e => hn (e ▸ List.mem_cons_self)) nm_n), nm_n⟩)
            have hne650838 : q650500 ≠ q650806 := fun h => hq650821 (h ▸ hm650750)
            have hne650839 : q650501 ≠ q650807 := fun h => hq650823 (h ▸ hm650751)
            have hne650840 : q650739 ≠ q650807 := fun h => hq650823 (h ▸ hm650746)
            change G _ _ _ _ _ _ _ (.ref q650806 :: _) _ _ _
            refine G_widen (cs' := 12) (sl' := 20 + (o650484.toInt.toNat + 4) + 0 + 4 + 16 + 0 + 0 + 0 + (o650631.toInt.toNat + 4) + 0 + 0 + 4 + 16 + 0 + 0 + (o650788.toInt.toNat + 4)) (Nat.add_le_add_left hdc 10) (by omega) ?_
            refine G_goto 192 dr_cX14_symbol_187 (by decide +kernel) ?_
            refine Gp_put 7 hm650824 he650833 dr_cX14_symbol_192 (gk_X14 D I) (Nat.le_of_ble_eq_true rfl) wr_9_39 rfl rfl rfl (Nat.le_of_ble_eq_true rfl) (fun F650841 e650842 n650843 => ?_)
            have he650844 : F650841 q650063 = .inl (I .byte, 8192, .inl f650078) := (n650843 q650063 (rn_ao he650834 he650833)).trans he650834
            have he650845 : F650841 q650500 = .inr (0, [.ref q650501, .int 0, .int 0, .int 0]) := (n650843 q650500 (fun h => hq650522 (h ▸ hmq650062))).trans he650835
            have he650846 : F650841 q650501 = .inl (I .byte, n650502, .inl f650503) := (n650843 q650501 (fun h => hq650523 (h ▸ hmq650062))).trans he650836
            have he650847 : F650841 q650806 = .inr (0, [.ref q650807, .int 0, .int 0, .int 0]) := (n650843 q650806 (fun h => hq650830 (h ▸ hmq650062))).trans he650816
            have he650848 : F650841 q650714 = .inr (1, [.ref q650739, .int 0, .int 0, .int o650788]) := (n650843 q650714 (fun h => hq650731 (h ▸ hmq650062))).trans he650817
            have he650849 : F650841 q650739 = .inl (I .byte, 16, .inl f650789) := (n650843 q650739 (fun h => hq650753 (h ▸ hmq650062))).trans he650818
            have he650850 : F650841 q650807 = .inl (I .byte, n650808, .inl f650809) := (n650843 q650807 (fun h => hq650831 (h ▸ hmq650062))).trans he650819
            have he650851 : F650841 q650062 = .inr (19, [.ref q650063, .int p650065, .int p650066, .int 6, .int p650068, .int p650069, .int p650070, .ref q650806, .int p650072, .int p650073, .int p650074, .ref qo650075, .ref qo650076, .int p650077]) := e650842
            have hfr650852 : rFr [q650062] P650060 F650061 F650841 := rFr_put' List.mem_cons_self hfr650837 n650843
            clear hm650669 hm650670 hm650671 hm650672 hsb650677 he650709 he650710 he650711 he650712 hfr650713 he650721 he650722 he650723 he650724 he650725 hm650726 hm650727 hm650728 hm650729 hm650730 hq650731 hfr650732 hsb650733 hsb650742 hfr650743 he650744 he650745 hm650746 hq650747 hm650748 hm650749 hm650750 hm650751 hm650752 hq650753 hsb650754 he650755 he650756 he650757 he650758 hfr650759 hne650760 hfr650774 he650775 he650776 bo650767 bf650768 he650777 he650778 he650779 he650780 hfr650781 hz650782 ez650782 bz650782 hfr650793 he650794 he650795 bo650788 bf650789 he650796 he650797 he650798 he650799 hfr650800 hsb650814 hfr650815 he650816 he650817 he650818 he650819 hq650821 hq650823 hm650828 hm650829 he650833 he650834 he650835 he650836 hfr650837 hne650840 he650848 he650849; try clear r650737; try clear w650738; try clear dc650734; try clear ds650735; try clear hp650736; try clear r650765; try clear w650766; try clear dc650762; try clear ds650763; try clear hp650764; try clear x650770; try clear x650771; try clear r650786; try clear w650787; try clear dc650783; try clear ds650784; try clear hp650785; try clear r650804; try clear w650805; try clear dc650801; try clear ds650802; try clear hp650803; try clear x650811
            refine G_aload_n 2 dr_cX14_symbol_195 rfl ?_
            refine G_dup dr_cX14_symbol_196 rfl ?_
            refine Gp_get 2 hm650824 he650851 dr_cX14_symbol_197 (gk_X14 D I) (Nat.le_of_ble_eq_true rfl) wr_9_34 rfl ?_
            refine G_iload_n 0 dr_cX14_symbol_200 rfl ?_
            refine G_if_eq 208 dr_cX14_symbol_201 (by decide +kernel) (fun _ => ?_) (fun hc => absurd hc (by decide))
            refine G_iconst 1 dr_cX14_symbol_208 (by decide +kernel) ?_
            refine G_iadd dr_cX14_symbol_209 (G_eqi (y := z650393) hz650393.symm ?_)
            refine Gp_put 2 hm650824 he650851 dr_cX14_symbol_210 (gk_X14 D I) (Nat.le_of_ble_eq_true rfl) wr_9_34 rfl rfl rfl (Nat.le_of_ble_eq_true rfl) (fun F650853 e650854 n650855 => ?_)
            have he650856 : F650853 q650063 = .inl (I .byte, 8192, .inl f650078) := (n650855 q650063 (rn_ao he650844 he650851)).trans he650844
            have he650857 : F650853 q650500 = .inr (0, [.ref q650501, .int 0, .int 0, .int 0]) := (n650855 q650500 (fun h => hq650522 (h ▸ hmq650062))).trans he650845
            have he650858 : F650853 q650501 = .inl (I .byte, n650502, .inl f650503) := (n650855 q650501 (fun h => hq650523 (h ▸ hmq650062))).trans he650846
            have he650859 : F650853 q650806 = .inr (0, [.ref q650807, .int 0, .int 0, .int 0]) := (n650855 q650806 (fun h => hq650830 (h ▸ hmq650062))).trans he650847
            have he650860 : F650853 q650807 = .inl (I .byte, n650808, .inl f650809) := (n650855 q650807 (fun h => hq650831 (h ▸ hmq650062))).trans he650850
            have he650861 : F650853 q650062 = .inr (19, [.ref q650063, .int p650065, .int z650393, .int 6, .int p650068, .int p650069, .int p650070, .ref q650806, .int p650072, .int p650073, .int p650074, .ref qo650075, .ref qo650076, .int p650077]) := e650854
            have hfr650862 : rFr [q650062] P650060 F650061 F650853 := rFr_put' List.mem_cons_self hfr650852 n650855
            exact G_vretA dr_cX14_symbol_213 rfl (show 12 ≤ ((16 * (p650065.toInt - p650066.toInt)).toNat) by omega) (show 20 + (o650484.toInt.toNat + 4) + 0 + 4 + 16 + 0 + 0 + 0 + (o650631.toInt.toNat + 4) + 0 + 0 + 4 + 16 + 0 + 0 + (o650788.toInt.toNat + 4) ≤ ((160 * (p650065.toInt - p650066.toInt)).toNat) by omega) ⟨P650812, F650853, z650393, 6, q650806, rfl, rfl, hsb650832, hfr650862, he650861, he650856, (by omega), (by omega), (gB_w bz650393' (by decide) (by decide)), (gB_w (gBl (show Int32.toInt 6 = 6 by decide)) (by decide) (by decide)), (by have qa0 : Int32.toInt 0 = 0 := (by decide); have qa1 : Int32.toInt 6 = 6 := (by decide); omega), (by have qa0 : Int32.toInt 0 = 0 := (by decide); have qa1 : Int32.toInt 6 = 6 := (by decide); omega), (tP_no (by decide) (by decide)), (vP_no (by decide) (by decide))⟩
          · have r650863 : 0 ≤ o650703.toInt := gj_nlt hc650704 (show Int32.toInt 0 = 0 by decide)
            have bo650703' : gB o650703 0 65534 := ⟨by omega, by omega⟩
            refine G_iconst 5 dr_cX14_symbol_143 (by decide +kernel) ?_
            refine G_goto 149 dr_cX14_symbol_144 (by decide +kernel) ?_
            refine Gp_put 3 hm650669 he650678 dr_cX14_symbol_149 (gk_X14 D I) (Nat.le_of_ble_eq_true rfl) wr_9_35 rfl rfl rfl (Nat.le_of_ble_eq_true rfl) (fun F650864 e650865 n650866 => ?_)
            have he650867 : F650864 q650063 = .inl (I .byte, 8192, .inl f650078) := (n650866 q650063 (rn_ao he650679 he650678)).trans he650679
            have he650868 : F650864 q650500 = .inr (0, [.ref q650501, .int 0, .int 0, .int 0]) := (n650866 q650500 (fun h => hq650522 (h ▸ hmq650062))).trans he650680
            have he650869 : F650864 q650501 = .inl (I .byte, n650502, .inl f650503) := (n650866 q650501 (fun h => hq650523 (h ▸ hmq650062))).trans he650681
            have he650870 : F650864 q650062 = .inr (19, [.ref q650063, .int p650065, .int p650066, .int 5, .int p650068, .int p650069, .int p650070, .ref qo650071, .int p650072, .int p650073, .int p650074, .ref qo650075, .ref qo650076, .int p650077]) := e650865
            have hfr650871 : rFr [q650062] P650060 F650061 F650864 := rFr_put hfr650682 n650866
            clear he650678 he650679 he650680 he650681 hfr650682 hz650697 ez650697 bz650697 bo650703 bo650703'; try clear r650701; try clear w650702; try clear dc650698; try clear ds650699; try clear hp650700; try clear r650863
            refine G_aload_n 2 dr_cX14_symbol_152 rfl ?_
            refine G_iload_n 0 dr_cX14_symbol_153 rfl ?_
            refine G_if_eq 161 dr_cX14_symbol_154 (by decide +kernel) (fun _ => ?_) (fun hc => absurd hc (by decide))
            refine G_iload_n 3 dr_cX14_symbol_161 rfl ?_
            refine G_bipush 32 dr_cX14_symbol_162 (by decide +kernel) ?_
            refine G_icmp_le 190 dr_cX14_symbol_164 (by decide +kernel) (fun hc => absurd (show False by have := gj_le hc (show Int32.toInt 32 = 32 by decide); omega) not_false) (fun _ => ?_)
            refine G_new [.null, .int 0, .int 0, .int 0] dr_cX14_symbol_167 (gk_J4 D I) wr_7_231 wr_7_44 wr_1_20 (gfs_J4) (Nat.le_trans (show 8 + 1 ≤ 16 by decide) hMC) (show 20 + (o650484.toInt.toNat + 4) + 0 + 4 + 16 + 0 + 0 + 0 + (o650631.toInt.toNat + 4) + 0 + 0 + 4 ≤ ((160 * (p650065.toInt - p650066.toInt)).toNat) by first | omega | decide) (fun q650872 => Gp_in (fun P650873 F650874 hq650875 hP650876 e650877 n650878 => ?_))
            refine G_widen (cs' := 9) (sl' := 20 + (o650484.toInt.toNat + 4) + 0 + 4 + 16 + 0 + 0 + 0 + (o650631.toInt.toNat + 4) + 0 + 0 + 4) (by omega) (by omega) ?_
            have he650879 : F650874 q650062 = .inr (19, [.ref q650063, .int p650065, .int p650066, .int 5, .int p650068, .int p650069, .int p650070, .ref qo650071, .int p650072, .int p650073, .int p650074, .ref qo650075, .ref qo650076, .int p650077]) := (n650878 q650062 (fun h => hq650875 (h ▸ hm650669))).trans he650870
            have he650880 : F650874 q650063 = .inl (I .byte, 8192, .inl f650078) := (n650878 q650063 (fun h => hq650875 (h ▸ hm650670))).trans he650867
            have he650881 : F650874 q650500 = .inr (0, [.ref q650501, .int 0, .int 0, .int 0]) := (n650878 q650500 (fun h => hq650875 (h ▸ hm650671))).trans he650868
            have he650882 : F650874 q650501 = .inl (I .byte, n650502, .inl f650503) := (n650878 q650501 (fun h => hq650875 (h ▸ hm650672))).trans he650869
            have he650883 : F650874 q650872 = .inr (1, [.null, .int 0, .int 0, .int 0]) := e650877
            have hm650884 : q650062 ∈ P650873 := (hP650876 q650062).mpr (Or.inl hm650669)
            have hm650885 : q650063 ∈ P650873 := (hP650876 q650063).mpr (Or.inl hm650670)
            have hm650886 : q650500 ∈ P650873 := (hP650876 q650500).mpr (Or.inl hm650671)
            have hm650887 : q650501 ∈ P650873 := (hP650876 q650501).mpr (Or.inl hm650672)
            have hm650888 : q650872 ∈ P650873 := (hP650876 q650872).mpr (Or.inr rfl)
            have hq650889 : q650872 ∉ P650060 := fun z => hq650875 (hsb650677 q650872 z)
            have hfr650890 : rFr [q650062] P650060 F650061 F650874 := rFr_new hsb650677 hq650875 hfr650871 n650878
            have hsb650891 : rSub P650060 P650873 := rSub_new hsb650677 hP650876
            refine G_dup dr_cX14_symbol_170 rfl ?_
            refine Gw_callI (As := []) (gV_ok D I) (cp_640417_StringBuilder_init l hl0 D I P650873 F650874 q650872 0 0 hm650888 he650883 (gB_w (gBl (show Int32.toInt 0 = 0 by decide)) (by decide) (by decide)) (gB_w (gBl (show Int32.toInt 0 = 0 by decide)) (by decide) (by decide))) dr_cX14_symbol_171 ⟨wr_7_232, wr_1_20, wr_7_47, by decide, rfl, (Nat.le_of_ble_eq_true rfl), (Nat.le_of_ble_eq_true rfl)⟩ wr_7_46 rfl (Nat.le_trans (show 9 + 1 ≤ 16 by decide) hMC) (show 20 + (o650484.toInt.toNat + 4) + 0 + 4 + 16 + 0 + 0 + 0 + (o650631.toInt.toNat + 4) + 0 + 0 + 4 + 16 ≤ ((160 * (p650065.toInt - p650066.toInt)).toNat) by first | omega | decide) (Nat.le_of_ble_eq_true rfl) (fun r650895 w650896 dc650892 ds650893 hp650894 => ?_)
            obtain ⟨P650898, F650899, q650897, rfl, rfl, hsb650900, hfr650901, he650902, he650903, hm650904, hq650905, hdc, hds⟩ := hp650894
            have hm650906 : q650062 ∈ P650898 := hsb650900 q650062 hm650884
            have hm650907 : q650063 ∈ P650898 := hsb650900 q650063 hm650885
            have hm650908 : q650500 ∈ P650898 := hsb650900 q650500 hm650886
            have hm650909 : q650501 ∈ P650898 := hsb650900 q650501 hm650887
            have hm650910 : q650872 ∈ P650898 := hsb650900 q650872 hm650888
            have hq650911 : q650897 ∉ P650060 := fun z => hq650905 (hsb650891 q650897 z)
            have hsb650912 : rSub P650060 P650898 := rSub_tr hsb650891 hsb650900
            have he650913 : F650899 q650062 = .inr (19, [.ref q650063, .int p650065, .int p650066, .int 5, .int p650068, .int p650069, .int p650070, .ref qo650071, .int p650072, .int p650073, .int p650074, .ref qo650075, .ref qo650076, .int p650077]) := (hfr650901 q650062 hm650884 (nm_c (fun h => hq650889 (h ▸ hmq650062)) nm_n)).trans he650879
            have he650914 : F650899 q650063 = .inl (I .byte, 8192, .inl f650078) := (hfr650901 q650063 hm650885 (nm_c (fun h => hq650889 (h ▸ hmq650063)) nm_n)).trans he650880
            have he650915 : F650899 q650500 = .inr (0, [.ref q650501, .int 0, .int 0, .int 0]) := (hfr650901 q650500 hm650886 (nm_c (rn_oo he650881 he650883 (by decide)) nm_n)).trans he650881
            have he650916 : F650899 q650501 = .inl (I .byte, n650502, .inl f650503) := (hfr650901 q650501 hm650887 (nm_c (rn_ao he650882 he650883) nm_n)).trans he650882
            have hfr650917 : rFr [q650062] P650060 F650061 F650899 := rFr_call hsb650891 hfr650890 hfr650901 (fun b hb hn => ⟨(nm_c (fun e => hn (e ▸ List.mem_cons_self)) nm_n), (nm_c (fun e => hq650889 (e ▸ hb)) nm_n)⟩)
            have hne650918 : q650501 ≠ q650897 := fun h => hq650905 (h ▸ hm650887)
            change G _ _ _ _ _ _ _ _ _ _ _
            refine G_widen (cs' := 10) (sl' := 20 + (o650484.toInt.toNat + 4) + 0 + 4 + 16 + 0 + 0 + 0 + (o650631.toInt.toNat + 4) + 0 + 0 + 4 + 16) (Nat.add_le_add_left hdc 9) (by omega) ?_
            refine G_ldcK (a := D.2 1000 32) dr_cX14_symbol_174 (fun _ _ _ h => gx_vk 32 rfl rfl h) ?_
            have hl32_650918 : (sb_32.length : Int) = 0 := rfl
            refine Gw_callV (As := [.ref (D.2 1000 32)]) (gV_ok D I) (cp_640714_StringBuilder_append l hl0 D I P650898 F650899 q650872 q650897 (D.2 1000 32) (D.2 1001 32) sb_32 0 0 (fun _ => 0) 16 hm650910 hm650904 he650902 he650903 (gx_sc 32 rfl rfl) (by omega) (by decide +kernel) (gB_w (gBl (show Int32.toInt 0 = 0 by decide)) (by decide) (by decide)) (gB_w (gBl (show Int32.toInt 0 = 0 by decide)) (by decide) (by decide)) (gF_w gF_0 (by decide) (by decide)) (by have qa0 : Int32.toInt 0 = 0 := (by decide); have qa1 : Int32.toInt 5 = 5 := (by decide); omega) (by have qa0 : Int32.toInt 0 = 0 := (by decide); have qa1 : Int32.toInt 5 = 5 := (by decide); omega)) dr_cX14_symbol_176 ⟨wr_8_191, wr_1_20, wr_8_139, by decide, rfl, (Nat.le_of_ble_eq_true rfl), (Nat.le_of_ble_eq_true rfl)⟩ wr_8_137 wr_8_138 hm650910 he650902 rfl (Nat.le_trans (show 10 + 0 ≤ 16 by decide) hMC) (show 20 + (o650484.toInt.toNat + 4) + 0 + 4 + 16 + 0 + 0 + 0 + (o650631.toInt.toNat + 4) + 0 + 0 + 4 + 16 + 0 ≤ ((160 * (p650065.toInt - p650066.toInt)).toNat) by first | omega | decide) (Nat.le_of_ble_eq_true rfl) (fun r650923 w650924 dc650920 ds650921 hp650922 => ?_) (fun _ _ _ _ _ z => z.elim)
            obtain ⟨F650930, o650925, f650926, rfl, rfl, hfr650932, he650933, he650934, hdc, hds, bo650925, bf650926, x650927, x650928, x650929⟩ := hp650922
            have he650935 : F650930 q650062 = .inr (19, [.ref q650063, .int p650065, .int p650066, .int 5, .int p650068, .int p650069, .int p650070, .ref qo650071, .int p650072, .int p650073, .int p650074, .ref qo650075, .ref qo650076, .int p650077]) := (hfr650932 q650062 hm650906 (nm_c (fun h => hq650889 (h ▸ hmq650062)) (nm_c (fun h => hq650911 (h ▸ hmq650062)) nm_n))).trans he650913
            have he650936 : F650930 q650063 = .inl (I .byte, 8192, .inl f650078) := (hfr650932 q650063 hm650907 (nm_c (fun h => hq650889 (h ▸ hmq650063)) (nm_c (fun h => hq650911 (h ▸ hmq650063)) nm_n))).trans he650914
            have he650937 : F650930 q650500 = .inr (0, [.ref q650501, .int 0, .int 0, .int 0]) := (hfr650932 q650500 hm650908 (nm_c (rn_oo he650915 he650902 (by decide)) (nm_c (rn_oa he650915 he650903) nm_n))).trans he650915
            have he650938 : F650930 q650501 = .inl (I .byte, n650502, .inl f650503) := (hfr650932 q650501 hm650909 (nm_c (rn_ao he650916 he650902) (nm_c hne650918 nm_n))).trans he650916
            have hfr650939 : rFr [q650062] P650060 F650061 F650930 := rFr_call hsb650912 hfr650917 hfr650932 (fun b hb hn => ⟨(nm_c (fun e => hn (e ▸ List.mem_cons_self)) nm_n), (nm_c (fun e => hq650889 (e ▸ hb)) (nm_c (fun e => hq650911 (e ▸ hb)) nm_n))⟩)
            rw [show Int32.toInt 0 = 0 from by decide] at x650927
            have bo650925' : gB o650925 0 0 := ⟨by omega, by omega⟩
            rw [show Int32.toInt 0 = 0 from by decide] at x650928
            rw [show Int32.toInt 0 = 0 from by decide] at x650929
            change G _ _ _ _ _ _ _ (.ref q650872 :: _) _ _ _
            refine G_widen (cs' := 10) (sl' := 20 + (o650484.toInt.toNat + 4) + 0 + 4 + 16 + 0 + 0 + 0 + (o650631.toInt.toNat + 4) + 0 + 0 + 4 + 16 + 0) (Nat.add_le_add_left hdc 10) (by omega) ?_
            refine G_iload_n 3 dr_cX14_symbol_179 rfl ?_
            refine G_i2c dr_cX14_symbol_180 (G_nam fun z650940 hz650940 => ?_)
            have ez650940 : z650940.toInt = p650064.toInt := gI_i2c hz650940 (by omega) (by omega)
            have bz650940 : gB z650940 33 127 := ⟨by omega, by omega⟩
            refine Gw_callV (As := [.int z650940]) (gV_ok D I) (cp_639991_StringBuilder_append l hl0 D I P650898 F650930 q650872 q650897 z650940 0 o650925 f650926 16 hm650910 hm650904 he650933 he650934 (gB_w bz650940 (by decide) (by decide)) (gB_w (gBl (show Int32.toInt 0 = 0 by decide)) (by decide) (by decide)) (gB_w bo650925' (by decide) (by decide)) bf650926 (by have qa0 : Int32.toInt 0 = 0 := (by decide); have qa1 : Int32.toInt 5 = 5 := (by decide); omega) (by have qa0 : Int32.toInt 0 = 0 := (by decide); have qa1 : Int32.toInt 5 = 5 := (by decide); omega)) dr_cX14_symbol_181 ⟨wr_7_233, wr_1_20, wr_7_236, by decide, rfl, (Nat.le_of_ble_eq_true rfl), (Nat.le_of_ble_eq_true rfl)⟩ wr_7_234 wr_7_235 hm650910 he650933 rfl (Nat.le_trans (show 10 + 0 ≤ 16 by decide) hMC) (show 20 + (o650484.toInt.toNat + 4) + 0 + 4 + 16 + 0 + 0 + 0 + (o650631.toInt.toNat + 4) + 0 + 0 + 4 + 16 + 0 + 0 ≤ ((160 * (p650065.toInt - p650066.toInt)).toNat) by first | omega | decide) (Nat.le_of_ble_eq_true rfl) (fun r650944 w650945 dc650941 ds650942 hp650943 => ?_) (fun _ _ _ _ _ z => z.elim)
            obtain ⟨F650949, o650946, f650947, rfl, rfl, hfr650951, he650952, he650953, hdc, hds, bo650946, bf650947, x650948⟩ := hp650943
            have he650954 : F650949 q650062 = .inr (19, [.ref q650063, .int p650065, .int p650066, .int 5, .int p650068, .int p650069, .int p650070, .ref qo650071, .int p650072, .int p650073, .int p650074, .ref qo650075, .ref qo650076, .int p650077]) := (hfr650951 q650062 hm650906 (nm_c (fun h => hq650911 (h ▸ hmq650062)) (nm_c (fun h => hq650889 (h ▸ hmq650062)) nm_n))).trans he650935
            have he650955 : F650949 q650063 = .inl (I .byte, 8192, .inl f650078) := (hfr650951 q650063 hm650907 (nm_c (fun h => hq650911 (h ▸ hmq650063)) (nm_c (fun h => hq650889 (h ▸ hmq650063)) nm_n))).trans he650936
            have he650956 : F650949 q650500 = .inr (0, [.ref q650501, .int 0, .int 0, .int 0]) := (hfr650951 q650500 hm650908 (nm_c (rn_oa he650937 he650934) (nm_c (rn_oo he650937 he650933 (by decide)) nm_n))).trans he650937
            have he650957 : F650949 q650501 = .inl (I .byte, n650502, .inl f650503) := (hfr650951 q650501 hm650909 (nm_c hne650918 (nm_c (rn_ao he650938 he650933) nm_n))).trans he650938
            have hfr650958 : rFr [q650062] P650060 F650061 F650949 := rFr_call hsb650912 hfr650939 hfr650951 (fun b hb hn => ⟨(nm_c (fun e => hn (e ▸ List.mem_cons_self)) nm_n), (nm_c (fun e => hq650911 (e ▸ hb)) (nm_c (fun e => hq650889 (e ▸ hb)) nm_n))⟩)
            have bo650946' : gB o650946 1 1 := ⟨by omega, by omega⟩
            change G _ _ _ _ _ _ _ (.ref q650872 :: _) _ _ _
            refine G_widen (cs' := 10) (sl' := 20 + (o650484.toInt.toNat + 4) + 0 + 4 + 16 + 0 + 0 + 0 + (o650631.toInt.toNat + 4) + 0 + 0 + 4 + 16 + 0 + 0) (Nat.add_le_add_left hdc 10) (by omega) ?_
            refine Gw_callV (As := []) (gV_ok D I) (cp_641174_StringBuilder_toString l hl0 D I P650898 F650949 q650872 q650897 0 o650946 f650947 16 hm650910 hm650904 he650952 he650953 (gB_w (gBl (show Int32.toInt 0 = 0 by decide)) (by decide) (by decide)) (gB_w bo650946' (by decide) (by decide)) bf650947 (by have qa0 : Int32.toInt 0 = 0 := (by decide); have qa1 : Int32.toInt 5 = 5 := (by decide); omega) (by have qa0 : Int32.toInt 0 = 0 := (by decide); have qa1 : Int32.toInt 5 = 5 := (by decide); omega)) dr_cX14_symbol_184 ⟨wr_8_62, wr_1_20, wr_8_65, by decide, rfl, (Nat.le_of_ble_eq_true rfl), (Nat.le_of_ble_eq_true rfl)⟩ wr_8_63 wr_8_64 hm650910 he650952 rfl (Nat.le_trans (show 10 + 2 ≤ 16 by decide) hMC) (show 20 + (o650484.toInt.toNat + 4) + 0 + 4 + 16 + 0 + 0 + 0 + (o650631.toInt.toNat + 4) + 0 + 0 + 4 + 16 + 0 + 0 + (o650946.toInt.toNat + 4) ≤ ((160 * (p650065.toInt - p650066.toInt)).toNat) by first | omega | decide) (Nat.le_of_ble_eq_true rfl) (fun r650962 w650963 dc650959 ds650960 hp650961 => ?_) (fun _ _ _ _ _ z => z.elim)
            obtain ⟨P650970, F650971, q650964, q650965, n650966, f650967, rfl, rfl, hsb650972, hfr650973, he650974, he650975, he650976, he650977, hm650978, hq650979, hm650980, hq650981, hdc, hds, bf650967, x650968, x650969⟩ := hp650961
            have hm650982 : q650062 ∈ P650970 := hsb650972 q650062 hm650906
            have hm650983 : q650063 ∈ P650970 := hsb650972 q650063 hm650907
            have hm650984 : q650500 ∈ P650970 := hsb650972 q650500 hm650908
            have hm650985 : q650501 ∈ P650970 := hsb650972 q650501 hm650909
            have hm650986 : q650872 ∈ P650970 := hsb650972 q650872 hm650910
            have hm650987 : q650897 ∈ P650970 := hsb650972 q650897 hm650904
            have hq650988 : q650964 ∉ P650060 := fun z => hq650979 (hsb650912 q650964 z)
            have hq650989 : q650965 ∉ P650060 := fun z => hq650981 (hsb650912 q650965 z)
            have hsb650990 : rSub P650060 P650970 := rSub_tr hsb650912 hsb650972
            have he650991 : F650971 q650062 = .inr (19, [.ref q650063, .int p650065, .int p650066, .int 5, .int p650068, .int p650069, .int p650070, .ref qo650071, .int p650072, .int p650073, .int p650074, .ref qo650075, .ref qo650076, .int p650077]) := (hfr650973 q650062 hm650906 nm_n).trans he650954
            have he650992 : F650971 q650063 = .inl (I .byte, 8192, .inl f650078) := (hfr650973 q650063 hm650907 nm_n).trans he650955
            have he650993 : F650971 q650500 = .inr (0, [.ref q650501, .int 0, .int 0, .int 0]) := (hfr650973 q650500 hm650908 nm_n).trans he650956
            have he650994 : F650971 q650501 = .inl (I .byte, n650502, .inl f650503) := (hfr650973 q650501 hm650909 nm_n).trans he650957
            have hfr650995 : rFr [q650062] P650060 F650061 F650971 := rFr_call hsb650912 hfr650958 hfr650973 (fun b hb hn => ⟨(nm_c (fun e => hn (e ▸ List.mem_cons_self)) nm_n), nm_n⟩)
            have hne650996 : q650500 ≠ q650964 := fun h => hq650979 (h ▸ hm650908)
            have hne650997 : q650501 ≠ q650965 := fun h => hq650981 (h ▸ hm650909)
            have hne650998 : q650897 ≠ q650965 := fun h => hq650981 (h ▸ hm650904)
            change G _ _ _ _ _ _ _ (.ref q650964 :: _) _ _ _
            refine G_widen (cs' := 12) (sl' := 20 + (o650484.toInt.toNat + 4) + 0 + 4 + 16 + 0 + 0 + 0 + (o650631.toInt.toNat + 4) + 0 + 0 + 4 + 16 + 0 + 0 + (o650946.toInt.toNat + 4)) (Nat.add_le_add_left hdc 10) (by omega) ?_
            refine G_goto 192 dr_cX14_symbol_187 (by decide +kernel) ?_
            refine Gp_put 7 hm650982 he650991 dr_cX14_symbol_192 (gk_X14 D I) (Nat.le_of_ble_eq_true rfl) wr_9_39 rfl rfl rfl (Nat.le_of_ble_eq_true rfl) (fun F650999 e651000 n651001 => ?_)
            have he651002 : F650999 q650063 = .inl (I .byte, 8192, .inl f650078) := (n651001 q650063 (rn_ao he650992 he650991)).trans he650992
            have he651003 : F650999 q650500 = .inr (0, [.ref q650501, .int 0, .int 0, .int 0]) := (n651001 q650500 (fun h => hq650522 (h ▸ hmq650062))).trans he650993
            have he651004 : F650999 q650501 = .inl (I .byte, n650502, .inl f650503) := (n651001 q650501 (fun h => hq650523 (h ▸ hmq650062))).trans he650994
            have he651005 : F650999 q650964 = .inr (0, [.ref q650965, .int 0, .int 0, .int 0]) := (n651001 q650964 (fun h => hq650988 (h ▸ hmq650062))).trans he650974
            have he651006 : F650999 q650872 = .inr (1, [.ref q650897, .int 0, .int 0, .int o650946]) := (n651001 q650872 (fun h => hq650889 (h ▸ hmq650062))).trans he650975
            have he651007 : F650999 q650897 = .inl (I .byte, 16, .inl f650947) := (n651001 q650897 (fun h => hq650911 (h ▸ hmq650062))).trans he650976
            have he651008 : F650999 q650965 = .inl (I .byte, n650966, .inl f650967) := (n651001 q650965 (fun h => hq650989 (h ▸ hmq650062))).trans he650977
            have he651009 : F650999 q650062 = .inr (19, [.ref q650063, .int p650065, .int p650066, .int 5, .int p650068, .int p650069, .int p650070, .ref q650964, .int p650072, .int p650073, .int p650074, .ref qo650075, .ref qo650076, .int p650077]) := e651000
            have hfr651010 : rFr [q650062] P650060 F650061 F650999 := rFr_put' List.mem_cons_self hfr650995 n651001
            clear hm650669 hm650670 hm650671 hm650672 hsb650677 he650867 he650868 he650869 he650870 hfr650871 he650879 he650880 he650881 he650882 he650883 hm650884 hm650885 hm650886 hm650887 hm650888 hq650889 hfr650890 hsb650891 hsb650900 hfr650901 he650902 he650903 hm650904 hq650905 hm650906 hm650907 hm650908 hm650909 hm650910 hq650911 hsb650912 he650913 he650914 he650915 he650916 hfr650917 hne650918 hfr650932 he650933 he650934 bo650925 bf650926 he650935 he650936 he650937 he650938 hfr650939 hz650940 ez650940 bz650940 hfr650951 he650952 he650953 bo650946 bf650947 he650954 he650955 he650956 he650957 hfr650958 hsb650972 hfr650973 he650974 he650975 he650976 he650977 hq650979 hq650981 hm650986 hm650987 he650991 he650992 he650993 he650994 hfr650995 hne650998 he651006 he651007; try clear r650895; try clear w650896; try clear dc650892; try clear ds650893; try clear hp650894; try clear r650923; try clear w650924; try clear dc650920; try clear ds650921; try clear hp650922; try clear x650928; try clear x650929; try clear r650944; try clear w650945; try clear dc650941; try clear ds650942; try clear hp650943; try clear r650962; try clear w650963; try clear dc650959; try clear ds650960; try clear hp650961; try clear x650969
            refine G_aload_n 2 dr_cX14_symbol_195 rfl ?_
            refine G_dup dr_cX14_symbol_196 rfl ?_
            refine Gp_get 2 hm650982 he651009 dr_cX14_symbol_197 (gk_X14 D I) (Nat.le_of_ble_eq_true rfl) wr_9_34 rfl ?_
            refine G_iload_n 0 dr_cX14_symbol_200 rfl ?_
            refine G_if_eq 208 dr_cX14_symbol_201 (by decide +kernel) (fun _ => ?_) (fun hc => absurd hc (by decide))
            refine G_iconst 1 dr_cX14_symbol_208 (by decide +kernel) ?_
            refine G_iadd dr_cX14_symbol_209 (G_eqi (y := z650393) hz650393.symm ?_)
            refine Gp_put 2 hm650982 he651009 dr_cX14_symbol_210 (gk_X14 D I) (Nat.le_of_ble_eq_true rfl) wr_9_34 rfl rfl rfl (Nat.le_of_ble_eq_true rfl) (fun F651011 e651012 n651013 => ?_)
            have he651014 : F651011 q650063 = .inl (I .byte, 8192, .inl f650078) := (n651013 q650063 (rn_ao he651002 he651009)).trans he651002
            have he651015 : F651011 q650500 = .inr (0, [.ref q650501, .int 0, .int 0, .int 0]) := (n651013 q650500 (fun h => hq650522 (h ▸ hmq650062))).trans he651003
            have he651016 : F651011 q650501 = .inl (I .byte, n650502, .inl f650503) := (n651013 q650501 (fun h => hq650523 (h ▸ hmq650062))).trans he651004
            have he651017 : F651011 q650964 = .inr (0, [.ref q650965, .int 0, .int 0, .int 0]) := (n651013 q650964 (fun h => hq650988 (h ▸ hmq650062))).trans he651005
            have he651018 : F651011 q650965 = .inl (I .byte, n650966, .inl f650967) := (n651013 q650965 (fun h => hq650989 (h ▸ hmq650062))).trans he651008
            have he651019 : F651011 q650062 = .inr (19, [.ref q650063, .int p650065, .int z650393, .int 5, .int p650068, .int p650069, .int p650070, .ref q650964, .int p650072, .int p650073, .int p650074, .ref qo650075, .ref qo650076, .int p650077]) := e651012
            have hfr651020 : rFr [q650062] P650060 F650061 F651011 := rFr_put' List.mem_cons_self hfr651010 n651013
            exact G_vretA dr_cX14_symbol_213 rfl (show 12 ≤ ((16 * (p650065.toInt - p650066.toInt)).toNat) by omega) (show 20 + (o650484.toInt.toNat + 4) + 0 + 4 + 16 + 0 + 0 + 0 + (o650631.toInt.toNat + 4) + 0 + 0 + 4 + 16 + 0 + 0 + (o650946.toInt.toNat + 4) ≤ ((160 * (p650065.toInt - p650066.toInt)).toNat) by omega) ⟨P650970, F651011, z650393, 5, q650964, rfl, rfl, hsb650990, hfr651020, he651019, he651014, (by omega), (by omega), (gB_w bz650393' (by decide) (by decide)), (gB_w (gBl (show Int32.toInt 5 = 5 by decide)) (by decide) (by decide)), (by have qa0 : Int32.toInt 0 = 0 := (by decide); have qa1 : Int32.toInt 5 = 5 := (by decide); omega), (by have qa0 : Int32.toInt 0 = 0 := (by decide); have qa1 : Int32.toInt 5 = 5 := (by decide); omega), (tP_5 hm650978 he651017 hm650980 he651018 bf650967 (by omega) (gB_w (gBl (show Int32.toInt 0 = 0 by decide)) (by decide) (by decide)) (fun e => hq650989 (e ▸ x650081)) (fun e => hq650989 (e ▸ x650082))), (vP_no (by decide) (by decide))⟩
        · have r651021 : 0 ≤ o650691.toInt := gj_nlt hc650694 (show Int32.toInt 0 = 0 by decide)
          have bo650691' : gB o650691 0 16777215 := ⟨by omega, by omega⟩
          refine G_iconst 1 dr_cX14_symbol_116 (by decide +kernel) ?_
          refine G_goto 121 dr_cX14_symbol_117 (by decide +kernel) ?_
          refine G_istore_n (L' := [(3, .int 1), (2, .ref q650500), (0, .ref q650062), (1, .int p650064)]) dr_cX14_symbol_121 (Nat.le_of_ble_eq_true rfl) rfl ?_
          clear he650510 he650513 hm650514 hm650516 hm650518 hm650519 hsb650524 he650525 he650526 hfr650527 he650544 he650545 he650546 he650547 he650548 hm650549 hm650550 hm650551 hm650552 hm650553 hq650554 hfr650555 hsb650556 hsb650565 hfr650566 he650567 he650568 hm650569 hq650570 hm650571 hm650572 hm650573 hm650574 hm650575 hq650576 hsb650577 he650578 he650579 he650580 he650581 hfr650582 hne650583 hfr650597 he650598 he650599 bo650590 bf650591 he650600 he650601 he650602 he650603 hfr650604 hfr650617 he650618 he650619 he650620 he650621 bo650610 bf650611 he650622 he650623 hfr650624 hfr650638 he650639 he650640 bo650631 bf650632 he650641 he650642 he650643 he650644 hfr650645 hsb650659 hfr650660 he650661 he650662 he650663 he650664 hm650665 hq650666 hm650667 hq650668 bf650654 hm650673 hm650674 hq650675 hq650676 hne650683 hne650684 hne650685 bo650691; try clear r650560; try clear w650561; try clear dc650557; try clear ds650558; try clear hp650559; try clear r650588; try clear w650589; try clear dc650585; try clear ds650586; try clear hp650587; try clear x650593; try clear x650594; try clear r650608; try clear w650609; try clear dc650605; try clear ds650606; try clear hp650607; try clear x650613; try clear x650614; try clear r650629; try clear w650630; try clear dc650626; try clear ds650627; try clear hp650628; try clear x650634; try clear x650635; try clear r650649; try clear w650650; try clear dc650646; try clear ds650647; try clear hp650648; try clear x650656; try clear r650689; try clear w650690; try clear dc650686; try clear ds650687; try clear hp650688; try clear x650693
          refine G_aload_n 2 dr_cX14_symbol_122 rfl ?_
          refine G_iload_n 0 dr_cX14_symbol_123 rfl ?_
          refine G_if_ne 143 dr_cX14_symbol_124 (by decide +kernel) (fun _ => ?_) (fun hc => absurd hc (by decide))
          refine G_iconst 5 dr_cX14_symbol_143 (by decide +kernel) ?_
          refine G_goto 149 dr_cX14_symbol_144 (by decide +kernel) ?_
          refine Gp_put 3 hm650669 he650678 dr_cX14_symbol_149 (gk_X14 D I) (Nat.le_of_ble_eq_true rfl) wr_9_35 rfl rfl rfl (Nat.le_of_ble_eq_true rfl) (fun F651022 e651023 n651024 => ?_)
          have he651025 : F651022 q650063 = .inl (I .byte, 8192, .inl f650078) := (n651024 q650063 (rn_ao he650679 he650678)).trans he650679
          have he651026 : F651022 q650500 = .inr (0, [.ref q650501, .int 0, .int 0, .int 0]) := (n651024 q650500 (fun h => hq650522 (h ▸ hmq650062))).trans he650680
          have he651027 : F651022 q650501 = .inl (I .byte, n650502, .inl f650503) := (n651024 q650501 (fun h => hq650523 (h ▸ hmq650062))).trans he650681
          have he651028 : F651022 q650062 = .inr (19, [.ref q650063, .int p650065, .int p650066, .int 5, .int p650068, .int p650069, .int p650070, .ref qo650071, .int p650072, .int p650073, .int p650074, .ref qo650075, .ref qo650076, .int p650077]) := e651023
          have hfr651029 : rFr [q650062] P650060 F650061 F651022 := rFr_put hfr650682 n651024
          clear he650678 he650679 he650680 he650681 hfr650682
          refine G_aload_n 2 dr_cX14_symbol_152 rfl ?_
          refine G_iload_n 0 dr_cX14_symbol_153 rfl ?_
          refine G_if_eq 161 dr_cX14_symbol_154 (by decide +kernel) (fun hc => absurd hc (by decide)) (fun _ => ?_)
          refine G_aload_n 1 dr_cX14_symbol_157 rfl ?_
          refine G_goto 192 dr_cX14_symbol_158 (by decide +kernel) ?_
          refine Gp_put 7 hm650669 he651028 dr_cX14_symbol_192 (gk_X14 D I) (Nat.le_of_ble_eq_true rfl) wr_9_39 rfl rfl rfl (Nat.le_of_ble_eq_true rfl) (fun F651030 e651031 n651032 => ?_)
          have he651033 : F651030 q650063 = .inl (I .byte, 8192, .inl f650078) := (n651032 q650063 (rn_ao he651025 he651028)).trans he651025
          have he651034 : F651030 q650500 = .inr (0, [.ref q650501, .int 0, .int 0, .int 0]) := (n651032 q650500 (fun h => hq650522 (h ▸ hmq650062))).trans he651026
          have he651035 : F651030 q650501 = .inl (I .byte, n650502, .inl f650503) := (n651032 q650501 (fun h => hq650523 (h ▸ hmq650062))).trans he651027
          have he651036 : F651030 q650062 = .inr (19, [.ref q650063, .int p650065, .int p650066, .int 5, .int p650068, .int p650069, .int p650070, .ref q650500, .int p650072, .int p650073, .int p650074, .ref qo650075, .ref qo650076, .int p650077]) := e651031
          have hfr651037 : rFr [q650062] P650060 F650061 F651030 := rFr_put' List.mem_cons_self hfr651029 n651032
          clear he651025 he651026 he651027 he651028 hfr651029
          refine G_aload_n 2 dr_cX14_symbol_195 rfl ?_
          refine G_dup dr_cX14_symbol_196 rfl ?_
          refine Gp_get 2 hm650669 he651036 dr_cX14_symbol_197 (gk_X14 D I) (Nat.le_of_ble_eq_true rfl) wr_9_34 rfl ?_
          refine G_iload_n 0 dr_cX14_symbol_200 rfl ?_
          refine G_if_eq 208 dr_cX14_symbol_201 (by decide +kernel) (fun hc => absurd hc (by decide)) (fun _ => ?_)
          refine G_iconst 2 dr_cX14_symbol_204 (by decide +kernel) ?_
          refine G_goto 209 dr_cX14_symbol_205 (by decide +kernel) ?_
          refine G_iadd dr_cX14_symbol_209 (G_nam fun z651038 hz651038 => ?_)
          have ez651038 : z651038.toInt = p650066.toInt + 2 := by rw [gI_add hz651038 bp650066 (gBl (show Int32.toInt 2 = 2 by decide)) (by decide) (by decide), show Int32.toInt 2 = 2 from by decide]
          have bz651038 : gB z651038 2 8194 := gB_add (gI_add hz651038 bp650066 (gBl (show Int32.toInt 2 = 2 by decide)) (by decide) (by decide)) bp650066 (gBl (show Int32.toInt 2 = 2 by decide)) (by decide) (by decide)
          refine Gp_put 2 hm650669 he651036 dr_cX14_symbol_210 (gk_X14 D I) (Nat.le_of_ble_eq_true rfl) wr_9_34 rfl rfl rfl (Nat.le_of_ble_eq_true rfl) (fun F651039 e651040 n651041 => ?_)
          have he651042 : F651039 q650063 = .inl (I .byte, 8192, .inl f650078) := (n651041 q650063 (rn_ao he651033 he651036)).trans he651033
          have he651043 : F651039 q650500 = .inr (0, [.ref q650501, .int 0, .int 0, .int 0]) := (n651041 q650500 (fun h => hq650522 (h ▸ hmq650062))).trans he651034
          have he651044 : F651039 q650501 = .inl (I .byte, n650502, .inl f650503) := (n651041 q650501 (fun h => hq650523 (h ▸ hmq650062))).trans he651035
          have he651045 : F651039 q650062 = .inr (19, [.ref q650063, .int p650065, .int z651038, .int 5, .int p650068, .int p650069, .int p650070, .ref q650500, .int p650072, .int p650073, .int p650074, .ref qo650075, .ref qo650076, .int p650077]) := e651040
          have hfr651046 : rFr [q650062] P650060 F650061 F651039 := rFr_put' List.mem_cons_self hfr651037 n651041
          exact G_vretA dr_cX14_symbol_213 rfl (show 8 ≤ ((16 * (p650065.toInt - p650066.toInt)).toNat) by omega) (show 20 + (o650484.toInt.toNat + 4) + 0 + 4 + 16 + 0 + 0 + 0 + (o650631.toInt.toNat + 4) + 0 ≤ ((160 * (p650065.toInt - p650066.toInt)).toNat) by omega) ⟨P650657, F651039, z651038, 5, q650500, rfl, rfl, hsb650677, hfr651046, he651045, he651042, (by omega), (by omega), ⟨by omega, by omega⟩, (gB_w (gBl (show Int32.toInt 5 = 5 by decide)) (by decide) (by decide)), (by have qa0 : Int32.toInt 0 = 0 := (by decide); have qa1 : Int32.toInt 1 = 1 := (by decide); have qa2 : Int32.toInt 5 = 5 := (by decide); omega), (by have qa0 : Int32.toInt 0 = 0 := (by decide); have qa1 : Int32.toInt 1 = 1 := (by decide); have qa2 : Int32.toInt 5 = 5 := (by decide); omega), (tP_5 hm650671 he651043 hm650672 he651044 bf650503 (by omega) (gB_w (gBl (show Int32.toInt 0 = 0 by decide)) (by decide) (by decide)) (fun e => hq650523 (e ▸ x650081)) (fun e => hq650523 (e ▸ x650082))), (vP_no (by decide) (by decide))⟩
