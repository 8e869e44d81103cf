theorem dr_cX14_symbol_73 : decode cX14_symbol 73 = .ok (.ldc 9, 2) := by decide +kernel
theorem dr_cX14_symbol_75 : decode cX14_symbol 75 = .ok (.astore_n 2, 1) := by decide +kernel
theorem dr_cX14_symbol_76 : decode cX14_symbol 76 = .ok (.aload_n 2, 1) := by decide +kernel
theorem dr_cX14_symbol_77 : decode cX14_symbol 77 = .ok (.invokevirtual 113, 3) := by decide +kernel
theorem wr_8_227 : (Jvm.Cond.methodLink "SpillForgeModel$Reader" (113 : Nat) ({ cls := "java/lang/String", name := "length", desc := "()I" } : Jvm.MethodName)) ∈ gw := gw_8 227 rfl rfl
theorem dr_cX14_symbol_80 : decode cX14_symbol 80 = .ok (.iconst 2, 1) := by decide +kernel
theorem dr_cX14_symbol_81 : decode cX14_symbol 81 = .ok (.if_icmp .ne 39, 3) := by decide +kernel
theorem dr_cX14_symbol_120 : decode cX14_symbol 120 = .ok (.iconst 0, 1) := by decide +kernel
theorem dr_cX14_symbol_121 : decode cX14_symbol 121 = .ok (.istore_n 3, 1) := by decide +kernel
theorem dr_cX14_symbol_122 : decode cX14_symbol 122 = .ok (.aload_n 0, 1) := by decide +kernel
theorem dr_cX14_symbol_123 : decode cX14_symbol 123 = .ok (.iload_n 3, 1) := by decide +kernel
theorem dr_cX14_symbol_124 : decode cX14_symbol 124 = .ok (.ifCond .ne 19, 3) := by decide +kernel
theorem dr_cX14_symbol_127 : decode cX14_symbol 127 = .ok (.iload_n 1, 1) := by decide +kernel
theorem dr_cX14_symbol_128 : decode cX14_symbol 128 = .ok (.bipush 32, 2) := by decide +kernel
theorem dr_cX14_symbol_130 : decode cX14_symbol 130 = .ok (.if_icmp .le 17, 3) := by decide +kernel
theorem dr_cX14_symbol_147 : decode cX14_symbol 147 = .ok (.bipush 6, 2) := by decide +kernel
theorem dr_cX14_symbol_149 : decode cX14_symbol 149 = .ok (.putfield 38, 3) := by decide +kernel
theorem dr_cX14_symbol_152 : decode cX14_symbol 152 = .ok (.aload_n 0, 1) := by decide +kernel
theorem dr_cX14_symbol_153 : decode cX14_symbol 153 = .ok (.iload_n 3, 1) := by decide +kernel
theorem dr_cX14_symbol_154 : decode cX14_symbol 154 = .ok (.ifCond .eq 7, 3) := by decide +kernel
theorem dr_cX14_symbol_161 : decode cX14_symbol 161 = .ok (.iload_n 1, 1) := by decide +kernel
theorem dr_cX14_symbol_162 : decode cX14_symbol 162 = .ok (.bipush 32, 2) := by decide +kernel
theorem dr_cX14_symbol_164 : decode cX14_symbol 164 = .ok (.if_icmp .le 26, 3) := by decide +kernel
theorem dr_cX14_symbol_190 : decode cX14_symbol 190 = .ok (.ldc 9, 2) := by decide +kernel
theorem dr_cX14_symbol_192 : decode cX14_symbol 192 = .ok (.putfield 11, 3) := by decide +kernel
theorem wr_9_43 : (Jvm.Cond.fieldLink "SpillForgeModel$Reader" (11 : Nat) "SpillForgeModel$Reader" "text" "Ljava/lang/String;") ∈ gw := gw_9 43 rfl rfl
theorem dr_cX14_symbol_195 : decode cX14_symbol 195 = .ok (.aload_n 0, 1) := by decide +kernel
theorem dr_cX14_symbol_196 : decode cX14_symbol 196 = .ok (.dup, 1) := by decide +kernel
theorem dr_cX14_symbol_197 : decode cX14_symbol 197 = .ok (.getfield 44, 3) := by decide +kernel
theorem dr_cX14_symbol_200 : decode cX14_symbol 200 = .ok (.iload_n 3, 1) := by decide +kernel
theorem dr_cX14_symbol_201 : decode cX14_symbol 201 = .ok (.ifCond .eq 7, 3) := by decide +kernel
theorem dr_cX14_symbol_208 : decode cX14_symbol 208 = .ok (.iconst 1, 1) := by decide +kernel
theorem dr_cX14_symbol_209 : decode cX14_symbol 209 = .ok (.iadd, 1) := by decide +kernel
theorem dr_cX14_symbol_210 : decode cX14_symbol 210 = .ok (.putfield 44, 3) := by decide +kernel
theorem dr_cX14_symbol_213 : decode cX14_symbol 213 = .ok (.return_, 1) := by decide +kernel
theorem dr_cX14_symbol_133 : decode cX14_symbol 133 = .ok (.ldc 119, 2) := by decide +kernel
theorem dr_cX14_symbol_135 : decode cX14_symbol 135 = .ok (.iload_n 1, 1) := by decide +kernel
theorem dr_cX14_symbol_136 : decode cX14_symbol 136 = .ok (.i2c, 1) := by decide +kernel
theorem dr_cX14_symbol_137 : decode cX14_symbol 137 = .ok (.invokevirtual 121, 3) := by decide +kernel
theorem wr_8_230 : (Jvm.Cond.methodLink "SpillForgeModel$Reader" (121 : Nat) ({ cls := "java/lang/String", name := "indexOf", desc := "(I)I" } : Jvm.MethodName)) ∈ gw := gw_8 230 rfl rfl
theorem wr_8_233 : (Jvm.Cond.code ({ cls := "java/lang/String", name := "indexOf", desc := "(I)I" } : Jvm.MethodName) prog_34_method_79_code (2 : Nat) (Option.some Jvm.ClassFile.FieldType.int)) ∈ gw := gw_8 233 rfl rfl
theorem wr_8_231 : (Jvm.Cond.instanceMethod ({ cls := "java/lang/String", name := "indexOf", desc := "(I)I" } : Jvm.MethodName)) ∈ gw := gw_8 231 rfl rfl
theorem wr_8_232 : (Jvm.Cond.selects "java/lang/String" ({ cls := "java/lang/String", name := "indexOf", desc := "(I)I" } : Jvm.MethodName) ({ cls := "java/lang/String", name := "indexOf", desc := "(I)I" } : Jvm.MethodName)) ∈ gw := gw_8 232 rfl rfl
theorem dr_cX14_symbol_140 : decode cX14_symbol 140 = .ok (.ifCond .lt 7, 3) := by decide +kernel
theorem dr_cX14_symbol_167 : decode cX14_symbol 167 = .ok (.new 87, 3) := by decide +kernel
theorem wr_7_235 : (Jvm.Cond.classLink "SpillForgeModel$Reader" (87 : Nat) "java/lang/StringBuilder") ∈ gw := gw_7 235 rfl rfl
theorem dr_cX14_symbol_170 : decode cX14_symbol 170 = .ok (.dup, 1) := by decide +kernel
theorem dr_cX14_symbol_171 : decode cX14_symbol 171 = .ok (.invokespecial 89, 3) := by decide +kernel
theorem wr_7_236 : (Jvm.Cond.methodLink "SpillForgeModel$Reader" (89 : Nat) ({ cls := "java/lang/StringBuilder", name := "<init>", desc := "()V" } : Jvm.MethodName)) ∈ gw := gw_7 236 rfl rfl
theorem wr_7_47 : (Jvm.Cond.code ({ cls := "java/lang/StringBuilder", name := "<init>", desc := "()V" } : Jvm.MethodName) prog_35_method_1_code (1 : Nat) (Option.none : Option Jvm.ClassFile.FieldType)) ∈ gw := gw_7 47 rfl rfl
theorem wr_7_46 : (Jvm.Cond.instanceMethod ({ cls := "java/lang/StringBuilder", name := "<init>", desc := "()V" } : Jvm.MethodName)) ∈ gw := gw_7 46 rfl rfl
theorem dr_cX14_symbol_174 : decode cX14_symbol 174 = .ok (.ldc 9, 2) := by decide +kernel
theorem dr_cX14_symbol_176 : decode cX14_symbol 176 = .ok (.invokevirtual 102, 3) := by decide +kernel
theorem wr_8_195 : (Jvm.Cond.methodLink "SpillForgeModel$Reader" (102 : Nat) ({ cls := "java/lang/StringBuilder", name := "append", desc := "(Ljava/lang/String;)Ljava/lang/StringBuilder;" } : Jvm.MethodName)) ∈ gw := gw_8 195 rfl rfl
theorem wr_8_143 : (Jvm.Cond.code ({ cls := "java/lang/StringBuilder", name := "append", desc := "(Ljava/lang/String;)Ljava/lang/StringBuilder;" } : Jvm.MethodName) prog_35_method_7_code (2 : Nat) (Option.some (Jvm.ClassFile.FieldType.object "java/lang/StringBuilder"))) ∈ gw := gw_8 143 rfl rfl
theorem wr_8_141 : (Jvm.Cond.instanceMethod ({ cls := "java/lang/StringBuilder", name := "append", desc := "(Ljava/lang/String;)Ljava/lang/StringBuilder;" } : Jvm.MethodName)) ∈ gw := gw_8 141 rfl rfl
theorem wr_8_142 : (Jvm.Cond.selects "java/lang/StringBuilder" ({ cls := "java/lang/StringBuilder", name := "append", desc := "(Ljava/lang/String;)Ljava/lang/StringBuilder;" } : Jvm.MethodName) ({ cls := "java/lang/StringBuilder", name := "append", desc := "(Ljava/lang/String;)Ljava/lang/StringBuilder;" } : Jvm.MethodName)) ∈ gw := gw_8 142 rfl rfl
theorem dr_cX14_symbol_179 : decode cX14_symbol 179 = .ok (.iload_n 1, 1) := by decide +kernel
theorem dr_cX14_symbol_180 : decode cX14_symbol 180 = .ok (.i2c, 1) := by decide +kernel
theorem dr_cX14_symbol_181 : decode cX14_symbol 181 = .ok (.invokevirtual 90, 3) := by decide +kernel
theorem wr_7_237 : (Jvm.Cond.methodLink "SpillForgeModel$Reader" (90 : Nat) ({ cls := "java/lang/StringBuilder", name := "append", desc := "(C)Ljava/lang/StringBuilder;" } : Jvm.MethodName)) ∈ gw := gw_7 237 rfl rfl
theorem wr_8_0 : (Jvm.Cond.code ({ cls := "java/lang/StringBuilder", name := "append", desc := "(C)Ljava/lang/StringBuilder;" } : Jvm.MethodName) prog_35_method_14_code (2 : Nat) (Option.some (Jvm.ClassFile.FieldType.object "java/lang/StringBuilder"))) ∈ gw := gw_8 0 rfl rfl
theorem wr_7_238 : (Jvm.Cond.instanceMethod ({ cls := "java/lang/StringBuilder", name := "append", desc := "(C)Ljava/lang/StringBuilder;" } : Jvm.MethodName)) ∈ gw := gw_7 238 rfl rfl
theorem wr_7_239 : (Jvm.Cond.selects "java/lang/StringBuilder" ({ cls := "java/lang/StringBuilder", name := "append", desc := "(C)Ljava/lang/StringBuilder;" } : Jvm.MethodName) ({ cls := "java/lang/StringBuilder", name := "append", desc := "(C)Ljava/lang/StringBuilder;" } : Jvm.MethodName)) ∈ gw := gw_7 239 rfl rfl
theorem dr_cX14_symbol_184 : decode cX14_symbol 184 = .ok (.invokevirtual 94, 3) := by decide +kernel
theorem wr_8_66 : (Jvm.Cond.methodLink "SpillForgeModel$Reader" (94 : Nat) ({ cls := "java/lang/StringBuilder", name := "toString", desc := "()Ljava/lang/String;" } : Jvm.MethodName)) ∈ gw := gw_8 66 rfl rfl
theorem wr_8_69 : (Jvm.Cond.code ({ cls := "java/lang/StringBuilder", name := "toString", desc := "()Ljava/lang/String;" } : Jvm.MethodName) prog_35_method_42_code (1 : Nat) (Option.some (Jvm.ClassFile.FieldType.object "java/lang/String"))) ∈ gw := gw_8 69 rfl rfl
theorem wr_8_67 : (Jvm.Cond.instanceMethod ({ cls := "java/lang/StringBuilder", name := "toString", desc := "()Ljava/lang/String;" } : Jvm.MethodName)) ∈ gw := gw_8 67 rfl rfl
theorem wr_8_68 : (Jvm.Cond.selects "java/lang/StringBuilder" ({ cls := "java/lang/StringBuilder", name := "toString", desc := "()Ljava/lang/String;" } : Jvm.MethodName) ({ cls := "java/lang/StringBuilder", name := "toString", desc := "()Ljava/lang/String;" } : Jvm.MethodName)) ∈ gw := gw_8 68 rfl rfl
theorem dr_cX14_symbol_187 : decode cX14_symbol 187 = .ok (.goto 5, 3) := by decide +kernel
theorem dr_cX14_symbol_143 : decode cX14_symbol 143 = .ok (.iconst 5, 1) := by decide +kernel
theorem dr_cX14_symbol_144 : decode cX14_symbol 144 = .ok (.goto 5, 3) := by decide +kernel
theorem dr_cX14_symbol_0 : decode cX14_symbol 0 = .ok (.aload_n 0, 1) := by decide +kernel
theorem dr_cX14_symbol_1 : decode cX14_symbol 1 = .ok (.getfield 44, 3) := by decide +kernel
theorem dr_cX14_symbol_4 : decode cX14_symbol 4 = .ok (.iconst 1, 1) := by decide +kernel
theorem dr_cX14_symbol_5 : decode cX14_symbol 5 = .ok (.iadd, 1) := by decide +kernel
theorem dr_cX14_symbol_6 : decode cX14_symbol 6 = .ok (.aload_n 0, 1) := by decide +kernel
theorem dr_cX14_symbol_7 : decode cX14_symbol 7 = .ok (.getfield 32, 3) := by decide +kernel
theorem dr_cX14_symbol_10 : decode cX14_symbol 10 = .ok (.if_icmp .ge 63, 3) := by decide +kernel
theorem dr_cX14_symbol_13 : decode cX14_symbol 13 = .ok (.aload_n 0, 1) := by decide +kernel
theorem dr_cX14_symbol_14 : decode cX14_symbol 14 = .ok (.getfield 28, 3) := by decide +kernel
theorem dr_cX14_symbol_17 : decode cX14_symbol 17 = .ok (.aload_n 0, 1) := by decide +kernel
theorem dr_cX14_symbol_18 : decode cX14_symbol 18 = .ok (.getfield 44, 3) := by decide +kernel
theorem dr_cX14_symbol_21 : decode cX14_symbol 21 = .ok (.iconst 1, 1) := by decide +kernel
theorem dr_cX14_symbol_22 : decode cX14_symbol 22 = .ok (.iadd, 1) := by decide +kernel
theorem dr_cX14_symbol_23 : decode cX14_symbol 23 = .ok (.baload, 1) := by decide +kernel
theorem dr_cX14_symbol_24 : decode cX14_symbol 24 = .ok (.bipush 32, 2) := by decide +kernel
theorem dr_cX14_symbol_26 : decode cX14_symbol 26 = .ok (.if_icmp .le 47, 3) := by decide +kernel
theorem dr_cX14_symbol_29 : decode cX14_symbol 29 = .ok (.iload_n 1, 1) := by decide +kernel
theorem dr_cX14_symbol_30 : decode cX14_symbol 30 = .ok (.bipush 32, 2) := by decide +kernel
theorem dr_cX14_symbol_32 : decode cX14_symbol 32 = .ok (.if_icmp .le 41, 3) := by decide +kernel
theorem dr_cX14_symbol_35 : decode cX14_symbol 35 = .ok (.new 87, 3) := by decide +kernel
theorem dr_cX14_symbol_38 : decode cX14_symbol 38 = .ok (.dup, 1) := by decide +kernel
theorem dr_cX14_symbol_39 : decode cX14_symbol 39 = .ok (.invokespecial 89, 3) := by decide +kernel
theorem dr_cX14_symbol_42 : decode cX14_symbol 42 = .ok (.ldc 9, 2) := by decide +kernel
theorem dr_cX14_symbol_44 : decode cX14_symbol 44 = .ok (.invokevirtual 102, 3) := by decide +kernel
theorem dr_cX14_symbol_47 : decode cX14_symbol 47 = .ok (.iload_n 1, 1) := by decide +kernel
theorem dr_cX14_symbol_48 : decode cX14_symbol 48 = .ok (.i2c, 1) := by decide +kernel
theorem dr_cX14_symbol_49 : decode cX14_symbol 49 = .ok (.invokevirtual 90, 3) := by decide +kernel
theorem dr_cX14_symbol_52 : decode cX14_symbol 52 = .ok (.aload_n 0, 1) := by decide +kernel
theorem dr_cX14_symbol_53 : decode cX14_symbol 53 = .ok (.getfield 28, 3) := by decide +kernel
theorem dr_cX14_symbol_56 : decode cX14_symbol 56 = .ok (.aload_n 0, 1) := by decide +kernel
theorem dr_cX14_symbol_57 : decode cX14_symbol 57 = .ok (.getfield 44, 3) := by decide +kernel
theorem dr_cX14_symbol_60 : decode cX14_symbol 60 = .ok (.iconst 1, 1) := by decide +kernel
theorem dr_cX14_symbol_61 : decode cX14_symbol 61 = .ok (.iadd, 1) := by decide +kernel
theorem dr_cX14_symbol_62 : decode cX14_symbol 62 = .ok (.baload, 1) := by decide +kernel
theorem dr_cX14_symbol_63 : decode cX14_symbol 63 = .ok (.i2c, 1) := by decide +kernel
theorem dr_cX14_symbol_64 : decode cX14_symbol 64 = .ok (.invokevirtual 90, 3) := by decide +kernel
theorem dr_cX14_symbol_67 : decode cX14_symbol 67 = .ok (.invokevirtual 94, 3) := by decide +kernel
theorem dr_cX14_symbol_70 : decode cX14_symbol 70 = .ok (.goto 5, 3) := by decide +kernel
theorem dr_cX14_symbol_84 : decode cX14_symbol 84 = .ok (.ldc 117, 2) := by decide +kernel
theorem dr_cX14_symbol_86 : decode cX14_symbol 86 = .ok (.new 87, 3) := by decide +kernel
theorem dr_cX14_symbol_89 : decode cX14_symbol 89 = .ok (.dup, 1) := by decide +kernel
theorem dr_cX14_symbol_90 : decode cX14_symbol 90 = .ok (.invokespecial 89, 3) := by decide +kernel
theorem dr_cX14_symbol_93 : decode cX14_symbol 93 = .ok (.ldc 100, 2) := by decide +kernel
theorem dr_cX14_symbol_95 : decode cX14_symbol 95 = .ok (.invokevirtual 102, 3) := by decide +kernel
theorem dr_cX14_symbol_98 : decode cX14_symbol 98 = .ok (.aload_n 2, 1) := by decide +kernel
theorem dr_cX14_symbol_99 : decode cX14_symbol 99 = .ok (.invokevirtual 102, 3) := by decide +kernel
theorem dr_cX14_symbol_102 : decode cX14_symbol 102 = .ok (.ldc 100, 2) := by decide +kernel
theorem dr_cX14_symbol_104 : decode cX14_symbol 104 = .ok (.invokevirtual 102, 3) := by decide +kernel
theorem dr_cX14_symbol_107 : decode cX14_symbol 107 = .ok (.invokevirtual 94, 3) := by decide +kernel
theorem dr_cX14_symbol_110 : decode cX14_symbol 110 = .ok (.invokevirtual 105, 3) := by decide +kernel
theorem wr_8_196 : (Jvm.Cond.methodLink "SpillForgeModel$Reader" (105 : Nat) ({ cls := "java/lang/String", name := "indexOf", desc := "(Ljava/lang/String;)I" } : Jvm.MethodName)) ∈ gw := gw_8 196 rfl rfl
theorem wr_8_199 : (Jvm.Cond.code ({ cls := "java/lang/String", name := "indexOf", desc := "(Ljava/lang/String;)I" } : Jvm.MethodName) prog_34_method_84_code (3 : Nat) (Option.some Jvm.ClassFile.FieldType.int)) ∈ gw := gw_8 199 rfl rfl
theorem wr_8_197 : (Jvm.Cond.instanceMethod ({ cls := "java/lang/String", name := "indexOf", desc := "(Ljava/lang/String;)I" } : Jvm.MethodName)) ∈ gw := gw_8 197 rfl rfl
theorem wr_8_198 : (Jvm.Cond.selects "java/lang/String" ({ cls := "java/lang/String", name := "indexOf", desc := "(Ljava/lang/String;)I" } : Jvm.MethodName) ({ cls := "java/lang/String", name := "indexOf", desc := "(Ljava/lang/String;)I" } : Jvm.MethodName)) ∈ gw := gw_8 198 rfl rfl
theorem dr_cX14_symbol_113 : decode cX14_symbol 113 = .ok (.ifCond .lt 7, 3) := by decide +kernel
theorem dr_cX14_symbol_116 : decode cX14_symbol 116 = .ok (.iconst 1, 1) := by decide +kernel
theorem dr_cX14_symbol_117 : decode cX14_symbol 117 = .ok (.goto 4, 3) := by decide +kernel
theorem dr_cX14_symbol_157 : decode cX14_symbol 157 = .ok (.aload_n 2, 1) := by decide +kernel
theorem dr_cX14_symbol_158 : decode cX14_symbol 158 = .ok (.goto 34, 3) := by decide +kernel
theorem dr_cX14_symbol_204 : decode cX14_symbol 204 = .ok (.iconst 2, 1) := by decide +kernel
theorem dr_cX14_symbol_205 : decode cX14_symbol 205 = .ok (.goto 4, 3) := by decide +kernel
abbrev ky_650191_Reader_symbol : gKey := (cX14_symbol, 4, "SpillForgeModel$Reader", none, [], "symbol", fun _ _ => True)
def pp_650191_Reader_symbol (D : va_G) (I : FieldType → ClassId) (P650168 : List Nat) (F650169 : Nat → va_E) (q650170 : Nat) (q650171 : Nat) (p650172 : Int32) (p650173 : Int32) (p650174 : Int32) (p650175 : Int32) (p650176 : Int32) (p650177 : Int32) (p650178 : Int32) (qo650179 : Nat) (p650180 : Int32) (p650181 : Int32) (p650182 : Int32) (qo650183 : Nat) (qo650184 : Nat) (p650185 : Int32) (f650186 : Nat → Int32) : Option Value → va_W → Nat → Nat → Prop := fun r w dc ds => ∃ (P651158 : List Nat) (F651159 : Nat → va_E) (o651155 : Int32) (o651156 : Int32) (q651157 : Nat), r = none ∧ w = va_pl P651158 F651159 ∧ rSub P650168 P651158 ∧ rFr [q650170] P650168 F650169 F651159 ∧ F651159 q650170 = .inr (19, [.ref q650171, .int p650173, .int o651155, .int o651156, .int p650176, .int p650177, .int p650178, .ref q651157, .int p650180, .int p650181, .int p650182, .ref qo650183, .ref qo650184, .int p650185]) ∧ F651159 q650171 = .inl (I .byte, 8192, .inl f650186) ∧ dc ≤ (16 * (o651155.toInt - p650174.toInt)).toNat ∧ ds ≤ (160 * (o651155.toInt - p650174.toInt)).toNat ∧ gB o651155 1 8192 ∧ gB o651156 5 6 ∧ p650174.toInt < o651155.toInt ∧ o651155.toInt ≤ p650173.toInt ∧ tP I P651158 F651159 o651156 q651157 qo650184 qo650183 ∧ vP o651156 p650177
set_option maxRecDepth 100000 in
set_option maxHeartbeats 4000000 in
theorem cp_650191_Reader_symbol (l : Launch) (hl0 : l.stackTraces = false) (D : va_G) (I : FieldType → ClassId) (P650168 : List Nat) (F650169 : Nat → va_E) (q650170 : Nat) (q650171 : Nat) (p650172 : Int32) (p650173 : Int32) (p650174 : Int32) (p650175 : Int32) (p650176 : Int32) (p650177 : Int32) (p650178 : Int32) (qo650179 : Nat) (p650180 : Int32) (p650181 : Int32) (p650182 : Int32) (qo650183 : Nat) (qo650184 : Nat) (p650185 : Int32) (f650186 : Nat → Int32) (hmq650170 : q650170 ∈ P650168) (hmq650171 : q650171 ∈ P650168) (heq650170 : F650169 q650170 = .inr (19, [.ref q650171, .int p650173, .int p650174, .int p650175, .int p650176, .int p650177, .int p650178, .ref qo650179, .int p650180, .int p650181, .int p650182, .ref qo650183, .ref qo650184, .int p650185])) (heq650171 : F650169 q650171 = .inl (I .byte, 8192, .inl f650186)) (bp650172 : gB p650172 (-128) 127) (bp650173 : gB p650173 0 8192) (bp650174 : gB p650174 0 8192) (bp650175 : gB p650175 0 6) (bp650176 : gB p650176 0 8192) (bp650178 : gB p650178 0 6) (bp650180 : gB p650180 (-1) 8192) (bp650181 : gB p650181 0 4) (bp650182 : gB p650182 0 1000000) (bp650185 : gB p650185 0 1000000) (bf650186 : gF f650186 (-128) 127) (x650187 : p650174.toInt ≤ p650173.toInt) (x650188 : p650174.toInt < p650173.toInt) (x650189 : qo650184 ∈ P650168) (x650190 : qo650183 ∈ P650168) : CtA (gV D I) l yX14_symbol cX14_symbol 4 none 6 132 ((16 * (p650173.toInt - p650174.toInt)).toNat) ((160 * (p650173.toInt - p650174.toInt)).toNat) [.ref q650170, .int p650172] (va_pl P650168 F650169) (pp_650191_Reader_symbol D I P650168 F650169 q650170 q650171 p650172 p650173 p650174 p650175 p650176 p650177 p650178 qo650179 p650180 p650181 p650182 qo650183 qo650184 p650185 f650186) gNA := by
  refine CtA_of hl0 (by decide) (Nat.le_of_ble_eq_true rfl) ?_
  have bp650177 := gB_any p650177
  have hMC : 16 ≤ ((16 * (p650173.toInt - p650174.toInt)).toNat) := by omega
  have hMS : 160 ≤ ((160 * (p650173.toInt - p650174.toInt)).toNat) := by omega
  have jn650192 : G (gV D I) l (gRm 6 132 ((16 * (p650173.toInt - p650174.toInt)).toNat) ((160 * (p650173.toInt - p650174.toInt)).toNat)) (gMA (gV D I) (pp_650191_Reader_symbol D I P650168 F650169 q650170 q650171 p650172 p650173 p650174 p650175 p650176 p650177 p650178 qo650179 p650180 p650181 p650182 qo650183 qo650184 p650185 f650186) gNA ((16 * (p650173.toInt - p650174.toInt)).toNat) ((160 * (p650173.toInt - p650174.toInt)).toNat)) ky_650191_Reader_symbol 73 [(0, .ref q650170), (1, .int p650172)] [] (va_pl P650168 F650169) 0 0 := by
    refine G_ldcK (a := D.2 1000 32) dr_cX14_symbol_73 (fun _ _ _ h => gx_vk 32 rfl rfl h) ?_
    have hl32_650192 : (sb_32.length : Int) = 0 := rfl
    refine G_astore_n (L' := [(2, .ref (D.2 1000 32)), (0, .ref q650170), (1, .int p650172)]) dr_cX14_symbol_75 (Nat.le_of_ble_eq_true rfl) rfl ?_
    refine G_aload_n 0 dr_cX14_symbol_76 rfl ?_
    refine Gw_callVk (As := []) (gV_ok D I) (cp_640842_String_length l hl0 D I P650168 F650169 (D.2 1000 32) (D.2 1001 32) sb_32 (gx_sc 32 rfl rfl) (by omega) (by decide +kernel)) dr_cX14_symbol_77 ⟨wr_8_227, wr_1_21, wr_3_60, by decide, rfl, (Nat.le_of_ble_eq_true rfl), (Nat.le_of_ble_eq_true rfl)⟩ wr_3_58 wr_3_59 (fun _ _ _ h => ((gx_sc 32 rfl rfl) _ _ _ h).1) (Nat.le_trans (show 0 + 0 ≤ 16 by decide) hMC) (Nat.le_trans (show 0 + 0 ≤ 160 by decide) hMS) (Nat.le_of_ble_eq_true rfl) (fun r650197 w650198 dc650194 ds650195 hp650196 => ?_) (fun _ _ _ _ _ z => z.elim)
    obtain ⟨o650199, rfl, rfl, hdc, hds, bo650199, x650200⟩ := hp650196
    have bo650199' : gB o650199 0 0 := ⟨by omega, by omega⟩
    change G _ _ _ _ _ _ _ (.int o650199 :: _) _ _ _
    refine G_widen (cs' := 0) (sl' := 0) (Nat.add_le_add_left hdc 0) (Nat.add_le_add_left hds 0) ?_
    refine G_iconst 2 dr_cX14_symbol_80 (by decide +kernel) ?_
    refine G_icmp_ne 120 dr_cX14_symbol_81 (by decide +kernel) (fun _ => ?_) (fun hc => absurd (show False by have := gj_eq hc (show Int32.toInt 2 = 2 by decide); omega) not_false)
    refine G_iconst 0 dr_cX14_symbol_120 (by decide +kernel) ?_
    refine G_istore_n (L' := [(3, .int 0), (2, .ref (D.2 1000 32)), (0, .ref q650170), (1, .int p650172)]) dr_cX14_symbol_121 (Nat.le_of_ble_eq_true rfl) rfl ?_
    clear bo650199 bo650199'; try clear r650197; try clear w650198; try clear dc650194; try clear ds650195; try clear hp650196; try clear x650200
    refine G_aload_n 2 dr_cX14_symbol_122 rfl ?_
    refine G_iload_n 0 dr_cX14_symbol_123 rfl ?_
    refine G_if_ne 143 dr_cX14_symbol_124 (by decide +kernel) (fun hc => absurd hc (by decide)) (fun _ => ?_)
    refine G_iload_n 3 dr_cX14_symbol_127 rfl ?_
    refine G_bipush 32 dr_cX14_symbol_128 (by decide +kernel) ?_
    refine G_icmp_le 147 dr_cX14_symbol_130 (by decide +kernel) (fun hc650201 => ?_) (fun hc650201 => ?_)
    · have r650202 : p650172.toInt ≤ 32 := gj_le hc650201 (show Int32.toInt 32 = 32 by decide)
      have bp650172' : gB p650172 (-128) 32 := ⟨by omega, by omega⟩
      refine G_bipush 6 dr_cX14_symbol_147 (by decide +kernel) ?_
      refine Gp_put 3 hmq650170 heq650170 dr_cX14_symbol_149 (gk_X14 D I) (Nat.le_of_ble_eq_true rfl) wr_9_39 rfl rfl rfl (Nat.le_of_ble_eq_true rfl) (fun F650203 e650204 n650205 => ?_)
      have he650206 : F650203 q650171 = .inl (I .byte, 8192, .inl f650186) := (n650205 q650171 (rn_ao heq650171 heq650170)).trans heq650171
      have he650207 : F650203 q650170 = .inr (19, [.ref q650171, .int p650173, .int p650174, .int 6, .int p650176, .int p650177, .int p650178, .ref qo650179, .int p650180, .int p650181, .int p650182, .ref qo650183, .ref qo650184, .int p650185]) := e650204
      have hfr650208 : rFr [q650170] P650168 F650169 F650203 := rFr_put (rFr_rf (W := []) (P := P650168) (F := F650169)) n650205
      refine G_aload_n 2 dr_cX14_symbol_152 rfl ?_
      refine G_iload_n 0 dr_cX14_symbol_153 rfl ?_
      refine G_if_eq 161 dr_cX14_symbol_154 (by decide +kernel) (fun _ => ?_) (fun hc => absurd hc (by decide))
      refine G_iload_n 3 dr_cX14_symbol_161 rfl ?_
      refine G_bipush 32 dr_cX14_symbol_162 (by decide +kernel) ?_
      refine G_icmp_le 190 dr_cX14_symbol_164 (by decide +kernel) (fun _ => ?_) (fun hc => absurd (show False by have := gj_nle hc (show Int32.toInt 32 = 32 by decide); omega) not_false)
      refine G_ldcK (a := D.2 1000 32) dr_cX14_symbol_190 (fun _ _ _ h => gx_vk 32 rfl rfl h) ?_
      have hl32_650208 : (sb_32.length : Int) = 0 := rfl
      refine Gp_put 7 hmq650170 he650207 dr_cX14_symbol_192 (gk_X14 D I) (Nat.le_of_ble_eq_true rfl) wr_9_43 rfl rfl rfl (Nat.le_of_ble_eq_true rfl) (fun F650210 e650211 n650212 => ?_)
      have he650213 : F650210 q650171 = .inl (I .byte, 8192, .inl f650186) := (n650212 q650171 (rn_ao he650206 he650207)).trans he650206
      have he650214 : F650210 q650170 = .inr (19, [.ref q650171, .int p650173, .int p650174, .int 6, .int p650176, .int p650177, .int p650178, .ref (D.2 1000 32), .int p650180, .int p650181, .int p650182, .ref qo650183, .ref qo650184, .int p650185]) := e650211
      have hfr650215 : rFr [q650170] P650168 F650169 F650210 := rFr_put' List.mem_cons_self hfr650208 n650212
      clear he650206 he650207 hfr650208
      refine G_aload_n 2 dr_cX14_symbol_195 rfl ?_
      refine G_dup dr_cX14_symbol_196 rfl ?_
      refine Gp_get 2 hmq650170 he650214 dr_cX14_symbol_197 (gk_X14 D I) (Nat.le_of_ble_eq_true rfl) wr_9_38 rfl ?_
      refine G_iload_n 0 dr_cX14_symbol_200 rfl ?_
      refine G_if_eq 208 dr_cX14_symbol_201 (by decide +kernel) (fun _ => ?_) (fun hc => absurd hc (by decide))
      refine G_iconst 1 dr_cX14_symbol_208 (by decide +kernel) ?_
      refine G_iadd dr_cX14_symbol_209 (G_nam fun z650216 hz650216 => ?_)
      have ez650216 : z650216.toInt = p650174.toInt + 1 := by rw [gI_add hz650216 bp650174 (gBl (show Int32.toInt 1 = 1 by decide)) (by decide) (by decide), show Int32.toInt 1 = 1 from by decide]
      have bz650216 : gB z650216 1 8193 := gB_add (gI_add hz650216 bp650174 (gBl (show Int32.toInt 1 = 1 by decide)) (by decide) (by decide)) bp650174 (gBl (show Int32.toInt 1 = 1 by decide)) (by decide) (by decide)
      refine Gp_put 2 hmq650170 he650214 dr_cX14_symbol_210 (gk_X14 D I) (Nat.le_of_ble_eq_true rfl) wr_9_38 rfl rfl rfl (Nat.le_of_ble_eq_true rfl) (fun F650217 e650218 n650219 => ?_)
      have he650220 : F650217 q650171 = .inl (I .byte, 8192, .inl f650186) := (n650219 q650171 (rn_ao he650213 he650214)).trans he650213
      have he650221 : F650217 q650170 = .inr (19, [.ref q650171, .int p650173, .int z650216, .int 6, .int p650176, .int p650177, .int p650178, .ref (D.2 1000 32), .int p650180, .int p650181, .int p650182, .ref qo650183, .ref qo650184, .int p650185]) := e650218
      have hfr650222 : rFr [q650170] P650168 F650169 F650217 := rFr_put' List.mem_cons_self hfr650215 n650219
      exact G_vretA dr_cX14_symbol_213 rfl (show 0 ≤ ((16 * (p650173.toInt - p650174.toInt)).toNat) by omega) (show 0 ≤ ((160 * (p650173.toInt - p650174.toInt)).toNat) by omega) ⟨P650168, F650217, z650216, 6, (D.2 1000 32), rfl, rfl, (rSub_rf (P := P650168)), hfr650222, he650221, he650220, (by omega), (by omega), ⟨by omega, by omega⟩, (gB_w (gBl (show Int32.toInt 6 = 6 by decide)) (by decide) (by decide)), (by have qa0 : Int32.toInt 0 = 0 := (by decide); have qa1 : Int32.toInt 6 = 6 := (by decide); omega), (by have qa0 : Int32.toInt 0 = 0 := (by decide); have qa1 : Int32.toInt 6 = 6 := (by decide); omega), (tP_no (by decide) (by decide)), (vP_no (by decide) (by decide))⟩
    · have r650223 : 32 < p650172.toInt := gj_nle hc650201 (show Int32.toInt 32 = 32 by decide)
      have bp650172' : gB p650172 33 127 := ⟨by omega, by omega⟩
      refine G_ldcK (a := D.2 1000 37) dr_cX14_symbol_133 (fun _ _ _ h => gx_vk 37 rfl rfl h) ?_
      have hl37_650223 : (sb_37.length : Int) = 14 := rfl
      refine G_iload_n 3 dr_cX14_symbol_135 rfl ?_
      refine G_i2c dr_cX14_symbol_136 (G_nam fun z650225 hz650225 => ?_)
      have ez650225 : z650225.toInt = p650172.toInt := gI_i2c hz650225 (by omega) (by omega)
      have bz650225 : gB z650225 33 127 := ⟨by omega, by omega⟩
      refine Gw_callVk (As := [.int z650225]) (gV_ok D I) (cp_648789_String_indexOf l hl0 D I P650168 F650169 (D.2 1000 37) (D.2 1001 37) sb_37 z650225 (gx_sc 37 rfl rfl) (by omega) (by decide +kernel) (gB_w bz650225 (by decide) (by decide))) dr_cX14_symbol_137 ⟨wr_8_230, wr_1_21, wr_8_233, by decide, rfl, (Nat.le_of_ble_eq_true rfl), (Nat.le_of_ble_eq_true rfl)⟩ wr_8_231 wr_8_232 (fun _ _ _ h => ((gx_sc 37 rfl rfl) _ _ _ h).1) (Nat.le_trans (show 0 + 0 ≤ 16 by decide) hMC) (Nat.le_trans (show 0 + 0 ≤ 160 by decide) hMS) (Nat.le_of_ble_eq_true rfl) (fun r650229 w650230 dc650226 ds650227 hp650228 => ?_) (fun _ _ _ _ _ z => z.elim)
      obtain ⟨o650231, rfl, rfl, hdc, hds, bo650231⟩ := hp650228
      change G _ _ _ _ _ _ _ (.int o650231 :: _) _ _ _
      refine G_widen (cs' := 0) (sl' := 0) (Nat.add_le_add_left hdc 0) (Nat.add_le_add_left hds 0) ?_
      refine G_if_lt 147 dr_cX14_symbol_140 (by decide +kernel) (fun hc650232 => ?_) (fun hc650232 => ?_)
      · have r650233 : o650231.toInt < 0 := gj_lt hc650232 (show Int32.toInt 0 = 0 by decide)
        have bo650231' : gB o650231 (-1) (-1) := ⟨by omega, by omega⟩
        refine G_bipush 6 dr_cX14_symbol_147 (by decide +kernel) ?_
        refine Gp_put 3 hmq650170 heq650170 dr_cX14_symbol_149 (gk_X14 D I) (Nat.le_of_ble_eq_true rfl) wr_9_39 rfl rfl rfl (Nat.le_of_ble_eq_true rfl) (fun F650234 e650235 n650236 => ?_)
        have he650237 : F650234 q650171 = .inl (I .byte, 8192, .inl f650186) := (n650236 q650171 (rn_ao heq650171 heq650170)).trans heq650171
        have he650238 : F650234 q650170 = .inr (19, [.ref q650171, .int p650173, .int p650174, .int 6, .int p650176, .int p650177, .int p650178, .ref qo650179, .int p650180, .int p650181, .int p650182, .ref qo650183, .ref qo650184, .int p650185]) := e650235
        have hfr650239 : rFr [q650170] P650168 F650169 F650234 := rFr_put (rFr_rf (W := []) (P := P650168) (F := F650169)) n650236
        clear hz650225 ez650225 bz650225 bo650231 bo650231'; try clear r650229; try clear w650230; try clear dc650226; try clear ds650227; try clear hp650228; try clear r650233
        refine G_aload_n 2 dr_cX14_symbol_152 rfl ?_
        refine G_iload_n 0 dr_cX14_symbol_153 rfl ?_
        refine G_if_eq 161 dr_cX14_symbol_154 (by decide +kernel) (fun _ => ?_) (fun hc => absurd hc (by decide))
        refine G_iload_n 3 dr_cX14_symbol_161 rfl ?_
        refine G_bipush 32 dr_cX14_symbol_162 (by decide +kernel) ?_
        refine G_icmp_le 190 dr_cX14_symbol_164 (by decide +kernel) (fun hc => absurd (show False by have := gj_le hc (show Int32.toInt 32 = 32 by decide); omega) not_false) (fun _ => ?_)
        refine G_new [.null, .int 0, .int 0, .int 0] dr_cX14_symbol_167 (gk_J4 D I) wr_7_235 wr_7_44 wr_1_20 (gfs_J4) (Nat.le_trans (show 0 + 1 ≤ 16 by decide) hMC) (Nat.le_trans (show 0 + 4 ≤ 160 by decide) hMS) (fun q650240 => Gp_in (fun P650241 F650242 hq650243 hP650244 e650245 n650246 => ?_))
        refine G_widen (cs' := 1) (sl' := 4) (by omega) (by omega) ?_
        have he650247 : F650242 q650170 = .inr (19, [.ref q650171, .int p650173, .int p650174, .int 6, .int p650176, .int p650177, .int p650178, .ref qo650179, .int p650180, .int p650181, .int p650182, .ref qo650183, .ref qo650184, .int p650185]) := (n650246 q650170 (fun h => hq650243 (h ▸ hmq650170))).trans he650238
        have he650248 : F650242 q650171 = .inl (I .byte, 8192, .inl f650186) := (n650246 q650171 (fun h => hq650243 (h ▸ hmq650171))).trans he650237
        have he650249 : F650242 q650240 = .inr (1, [.null, .int 0, .int 0, .int 0]) := e650245
        have hm650250 : q650170 ∈ P650241 := (hP650244 q650170).mpr (Or.inl hmq650170)
        have hm650251 : q650171 ∈ P650241 := (hP650244 q650171).mpr (Or.inl hmq650171)
        have hm650252 : q650240 ∈ P650241 := (hP650244 q650240).mpr (Or.inr rfl)
        have hq650253 : q650240 ∉ P650168 := fun z => hq650243 ((rSub_rf (P := P650168)) q650240 z)
        have hfr650254 : rFr [q650170] P650168 F650169 F650242 := rFr_new (rSub_rf (P := P650168)) hq650243 hfr650239 n650246
        have hsb650255 : rSub P650168 P650241 := rSub_new (rSub_rf (P := P650168)) hP650244
        refine G_dup dr_cX14_symbol_170 rfl ?_
        refine Gw_callI (As := []) (gV_ok D I) (cp_640525_StringBuilder_init l hl0 D I P650241 F650242 q650240 0 0 hm650252 he650249 (gB_w (gBl (show Int32.toInt 0 = 0 by decide)) (by decide) (by decide)) (gB_w (gBl (show Int32.toInt 0 = 0 by decide)) (by decide) (by decide))) dr_cX14_symbol_171 ⟨wr_7_236, wr_1_20, wr_7_47, by decide, rfl, (Nat.le_of_ble_eq_true rfl), (Nat.le_of_ble_eq_true rfl)⟩ wr_7_46 rfl (Nat.le_trans (show 1 + 1 ≤ 16 by decide) hMC) (Nat.le_trans (show 4 + 16 ≤ 160 by decide) hMS) (Nat.le_of_ble_eq_true rfl) (fun r650259 w650260 dc650256 ds650257 hp650258 => ?_)
        obtain ⟨P650262, F650263, q650261, rfl, rfl, hsb650264, hfr650265, he650266, he650267, hm650268, hq650269, hdc, hds⟩ := hp650258
        have hm650270 : q650170 ∈ P650262 := hsb650264 q650170 hm650250
        have hm650271 : q650171 ∈ P650262 := hsb650264 q650171 hm650251
        have hm650272 : q650240 ∈ P650262 := hsb650264 q650240 hm650252
        have hq650273 : q650261 ∉ P650168 := fun z => hq650269 (hsb650255 q650261 z)
        have hsb650274 : rSub P650168 P650262 := rSub_tr hsb650255 hsb650264
        have he650275 : F650263 q650170 = .inr (19, [.ref q650171, .int p650173, .int p650174, .int 6, .int p650176, .int p650177, .int p650178, .ref qo650179, .int p650180, .int p650181, .int p650182, .ref qo650183, .ref qo650184, .int p650185]) := (hfr650265 q650170 hm650250 (nm_c (fun h => hq650253 (h ▸ hmq650170)) nm_n)).trans he650247
        have he650276 : F650263 q650171 = .inl (I .byte, 8192, .inl f650186) := (hfr650265 q650171 hm650251 (nm_c (fun h => hq650253 (h ▸ hmq650171)) nm_n)).trans he650248
        have hfr650277 : rFr [q650170] P650168 F650169 F650263 := rFr_call hsb650255 hfr650254 hfr650265 (fun b hb hn => ⟨(nm_c (fun e => hn (e ▸ List.mem_cons_self)) nm_n), (nm_c (fun e => hq650253 (e ▸ hb)) nm_n)⟩)
        change G _ _ _ _ _ _ _ _ _ _ _
        refine G_widen (cs' := 2) (sl' := 20) (Nat.add_le_add_left hdc 1) (Nat.add_le_add_left hds 4) ?_
        refine G_ldcK (a := D.2 1000 32) dr_cX14_symbol_174 (fun _ _ _ h => gx_vk 32 rfl rfl h) ?_
        have hl32_650277 : (sb_32.length : Int) = 0 := rfl
        refine Gw_callV (As := [.ref (D.2 1000 32)]) (gV_ok D I) (cp_640822_StringBuilder_append l hl0 D I P650262 F650263 q650240 q650261 (D.2 1000 32) (D.2 1001 32) sb_32 0 0 (fun _ => 0) 16 hm650272 hm650268 he650266 he650267 (gx_sc 32 rfl rfl) (by omega) (by decide +kernel) (gB_w (gBl (show Int32.toInt 0 = 0 by decide)) (by decide) (by decide)) (gB_w (gBl (show Int32.toInt 0 = 0 by decide)) (by decide) (by decide)) (gF_w gF_0 (by decide) (by decide)) (by have qa0 : Int32.toInt 0 = 0 := (by decide); have qa1 : Int32.toInt 6 = 6 := (by decide); omega) (by have qa0 : Int32.toInt 0 = 0 := (by decide); have qa1 : Int32.toInt 6 = 6 := (by decide); omega)) dr_cX14_symbol_176 ⟨wr_8_195, wr_1_20, wr_8_143, by decide, rfl, (Nat.le_of_ble_eq_true rfl), (Nat.le_of_ble_eq_true rfl)⟩ wr_8_141 wr_8_142 hm650272 he650266 rfl (Nat.le_trans (show 2 + 0 ≤ 16 by decide) hMC) (Nat.le_trans (show 20 + 0 ≤ 160 by decide) hMS) (Nat.le_of_ble_eq_true rfl) (fun r650282 w650283 dc650279 ds650280 hp650281 => ?_) (fun _ _ _ _ _ z => z.elim)
        obtain ⟨F650289, o650284, f650285, rfl, rfl, hfr650291, he650292, he650293, hdc, hds, bo650284, bf650285, x650286, x650287, x650288⟩ := hp650281
        have he650294 : F650289 q650170 = .inr (19, [.ref q650171, .int p650173, .int p650174, .int 6, .int p650176, .int p650177, .int p650178, .ref qo650179, .int p650180, .int p650181, .int p650182, .ref qo650183, .ref qo650184, .int p650185]) := (hfr650291 q650170 hm650270 (nm_c (fun h => hq650253 (h ▸ hmq650170)) (nm_c (fun h => hq650273 (h ▸ hmq650170)) nm_n))).trans he650275
        have he650295 : F650289 q650171 = .inl (I .byte, 8192, .inl f650186) := (hfr650291 q650171 hm650271 (nm_c (fun h => hq650253 (h ▸ hmq650171)) (nm_c (fun h => hq650273 (h ▸ hmq650171)) nm_n))).trans he650276
        have hfr650296 : rFr [q650170] P650168 F650169 F650289 := rFr_call hsb650274 hfr650277 hfr650291 (fun b hb hn => ⟨(nm_c (fun e => hn (e ▸ List.mem_cons_self)) nm_n), (nm_c (fun e => hq650253 (e ▸ hb)) (nm_c (fun e => hq650273 (e ▸ hb)) nm_n))⟩)
        rw [show Int32.toInt 0 = 0 from by decide] at x650286
        have bo650284' : gB o650284 0 0 := ⟨by omega, by omega⟩
        rw [show Int32.toInt 0 = 0 from by decide] at x650287
        rw [show Int32.toInt 0 = 0 from by decide] at x650288
        change G _ _ _ _ _ _ _ (.ref q650240 :: _) _ _ _
        refine G_widen (cs' := 2) (sl' := 20) (Nat.add_le_add_left hdc 2) (Nat.add_le_add_left hds 20) ?_
        refine G_iload_n 3 dr_cX14_symbol_179 rfl ?_
        refine G_i2c dr_cX14_symbol_180 (G_nam fun z650297 hz650297 => ?_)
        have ez650297 : z650297.toInt = p650172.toInt := gI_i2c hz650297 (by omega) (by omega)
        have bz650297 : gB z650297 33 127 := ⟨by omega, by omega⟩
        refine Gw_callV (As := [.int z650297]) (gV_ok D I) (cp_640099_StringBuilder_append l hl0 D I P650262 F650289 q650240 q650261 z650297 0 o650284 f650285 16 hm650272 hm650268 he650292 he650293 (gB_w bz650297 (by decide) (by decide)) (gB_w (gBl (show Int32.toInt 0 = 0 by decide)) (by decide) (by decide)) (gB_w bo650284' (by decide) (by decide)) bf650285 (by have qa0 : Int32.toInt 0 = 0 := (by decide); have qa1 : Int32.toInt 6 = 6 := (by decide); omega) (by have qa0 : Int32.toInt 0 = 0 := (by decide); have qa1 : Int32.toInt 6 = 6 := (by decide); omega)) dr_cX14_symbol_181 ⟨wr_7_237, wr_1_20, wr_8_0, by decide, rfl, (Nat.le_of_ble_eq_true rfl), (Nat.le_of_ble_eq_true rfl)⟩ wr_7_238 wr_7_239 hm650272 he650292 rfl (Nat.le_trans (show 2 + 0 ≤ 16 by decide) hMC) (Nat.le_trans (show 20 + 0 ≤ 160 by decide) hMS) (Nat.le_of_ble_eq_true rfl) (fun r650301 w650302 dc650298 ds650299 hp650300 => ?_) (fun _ _ _ _ _ z => z.elim)
        obtain ⟨F650306, o650303, f650304, rfl, rfl, hfr650308, he650309, he650310, hdc, hds, bo650303, bf650304, x650305⟩ := hp650300
        have he650311 : F650306 q650170 = .inr (19, [.ref q650171, .int p650173, .int p650174, .int 6, .int p650176, .int p650177, .int p650178, .ref qo650179, .int p650180, .int p650181, .int p650182, .ref qo650183, .ref qo650184, .int p650185]) := (hfr650308 q650170 hm650270 (nm_c (fun h => hq650273 (h ▸ hmq650170)) (nm_c (fun h => hq650253 (h ▸ hmq650170)) nm_n))).trans he650294
        have he650312 : F650306 q650171 = .inl (I .byte, 8192, .inl f650186) := (hfr650308 q650171 hm650271 (nm_c (fun h => hq650273 (h ▸ hmq650171)) (nm_c (fun h => hq650253 (h ▸ hmq650171)) nm_n))).trans he650295
        have hfr650313 : rFr [q650170] P650168 F650169 F650306 := rFr_call hsb650274 hfr650296 hfr650308 (fun b hb hn => ⟨(nm_c (fun e => hn (e ▸ List.mem_cons_self)) nm_n), (nm_c (fun e => hq650273 (e ▸ hb)) (nm_c (fun e => hq650253 (e ▸ hb)) nm_n))⟩)
        have bo650303' : gB o650303 1 1 := ⟨by omega, by omega⟩
        change G _ _ _ _ _ _ _ (.ref q650240 :: _) _ _ _
        refine G_widen (cs' := 2) (sl' := 20) (Nat.add_le_add_left hdc 2) (Nat.add_le_add_left hds 20) ?_
        refine Gw_callV (As := []) (gV_ok D I) (cp_641282_StringBuilder_toString l hl0 D I P650262 F650306 q650240 q650261 0 o650303 f650304 16 hm650272 hm650268 he650309 he650310 (gB_w (gBl (show Int32.toInt 0 = 0 by decide)) (by decide) (by decide)) (gB_w bo650303' (by decide) (by decide)) bf650304 (by have qa0 : Int32.toInt 0 = 0 := (by decide); have qa1 : Int32.toInt 6 = 6 := (by decide); omega) (by have qa0 : Int32.toInt 0 = 0 := (by decide); have qa1 : Int32.toInt 6 = 6 := (by decide); omega)) dr_cX14_symbol_184 ⟨wr_8_66, wr_1_20, wr_8_69, by decide, rfl, (Nat.le_of_ble_eq_true rfl), (Nat.le_of_ble_eq_true rfl)⟩ wr_8_67 wr_8_68 hm650272 he650309 rfl (Nat.le_trans (show 2 + 2 ≤ 16 by decide) hMC) (show 20 + (o650303.toInt.toNat + 4) ≤ ((160 * (p650173.toInt - p650174.toInt)).toNat) by first | omega | decide) (Nat.le_of_ble_eq_true rfl) (fun r650317 w650318 dc650314 ds650315 hp650316 => ?_) (fun _ _ _ _ _ z => z.elim)
        obtain ⟨P650325, F650326, q650319, q650320, n650321, f650322, rfl, rfl, hsb650327, hfr650328, he650329, he650330, he650331, he650332, hm650333, hq650334, hm650335, hq650336, hdc, hds, bf650322, x650323, x650324⟩ := hp650316
        have hm650337 : q650170 ∈ P650325 := hsb650327 q650170 hm650270
        have hm650338 : q650171 ∈ P650325 := hsb650327 q650171 hm650271
        have hm650339 : q650240 ∈ P650325 := hsb650327 q650240 hm650272
        have hm650340 : q650261 ∈ P650325 := hsb650327 q650261 hm650268
        have hq650341 : q650319 ∉ P650168 := fun z => hq650334 (hsb650274 q650319 z)
        have hq650342 : q650320 ∉ P650168 := fun z => hq650336 (hsb650274 q650320 z)
        have hsb650343 : rSub P650168 P650325 := rSub_tr hsb650274 hsb650327
        have he650344 : F650326 q650170 = .inr (19, [.ref q650171, .int p650173, .int p650174, .int 6, .int p650176, .int p650177, .int p650178, .ref qo650179, .int p650180, .int p650181, .int p650182, .ref qo650183, .ref qo650184, .int p650185]) := (hfr650328 q650170 hm650270 nm_n).trans he650311
        have he650345 : F650326 q650171 = .inl (I .byte, 8192, .inl f650186) := (hfr650328 q650171 hm650271 nm_n).trans he650312
        have hfr650346 : rFr [q650170] P650168 F650169 F650326 := rFr_call hsb650274 hfr650313 hfr650328 (fun b hb hn => ⟨(nm_c (fun e => hn (e ▸ List.mem_cons_self)) nm_n), nm_n⟩)
        have hne650347 : q650261 ≠ q650320 := fun h => hq650336 (h ▸ hm650268)
        change G _ _ _ _ _ _ _ (.ref q650319 :: _) _ _ _
        refine G_widen (cs' := 4) (sl' := 20 + (o650303.toInt.toNat + 4)) (Nat.add_le_add_left hdc 2) (by omega) ?_
        refine G_goto 192 dr_cX14_symbol_187 (by decide +kernel) ?_
        refine Gp_put 7 hm650337 he650344 dr_cX14_symbol_192 (gk_X14 D I) (Nat.le_of_ble_eq_true rfl) wr_9_43 rfl rfl rfl (Nat.le_of_ble_eq_true rfl) (fun F650348 e650349 n650350 => ?_)
        have he650351 : F650348 q650171 = .inl (I .byte, 8192, .inl f650186) := (n650350 q650171 (rn_ao he650345 he650344)).trans he650345
        have he650352 : F650348 q650319 = .inr (0, [.ref q650320, .int 0, .int 0, .int 0]) := (n650350 q650319 (fun h => hq650341 (h ▸ hmq650170))).trans he650329
        have he650353 : F650348 q650240 = .inr (1, [.ref q650261, .int 0, .int 0, .int o650303]) := (n650350 q650240 (fun h => hq650253 (h ▸ hmq650170))).trans he650330
        have he650354 : F650348 q650261 = .inl (I .byte, 16, .inl f650304) := (n650350 q650261 (fun h => hq650273 (h ▸ hmq650170))).trans he650331
        have he650355 : F650348 q650320 = .inl (I .byte, n650321, .inl f650322) := (n650350 q650320 (fun h => hq650342 (h ▸ hmq650170))).trans he650332
        have he650356 : F650348 q650170 = .inr (19, [.ref q650171, .int p650173, .int p650174, .int 6, .int p650176, .int p650177, .int p650178, .ref q650319, .int p650180, .int p650181, .int p650182, .ref qo650183, .ref qo650184, .int p650185]) := e650349
        have hfr650357 : rFr [q650170] P650168 F650169 F650348 := rFr_put' List.mem_cons_self hfr650346 n650350
        clear he650237 he650238 hfr650239 he650247 he650248 he650249 hm650250 hm650251 hm650252 hq650253 hfr650254 hsb650255 hsb650264 hfr650265 he650266 he650267 hm650268 hq650269 hm650270 hm650271 hm650272 hq650273 hsb650274 he650275 he650276 hfr650277 hfr650291 he650292 he650293 bo650284 bf650285 he650294 he650295 hfr650296 hz650297 ez650297 bz650297 hfr650308 he650309 he650310 bo650303 bf650304 he650311 he650312 hfr650313 hsb650327 hfr650328 he650329 he650330 he650331 he650332 hq650334 hq650336 hm650339 hm650340 he650344 he650345 hfr650346 hne650347 he650353 he650354; try clear r650259; try clear w650260; try clear dc650256; try clear ds650257; try clear hp650258; try clear r650282; try clear w650283; try clear dc650279; try clear ds650280; try clear hp650281; try clear x650287; try clear x650288; try clear r650301; try clear w650302; try clear dc650298; try clear ds650299; try clear hp650300; try clear r650317; try clear w650318; try clear dc650314; try clear ds650315; try clear hp650316; try clear x650324
        refine G_aload_n 2 dr_cX14_symbol_195 rfl ?_
        refine G_dup dr_cX14_symbol_196 rfl ?_
        refine Gp_get 2 hm650337 he650356 dr_cX14_symbol_197 (gk_X14 D I) (Nat.le_of_ble_eq_true rfl) wr_9_38 rfl ?_
        refine G_iload_n 0 dr_cX14_symbol_200 rfl ?_
        refine G_if_eq 208 dr_cX14_symbol_201 (by decide +kernel) (fun _ => ?_) (fun hc => absurd hc (by decide))
        refine G_iconst 1 dr_cX14_symbol_208 (by decide +kernel) ?_
        refine G_iadd dr_cX14_symbol_209 (G_nam fun z650358 hz650358 => ?_)
        have ez650358 : z650358.toInt = p650174.toInt + 1 := by rw [gI_add hz650358 bp650174 (gBl (show Int32.toInt 1 = 1 by decide)) (by decide) (by decide), show Int32.toInt 1 = 1 from by decide]
        have bz650358 : gB z650358 1 8193 := gB_add (gI_add hz650358 bp650174 (gBl (show Int32.toInt 1 = 1 by decide)) (by decide) (by decide)) bp650174 (gBl (show Int32.toInt 1 = 1 by decide)) (by decide) (by decide)
        refine Gp_put 2 hm650337 he650356 dr_cX14_symbol_210 (gk_X14 D I) (Nat.le_of_ble_eq_true rfl) wr_9_38 rfl rfl rfl (Nat.le_of_ble_eq_true rfl) (fun F650359 e650360 n650361 => ?_)
        have he650362 : F650359 q650171 = .inl (I .byte, 8192, .inl f650186) := (n650361 q650171 (rn_ao he650351 he650356)).trans he650351
        have he650363 : F650359 q650319 = .inr (0, [.ref q650320, .int 0, .int 0, .int 0]) := (n650361 q650319 (fun h => hq650341 (h ▸ hmq650170))).trans he650352
        have he650364 : F650359 q650320 = .inl (I .byte, n650321, .inl f650322) := (n650361 q650320 (fun h => hq650342 (h ▸ hmq650170))).trans he650355
        have he650365 : F650359 q650170 = .inr (19, [.ref q650171, .int p650173, .int z650358, .int 6, .int p650176, .int p650177, .int p650178, .ref q650319, .int p650180, .int p650181, .int p650182, .ref qo650183, .ref qo650184, .int p650185]) := e650360
        have hfr650366 : rFr [q650170] P650168 F650169 F650359 := rFr_put' List.mem_cons_self hfr650357 n650361
        exact G_vretA dr_cX14_symbol_213 rfl (show 4 ≤ ((16 * (p650173.toInt - p650174.toInt)).toNat) by omega) (show 20 + (o650303.toInt.toNat + 4) ≤ ((160 * (p650173.toInt - p650174.toInt)).toNat) by omega) ⟨P650325, F650359, z650358, 6, q650319, rfl, rfl, hsb650343, hfr650366, he650365, he650362, (by omega), (by omega), ⟨by omega, by omega⟩, (gB_w (gBl (show Int32.toInt 6 = 6 by decide)) (by decide) (by decide)), (by have qa0 : Int32.toInt 0 = 0 := (by decide); have qa1 : Int32.toInt 6 = 6 := (by decide); omega), (by have qa0 : Int32.toInt 0 = 0 := (by decide); have qa1 : Int32.toInt 6 = 6 := (by decide); omega), (tP_no (by decide) (by decide)), (vP_no (by decide) (by decide))⟩
      · have r650367 : 0 ≤ o650231.toInt := gj_nlt hc650232 (show Int32.toInt 0 = 0 by decide)
        have bo650231' : gB o650231 0 65534 := ⟨by omega, by omega⟩
        refine G_iconst 5 dr_cX14_symbol_143 (by decide +kernel) ?_
        refine G_goto 149 dr_cX14_symbol_144 (by decide +kernel) ?_
        refine Gp_put 3 hmq650170 heq650170 dr_cX14_symbol_149 (gk_X14 D I) (Nat.le_of_ble_eq_true rfl) wr_9_39 rfl rfl rfl (Nat.le_of_ble_eq_true rfl) (fun F650368 e650369 n650370 => ?_)
        have he650371 : F650368 q650171 = .inl (I .byte, 8192, .inl f650186) := (n650370 q650171 (rn_ao heq650171 heq650170)).trans heq650171
        have he650372 : F650368 q650170 = .inr (19, [.ref q650171, .int p650173, .int p650174, .int 5, .int p650176, .int p650177, .int p650178, .ref qo650179, .int p650180, .int p650181, .int p650182, .ref qo650183, .ref qo650184, .int p650185]) := e650369
        have hfr650373 : rFr [q650170] P650168 F650169 F650368 := rFr_put (rFr_rf (W := []) (P := P650168) (F := F650169)) n650370
        clear hz650225 ez650225 bz650225 bo650231 bo650231'; try clear r650229; try clear w650230; try clear dc650226; try clear ds650227; try clear hp650228; try clear r650367
        refine G_aload_n 2 dr_cX14_symbol_152 rfl ?_
        refine G_iload_n 0 dr_cX14_symbol_153 rfl ?_
        refine G_if_eq 161 dr_cX14_symbol_154 (by decide +kernel) (fun _ => ?_) (fun hc => absurd hc (by decide))
        refine G_iload_n 3 dr_cX14_symbol_161 rfl ?_
        refine G_bipush 32 dr_cX14_symbol_162 (by decide +kernel) ?_
        refine G_icmp_le 190 dr_cX14_symbol_164 (by decide +kernel) (fun hc => absurd (show False by have := gj_le hc (show Int32.toInt 32 = 32 by decide); omega) not_false) (fun _ => ?_)
        refine G_new [.null, .int 0, .int 0, .int 0] dr_cX14_symbol_167 (gk_J4 D I) wr_7_235 wr_7_44 wr_1_20 (gfs_J4) (Nat.le_trans (show 0 + 1 ≤ 16 by decide) hMC) (Nat.le_trans (show 0 + 4 ≤ 160 by decide) hMS) (fun q650374 => Gp_in (fun P650375 F650376 hq650377 hP650378 e650379 n650380 => ?_))
        refine G_widen (cs' := 1) (sl' := 4) (by omega) (by omega) ?_
        have he650381 : F650376 q650170 = .inr (19, [.ref q650171, .int p650173, .int p650174, .int 5, .int p650176, .int p650177, .int p650178, .ref qo650179, .int p650180, .int p650181, .int p650182, .ref qo650183, .ref qo650184, .int p650185]) := (n650380 q650170 (fun h => hq650377 (h ▸ hmq650170))).trans he650372
        have he650382 : F650376 q650171 = .inl (I .byte, 8192, .inl f650186) := (n650380 q650171 (fun h => hq650377 (h ▸ hmq650171))).trans he650371
        have he650383 : F650376 q650374 = .inr (1, [.null, .int 0, .int 0, .int 0]) := e650379
        have hm650384 : q650170 ∈ P650375 := (hP650378 q650170).mpr (Or.inl hmq650170)
        have hm650385 : q650171 ∈ P650375 := (hP650378 q650171).mpr (Or.inl hmq650171)
        have hm650386 : q650374 ∈ P650375 := (hP650378 q650374).mpr (Or.inr rfl)
        have hq650387 : q650374 ∉ P650168 := fun z => hq650377 ((rSub_rf (P := P650168)) q650374 z)
        have hfr650388 : rFr [q650170] P650168 F650169 F650376 := rFr_new (rSub_rf (P := P650168)) hq650377 hfr650373 n650380
        have hsb650389 : rSub P650168 P650375 := rSub_new (rSub_rf (P := P650168)) hP650378
        refine G_dup dr_cX14_symbol_170 rfl ?_
        refine Gw_callI (As := []) (gV_ok D I) (cp_640525_StringBuilder_init l hl0 D I P650375 F650376 q650374 0 0 hm650386 he650383 (gB_w (gBl (show Int32.toInt 0 = 0 by decide)) (by decide) (by decide)) (gB_w (gBl (show Int32.toInt 0 = 0 by decide)) (by decide) (by decide))) dr_cX14_symbol_171 ⟨wr_7_236, wr_1_20, wr_7_47, by decide, rfl, (Nat.le_of_ble_eq_true rfl), (Nat.le_of_ble_eq_true rfl)⟩ wr_7_46 rfl (Nat.le_trans (show 1 + 1 ≤ 16 by decide) hMC) (Nat.le_trans (show 4 + 16 ≤ 160 by decide) hMS) (Nat.le_of_ble_eq_true rfl) (fun r650393 w650394 dc650390 ds650391 hp650392 => ?_)
        obtain ⟨P650396, F650397, q650395, rfl, rfl, hsb650398, hfr650399, he650400, he650401, hm650402, hq650403, hdc, hds⟩ := hp650392
        have hm650404 : q650170 ∈ P650396 := hsb650398 q650170 hm650384
        have hm650405 : q650171 ∈ P650396 := hsb650398 q650171 hm650385
        have hm650406 : q650374 ∈ P650396 := hsb650398 q650374 hm650386
        have hq650407 : q650395 ∉ P650168 := fun z => hq650403 (hsb650389 q650395 z)
        have hsb650408 : rSub P650168 P650396 := rSub_tr hsb650389 hsb650398
        have he650409 : F650397 q650170 = .inr (19, [.ref q650171, .int p650173, .int p650174, .int 5, .int p650176, .int p650177, .int p650178, .ref qo650179, .int p650180, .int p650181, .int p650182, .ref qo650183, .ref qo650184, .int p650185]) := (hfr650399 q650170 hm650384 (nm_c (fun h => hq650387 (h ▸ hmq650170)) nm_n)).trans he650381
        have he650410 : F650397 q650171 = .inl (I .byte, 8192, .inl f650186) := (hfr650399 q650171 hm650385 (nm_c (fun h => hq650387 (h ▸ hmq650171)) nm_n)).trans he650382
        have hfr650411 : rFr [q650170] P650168 F650169 F650397 := rFr_call hsb650389 hfr650388 hfr650399 (fun b hb hn => ⟨(nm_c (fun e => hn (e ▸ List.mem_cons_self)) nm_n), (nm_c (fun e => hq650387 (e ▸ hb)) nm_n)⟩)
        change G _ _ _ _ _ _ _ _ _ _ _
        refine G_widen (cs' := 2) (sl' := 20) (Nat.add_le_add_left hdc 1) (Nat.add_le_add_left hds 4) ?_
        refine G_ldcK (a := D.2 1000 32) dr_cX14_symbol_174 (fun _ _ _ h => gx_vk 32 rfl rfl h) ?_
        have hl32_650411 : (sb_32.length : Int) = 0 := rfl
        refine Gw_callV (As := [.ref (D.2 1000 32)]) (gV_ok D I) (cp_640822_StringBuilder_append l hl0 D I P650396 F650397 q650374 q650395 (D.2 1000 32) (D.2 1001 32) sb_32 0 0 (fun _ => 0) 16 hm650406 hm650402 he650400 he650401 (gx_sc 32 rfl rfl) (by omega) (by decide +kernel) (gB_w (gBl (show Int32.toInt 0 = 0 by decide)) (by decide) (by decide)) (gB_w (gBl (show Int32.toInt 0 = 0 by decide)) (by decide) (by decide)) (gF_w gF_0 (by decide) (by decide)) (by have qa0 : Int32.toInt 0 = 0 := (by decide); have qa1 : Int32.toInt 5 = 5 := (by decide); omega) (by have qa0 : Int32.toInt 0 = 0 := (by decide); have qa1 : Int32.toInt 5 = 5 := (by decide); omega)) dr_cX14_symbol_176 ⟨wr_8_195, wr_1_20, wr_8_143, by decide, rfl, (Nat.le_of_ble_eq_true rfl), (Nat.le_of_ble_eq_true rfl)⟩ wr_8_141 wr_8_142 hm650406 he650400 rfl (Nat.le_trans (show 2 + 0 ≤ 16 by decide) hMC) (Nat.le_trans (show 20 + 0 ≤ 160 by decide) hMS) (Nat.le_of_ble_eq_true rfl) (fun r650416 w650417 dc650413 ds650414 hp650415 => ?_) (fun _ _ _ _ _ z => z.elim)
        obtain ⟨F650423, o650418, f650419, rfl, rfl, hfr650425, he650426, he650427, hdc, hds, bo650418, bf650419, x650420, x650421, x650422⟩ := hp650415
        have he650428 : F650423 q650170 = .inr (19, [.ref q650171, .int p650173, .int p650174, .int 5, .int p650176, .int p650177, .int p650178, .ref qo650179, .int p650180, .int p650181, .int p650182, .ref qo650183, .ref qo650184, .int p650185]) := (hfr650425 q650170 hm650404 (nm_c (fun h => hq650387 (h ▸ hmq650170)) (nm_c (fun h => hq650407 (h ▸ hmq650170)) nm_n))).trans he650409
        have he650429 : F650423 q650171 = .inl (I .byte, 8192, .inl f650186) := (hfr650425 q650171 hm650405 (nm_c (fun h => hq650387 (h ▸ hmq650171)) (nm_c (fun h => hq650407 (h ▸ hmq650171)) nm_n))).trans he650410
        have hfr650430 : rFr [q650170] P650168 F650169 F650423 := rFr_call hsb650408 hfr650411 hfr650425 (fun b hb hn => ⟨(nm_c (fun e => hn (e ▸ List.mem_cons_self)) nm_n), (nm_c (fun e => hq650387 (e ▸ hb)) (nm_c (fun e => hq650407 (e ▸ hb)) nm_n))⟩)
        rw [show Int32.toInt 0 = 0 from by decide] at x650420
        have bo650418' : gB o650418 0 0 := ⟨by omega, by omega⟩
        rw [show Int32.toInt 0 = 0 from by decide] at x650421
        rw [show Int32.toInt 0 = 0 from by decide] at x650422
        change G _ _ _ _ _ _ _ (.ref q650374 :: _) _ _ _
        refine G_widen (cs' := 2) (sl' := 20) (Nat.add_le_add_left hdc 2) (Nat.add_le_add_left hds 20) ?_
        refine G_iload_n 3 dr_cX14_symbol_179 rfl ?_
        refine G_i2c dr_cX14_symbol_180 (G_nam fun z650431 hz650431 => ?_)
        have ez650431 : z650431.toInt = p650172.toInt := gI_i2c hz650431 (by omega) (by omega)
        have bz650431 : gB z650431 33 127 := ⟨by omega, by omega⟩
        refine Gw_callV (As := [.int z650431]) (gV_ok D I) (cp_640099_StringBuilder_append l hl0 D I P650396 F650423 q650374 q650395 z650431 0 o650418 f650419 16 hm650406 hm650402 he650426 he650427 (gB_w bz650431 (by decide) (by decide)) (gB_w (gBl (show Int32.toInt 0 = 0 by decide)) (by decide) (by decide)) (gB_w bo650418' (by decide) (by decide)) bf650419 (by have qa0 : Int32.toInt 0 = 0 := (by decide); have qa1 : Int32.toInt 5 = 5 := (by decide); omega) (by have qa0 : Int32.toInt 0 = 0 := (by decide); have qa1 : Int32.toInt 5 = 5 := (by decide); omega)) dr_cX14_symbol_181 ⟨wr_7_237, wr_1_20, wr_8_0, by decide, rfl, (Nat.le_of_ble_eq_true rfl), (Nat.le_of_ble_eq_true rfl)⟩ wr_7_238 wr_7_239 hm650406 he650426 rfl (Nat.le_trans (show 2 + 0 ≤ 16 by decide) hMC) (Nat.le_trans (show 20 + 0 ≤ 160 by decide) hMS) (Nat.le_of_ble_eq_true rfl) (fun r650435 w650436 dc650432 ds650433 hp650434 => ?_) (fun _ _ _ _ _ z => z.elim)
        obtain ⟨F650440, o650437, f650438, rfl, rfl, hfr650442, he650443, he650444, hdc, hds, bo650437, bf650438, x650439⟩ := hp650434
        have he650445 : F650440 q650170 = .inr (19, [.ref q650171, .int p650173, .int p650174, .int 5, .int p650176, .int p650177, .int p650178, .ref qo650179, .int p650180, .int p650181, .int p650182, .ref qo650183, .ref qo650184, .int p650185]) := (hfr650442 q650170 hm650404 (nm_c (fun h => hq650407 (h ▸ hmq650170)) (nm_c (fun h => hq650387 (h ▸ hmq650170)) nm_n))).trans he650428
        have he650446 : F650440 q650171 = .inl (I .byte, 8192, .inl f650186) := (hfr650442 q650171 hm650405 (nm_c (fun h => hq650407 (h ▸ hmq650171)) (nm_c (fun h => hq650387 (h ▸ hmq650171)) nm_n))).trans he650429
        have hfr650447 : rFr [q650170] P650168 F650169 F650440 := rFr_call hsb650408 hfr650430 hfr650442 (fun b hb hn => ⟨(nm_c (fun e => hn (e ▸ List.mem_cons_self)) nm_n), (nm_c (fun e => hq650407 (e ▸ hb)) (nm_c (fun e => hq650387 (e ▸ hb)) nm_n))⟩)
        have bo650437' : gB o650437 1 1 := ⟨by omega, by omega⟩
        change G _ _ _ _ _ _ _ (.ref q650374 :: _) _ _ _
        refine G_widen (cs' := 2) (sl' := 20) (Nat.add_le_add_left hdc 2) (Nat.add_le_add_left hds 20) ?_
        refine Gw_callV (As := []) (gV_ok D I) (cp_641282_StringBuilder_toString l hl0 D I P650396 F650440 q650374 q650395 0 o650437 f650438 16 hm650406 hm650402 he650443 he650444 (gB_w (gBl (show Int32.toInt 0 = 0 by decide)) (by decide) (by decide)) (gB_w bo650437' (by decide) (by decide)) bf650438 (by have qa0 : Int32.toInt 0 = 0 := (by decide); have qa1 : Int32.toInt 5 = 5 := (by decide); omega) (by have qa0 : Int32.toInt 0 = 0 := (by decide); have qa1 : Int32.toInt 5 = 5 := (by decide); omega)) dr_cX14_symbol_184 ⟨wr_8_66, wr_1_20, wr_8_69, by decide, rfl, (Nat.le_of_ble_eq_true rfl), (Nat.le_of_ble_eq_true rfl)⟩ wr_8_67 wr_8_68 hm650406 he650443 rfl (Nat.le_trans (show 2 + 2 ≤ 16 by decide) hMC) (show 20 + (o650437.toInt.toNat + 4) ≤ ((160 * (p650173.toInt - p650174.toInt)).toNat) by first | omega | decide) (Nat.le_of_ble_eq_true rfl) (fun r650451 w650452 dc650448 ds650449 hp650450 => ?_) (fun _ _ _ _ _ z => z.elim)
        obtain ⟨P650459, F650460, q650453, q650454, n650455, f650456, rfl, rfl, hsb650461, hfr650462, he650463, he650464, he650465, he650466, hm650467, hq650468, hm650469, hq650470, hdc, hds, bf650456, x650457, x650458⟩ := hp650450
        have hm650471 : q650170 ∈ P650459 := hsb650461 q650170 hm650404
        have hm650472 : q650171 ∈ P650459 := hsb650461 q650171 hm650405
        have hm650473 : q650374 ∈ P650459 := hsb650461 q650374 hm650406
        have hm650474 : q650395 ∈ P650459 := hsb650461 q650395 hm650402
        have hq650475 : q650453 ∉ P650168 := fun z => hq650468 (hsb650408 q650453 z)
        have hq650476 : q650454 ∉ P650168 := fun z => hq650470 (hsb650408 q650454 z)
        have hsb650477 : rSub P650168 P650459 := rSub_tr hsb650408 hsb650461
        have he650478 : F650460 q650170 = .inr (19, [.ref q650171, .int p650173, .int p650174, .int 5, .int p650176, .int p650177, .int p650178, .ref qo650179, .int p650180, .int p650181, .int p650182, .ref qo650183, .ref qo650184, .int p650185]) := (hfr650462 q650170 hm650404 nm_n).trans he650445
        have he650479 : F650460 q650171 = .inl (I .byte, 8192, .inl f650186) := (hfr650462 q650171 hm650405 nm_n).trans he650446
        have hfr650480 : rFr [q650170] P650168 F650169 F650460 := rFr_call hsb650408 hfr650447 hfr650462 (fun b hb hn => ⟨(nm_c (fun e => hn (e ▸ List.mem_cons_self)) nm_n), nm_n⟩)
        have hne650481 : q650395 ≠ q650454 := fun h => hq650470 (h ▸ hm650402)
        change G _ _ _ _ _ _ _ (.ref q650453 :: _) _ _ _
        refine G_widen (cs' := 4) (sl' := 20 + (o650437.toInt.toNat + 4)) (Nat.add_le_add_left hdc 2) (by omega) ?_
        refine G_goto 192 dr_cX14_symbol_187 (by decide +kernel) ?_
        refine Gp_put 7 hm650471 he650478 dr_cX14_symbol_192 (gk_X14 D I) (Nat.le_of_ble_eq_true rfl) wr_9_43 rfl rfl rfl (Nat.le_of_ble_eq_true rfl) (fun F650482 e650483 n650484 => ?_)
        have he650485 : F650482 q650171 = .inl (I .byte, 8192, .inl f650186) := (n650484 q650171 (rn_ao he650479 he650478)).trans he650479
        have he650486 : F650482 q650453 = .inr (0, [.ref q650454, .int 0, .int 0, .int 0]) := (n650484 q650453 (fun h => hq650475 (h ▸ hmq650170))).trans he650463
        have he650487 : F650482 q650374 = .inr (1, [.ref q650395, .int 0, .int 0, .int o650437]) := (n650484 q650374 (fun h => hq650387 (h ▸ hmq650170))).trans he650464
        have he650488 : F650482 q650395 = .inl (I .byte, 16, .inl f650438) := (n650484 q650395 (fun h => hq650407 (h ▸ hmq650170))).trans he650465
        have he650489 : F650482 q650454 = .inl (I .byte, n650455, .inl f650456) := (n650484 q650454 (fun h => hq650476 (h ▸ hmq650170))).trans he650466
        have he650490 : F650482 q650170 = .inr (19, [.ref q650171, .int p650173, .int p650174, .int 5, .int p650176, .int p650177, .int p650178, .ref q650453, .int p650180, .int p650181, .int p650182, .ref qo650183, .ref qo650184, .int p650185]) := e650483
        have hfr650491 : rFr [q650170] P650168 F650169 F650482 := rFr_put' List.mem_cons_self hfr650480 n650484
        clear he650371 he650372 hfr650373 he650381 he650382 he650383 hm650384 hm650385 hm650386 hq650387 hfr650388 hsb650389 hsb650398 hfr650399 he650400 he650401 hm650402 hq650403 hm650404 hm650405 hm650406 hq650407 hsb650408 he650409 he650410 hfr650411 hfr650425 he650426 he650427 bo650418 bf650419 he650428 he650429 hfr650430 hz650431 ez650431 bz650431 hfr650442 he650443 he650444 bo650437 bf650438 he650445 he650446 hfr650447 hsb650461 hfr650462 he650463 he650464 he650465 he650466 hq650468 hq650470 hm650473 hm650474 he650478 he650479 hfr650480 hne650481 he650487 he650488; try clear r650393; try clear w650394; try clear dc650390; try clear ds650391; try clear hp650392; try clear r650416; try clear w650417; try clear dc650413; try clear ds650414; try clear hp650415; try clear x650421; try clear x650422; try clear r650435; try clear w650436; try clear dc650432; try clear ds650433; try clear hp650434; try clear r650451; try clear w650452; try clear dc650448; try clear ds650449; try clear hp650450; try clear x650458
        refine G_aload_n 2 dr_cX14_symbol_195 rfl ?_
        refine G_dup dr_cX14_symbol_196 rfl ?_
        refine Gp_get 2 hm650471 he650490 dr_cX14_symbol_197 (gk_X14 D I) (Nat.le_of_ble_eq_true rfl) wr_9_38 rfl ?_
        refine G_iload_n 0 dr_cX14_symbol_200 rfl ?_
        refine G_if_eq 208 dr_cX14_symbol_201 (by decide +kernel) (fun _ => ?_) (fun hc => absurd hc (by decide))
        refine G_iconst 1 dr_cX14_symbol_208 (by decide +kernel) ?_
        refine G_iadd dr_cX14_symbol_209 (G_nam fun z650492 hz650492 => ?_)
        have ez650492 : z650492.toInt = p650174.toInt + 1 := by rw [gI_add hz650492 bp650174 (gBl (show Int32.toInt 1 = 1 by decide)) (by decide) (by decide), show Int32.toInt 1 = 1 from by decide]
        have bz650492 : gB z650492 1 8193 := gB_add (gI_add hz650492 bp650174 (gBl (show Int32.toInt 1 = 1 by decide)) (by decide) (by decide)) bp650174 (gBl (show Int32.toInt 1 = 1 by decide)) (by decide) (by decide)
        refine Gp_put 2 hm650471 he650490 dr_cX14_symbol_210 (gk_X14 D I) (Nat.le_of_ble_eq_true rfl) wr_9_38 rfl rfl rfl (Nat.le_of_ble_eq_true rfl) (fun F650493 e650494 n650495 => ?_)
        have he650496 : F650493 q650171 = .inl (I .byte, 8192, .inl f650186) := (n650495 q650171 (rn_ao he650485 he650490)).trans he650485
        have he650497 : F650493 q650453 = .inr (0, [.ref q650454, .int 0, .int 0, .int 0]) := (n650495 q650453 (fun h => hq650475 (h ▸ hmq650170))).trans he650486
        have he650498 : F650493 q650454 = .inl (I .byte, n650455, .inl f650456) := (n650495 q650454 (fun h => hq650476 (h ▸ hmq650170))).trans he650489
        have he650499 : F650493 q650170 = .inr (19, [.ref q650171, .int p650173, .int z650492, .int 5, .int p650176, .int p650177, .int p650178, .ref q650453, .int p650180, .int p650181, .int p650182, .ref qo650183, .ref qo650184, .int p650185]) := e650494
        have hfr650500 : rFr [q650170] P650168 F650169 F650493 := rFr_put' List.mem_cons_self hfr650491 n650495
        exact G_vretA dr_cX14_symbol_213 rfl (show 4 ≤ ((16 * (p650173.toInt - p650174.toInt)).toNat) by omega) (show 20 + (o650437.toInt.toNat + 4) ≤ ((160 * (p650173.toInt - p650174.toInt)).toNat) by omega) ⟨P650459, F650493, z650492, 5, q650453, rfl, rfl, hsb650477, hfr650500, he650499, he650496, (by omega), (by omega), ⟨by omega, by omega⟩, (gB_w (gBl (show Int32.toInt 5 = 5 by decide)) (by decide) (by decide)), (by have qa0 : Int32.toInt 0 = 0 := (by decide); have qa1 : Int32.toInt 5 = 5 := (by decide); omega), (by have qa0 : Int32.toInt 0 = 0 := (by decide); have qa1 : Int32.toInt 5 = 5 := (by decide); omega), (tP_5 hm650467 he650497 hm650469 he650498 bf650456 (by omega) (gB_w (gBl (show Int32.toInt 0 = 0 by decide)) (by decide) (by decide)) (fun e => hq650476 (e ▸ x650189)) (fun e => hq650476 (e ▸ x650190))), (vP_no (by decide) (by decide))⟩
  refine G_aload_n 0 dr_cX14_symbol_0 rfl ?_
  refine Gp_get 2 hmq650170 heq650170 dr_cX14_symbol_1 (gk_X14 D I) (Nat.le_of_ble_eq_true rfl) wr_9_38 rfl ?_
  refine G_iconst 1 dr_cX14_symbol_4 (by decide +kernel) ?_
  refine G_iadd dr_cX14_symbol_5 (G_nam fun z650501 hz650501 => ?_)
  have ez650501 : z650501.toInt = p650174.toInt + 1 := by rw [gI_add hz650501 bp650174 (gBl (show Int32.toInt 1 = 1 by decide)) (by decide) (by decide), show Int32.toInt 1 = 1 from by decide]
  have bz650501 : gB z650501 1 8193 := gB_add (gI_add hz650501 bp650174 (gBl (show Int32.toInt 1 = 1 by decide)) (by decide) (by decide)) bp650174 (gBl (show Int32.toInt 1 = 1 by decide)) (by decide) (by decide)
  refine G_aload_n 0 dr_cX14_symbol_6 rfl ?_
  refine Gp_get 1 hmq650170 heq650170 dr_cX14_symbol_7 (gk_X14 D I) (Nat.le_of_ble_eq_true rfl) wr_9_37 rfl ?_
  refine G_icmp_ge 73 dr_cX14_symbol_10 (by decide +kernel) (fun hc650502 => ?_) (fun hc650502 => ?_)
  · have r650503 : p650173.toInt ≤ z650501.toInt := gC_le hc650502
    refine G_lv (L' := [(0, .ref q650170), (1, .int p650172)]) [0, 1] rfl ?_
    exact jn650192
  · have r650504 : z650501.toInt < p650173.toInt := gC_nle hc650502
    have bz650501' : gB z650501 1 8191 := ⟨by omega, by omega⟩
    have bp650173' : gB p650173 2 8192 := ⟨by omega, by omega⟩
    refine G_aload_n 0 dr_cX14_symbol_13 rfl ?_
    refine Gp_get 0 hmq650170 heq650170 dr_cX14_symbol_14 (gk_X14 D I) (Nat.le_of_ble_eq_true rfl) wr_9_36 rfl ?_
    refine G_aload_n 0 dr_cX14_symbol_17 rfl ?_
    refine Gp_get 2 hmq650170 heq650170 dr_cX14_symbol_18 (gk_X14 D I) (Nat.le_of_ble_eq_true rfl) wr_9_38 rfl ?_
    refine G_iconst 1 dr_cX14_symbol_21 (by decide +kernel) ?_
    refine G_iadd dr_cX14_symbol_22 (G_eqi (y := z650501) hz650501.symm ?_)
    refine Gp_bald 1 hmq650171 heq650171 dr_cX14_symbol_23 rfl (gB_in bz650501' (by decide) (by decide)) (G_nam fun z650505 hz650505 => ?_)
    have bz650505 : gB z650505 (-128) 127 := by rw [hz650505]; exact bf650186 _
    refine G_bipush 32 dr_cX14_symbol_24 (by decide +kernel) ?_
    refine G_icmp_le 73 dr_cX14_symbol_26 (by decide +kernel) (fun hc650506 => ?_) (fun hc650506 => ?_)
    · have r650507 : z650505.toInt ≤ 32 := gj_le hc650506 (show Int32.toInt 32 = 32 by decide)
      have bz650505' : gB z650505 (-128) 32 := ⟨by omega, by omega⟩
      refine G_lv (L' := [(0, .ref q650170), (1, .int p650172)]) [0, 1] rfl ?_
      exact jn650192
    · have r650508 : 32 < z650505.toInt := gj_nle hc650506 (show Int32.toInt 32 = 32 by decide)
      have bz650505' : gB z650505 33 127 := ⟨by omega, by omega⟩
      refine G_iload_n 1 dr_cX14_symbol_29 rfl ?_
      refine G_bipush 32 dr_cX14_symbol_30 (by decide +kernel) ?_
      refine G_icmp_le 73 dr_cX14_symbol_32 (by decide +kernel) (fun hc650509 => ?_) (fun hc650509 => ?_)
      · have r650510 : p650172.toInt ≤ 32 := gj_le hc650509 (show Int32.toInt 32 = 32 by decide)
        have bp650172' : gB p650172 (-128) 32 := ⟨by omega, by omega⟩
        refine G_lv (L' := [(0, .ref q650170), (1, .int p650172)]) [0, 1] rfl ?_
        exact jn650192
      · have r650511 : 32 < p650172.toInt := gj_nle hc650509 (show Int32.toInt 32 = 32 by decide)
        have bp650172' : gB p650172 33 127 := ⟨by omega, by omega⟩
        refine G_new [.null, .int 0, .int 0, .int 0] dr_cX14_symbol_35 (gk_J4 D I) wr_7_235 wr_7_44 wr_1_20 (gfs_J4) (Nat.le_trans (show 0 + 1 ≤ 16 by decide) hMC) (Nat.le_trans (show 0 + 4 ≤ 160 by decide) hMS) (fun q650512 => Gp_in (fun P650513 F650514 hq650515 hP650516 e650517 n650518 => ?_))
        refine G_widen (cs' := 1) (sl' := 4) (by omega) (by omega) ?_
        have he650519 : F650514 q650170 = .inr (19, [.ref q650171, .int p650173, .int p650174, .int p650175, .int p650176, .int p650177, .int p650178, .ref qo650179, .int p650180, .int p650181, .int p650182, .ref qo650183, .ref qo650184, .int p650185]) := (n650518 q650170 (fun h => hq650515 (h ▸ hmq650170))).trans heq650170
        have he650520 : F650514 q650171 = .inl (I .byte, 8192, .inl f650186) := (n650518 q650171 (fun h => hq650515 (h ▸ hmq650171))).trans heq650171
        have he650521 : F650514 q650512 = .inr (1, [.null, .int 0, .int 0, .int 0]) := e650517
        have hm650522 : q650170 ∈ P650513 := (hP650516 q650170).mpr (Or.inl hmq650170)
        have hm650523 : q650171 ∈ P650513 := (hP650516 q650171).mpr (Or.inl hmq650171)
        have hm650524 : q650512 ∈ P650513 := (hP650516 q650512).mpr (Or.inr rfl)
        have hq650525 : q650512 ∉ P650168 := fun z => hq650515 ((rSub_rf (P := P650168)) q650512 z)
        have hfr650526 : rFr [] P650168 F650169 F650514 := rFr_new (rSub_rf (P := P650168)) hq650515 (rFr_rf (W := []) (P := P650168) (F := F650169)) n650518
        have hsb650527 : rSub P650168 P650513 := rSub_new (rSub_rf (P := P650168)) hP650516
        refine G_dup dr_cX14_symbol_38 rfl ?_
        refine Gw_callI (As := []) (gV_ok D I) (cp_640525_StringBuilder_init l hl0 D I P650513 F650514 q650512 0 0 hm650524 he650521 (gB_w (gBl (show Int32.toInt 0 = 0 by decide)) (by decide) (by decide)) (gB_w (gBl (show Int32.toInt 0 = 0 by decide)) (by decide) (by decide))) dr_cX14_symbol_39 ⟨wr_7_236, wr_1_20, wr_7_47, by decide, rfl, (Nat.le_of_ble_eq_true rfl), (Nat.le_of_ble_eq_true rfl)⟩ wr_7_46 rfl (Nat.le_trans (show 1 + 1 ≤ 16 by decide) hMC) (Nat.le_trans (show 4 + 16 ≤ 160 by decide) hMS) (Nat.le_of_ble_eq_true rfl) (fun r650531 w650532 dc650528 ds650529 hp650530 => ?_)
        obtain ⟨P650534, F650535, q650533, rfl, rfl, hsb650536, hfr650537, he650538, he650539, hm650540, hq650541, hdc, hds⟩ := hp650530
        have hm650542 : q650170 ∈ P650534 := hsb650536 q650170 hm650522
        have hm650543 : q650171 ∈ P650534 := hsb650536 q650171 hm650523
        have hm650544 : q650512 ∈ P650534 := hsb650536 q650512 hm650524
        have hq650545 : q650533 ∉ P650168 := fun z => hq650541 (hsb650527 q650533 z)
        have hsb650546 : rSub P650168 P650534 := rSub_tr hsb650527 hsb650536
        have he650547 : F650535 q650170 = .inr (19, [.ref q650171, .int p650173, .int p650174, .int p650175, .int p650176, .int p650177, .int p650178, .ref qo650179, .int p650180, .int p650181, .int p650182, .ref qo650183, .ref qo650184, .int p650185]) := (hfr650537 q650170 hm650522 (nm_c (fun h => hq650525 (h ▸ hmq650170)) nm_n)).trans he650519
        have he650548 : F650535 q650171 = .inl (I .byte, 8192, .inl f650186) := (hfr650537 q650171 hm650523 (nm_c (fun h => hq650525 (h ▸ hmq650171)) nm_n)).trans he650520
        have hfr650549 : rFr [] P650168 F650169 F650535 := rFr_call hsb650527 hfr650526 hfr650537 (fun b hb hn => ⟨nm_n, (nm_c (fun e => hq650525 (e ▸ hb)) nm_n)⟩)
        change G _ _ _ _ _ _ _ _ _ _ _
        refine G_widen (cs' := 2) (sl' := 20) (Nat.add_le_add_left hdc 1) (Nat.add_le_add_left hds 4) ?_
        refine G_ldcK (a := D.2 1000 32) dr_cX14_symbol_42 (fun _ _ _ h => gx_vk 32 rfl rfl h) ?_
        have hl32_650549 : (sb_32.length : Int) = 0 := rfl
        refine Gw_callV (As := [.ref (D.2 1000 32)]) (gV_ok D I) (cp_640822_StringBuilder_append l hl0 D I P650534 F650535 q650512 q650533 (D.2 1000 32) (D.2 1001 32) sb_32 0 0 (fun _ => 0) 16 hm650544 hm650540 he650538 he650539 (gx_sc 32 rfl rfl) (by omega) (by decide +kernel) (gB_w (gBl (show Int32.toInt 0 = 0 by decide)) (by decide) (by decide)) (gB_w (gBl (show Int32.toInt 0 = 0 by decide)) (by decide) (by decide)) (gF_w gF_0 (by decide) (by decide)) (by have qa0 : Int32.toInt 0 = 0 := (by decide); omega) (by have qa0 : Int32.toInt 0 = 0 := (by decide); omega)) dr_cX14_symbol_44 ⟨wr_8_195, wr_1_20, wr_8_143, by decide, rfl, (Nat.le_of_ble_eq_true rfl), (Nat.le_of_ble_eq_true rfl)⟩ wr_8_141 wr_8_142 hm650544 he650538 rfl (Nat.le_trans (show 2 + 0 ≤ 16 by decide) hMC) (Nat.le_trans (show 20 + 0 ≤ 160 by decide) hMS) (Nat.le_of_ble_eq_true rfl) (fun r650554 w650555 dc650551 ds650552 hp650553 => ?_) (fun _ _ _ _ _ z => z.elim)
        obtain ⟨F650561, o650556, f650557, rfl, rfl, hfr650563, he650564, he650565, hdc, hds, bo650556, bf650557, x650558, x650559, x650560⟩ := hp650553
        have he650566 : F650561 q650170 = .inr (19, [.ref q650171, .int p650173, .int p650174, .int p650175, .int p650176, .int p650177, .int p650178, .ref qo650179, .int p650180, .int p650181, .int p650182, .ref qo650183, .ref qo650184, .int p650185]) := (hfr650563 q650170 hm650542 (nm_c (fun h => hq650525 (h ▸ hmq650170)) (nm_c (fun h => hq650545 (h ▸ hmq650170)) nm_n))).trans he650547
        have he650567 : F650561 q650171 = .inl (I .byte, 8192, .inl f650186) := (hfr650563 q650171 hm650543 (nm_c (fun h => hq650525 (h ▸ hmq650171)) (nm_c (fun h => hq650545 (h ▸ hmq650171)) nm_n))).trans he650548
        have hfr650568 : rFr [] P650168 F650169 F650561 := rFr_call hsb650546 hfr650549 hfr650563 (fun b hb hn => ⟨nm_n, (nm_c (fun e => hq650525 (e ▸ hb)) (nm_c (fun e => hq650545 (e ▸ hb)) nm_n))⟩)
        rw [show Int32.toInt 0 = 0 from by decide] at x650558
        have bo650556' : gB o650556 0 0 := ⟨by omega, by omega⟩
        rw [show Int32.toInt 0 = 0 from by decide] at x650559
        rw [show Int32.toInt 0 = 0 from by decide] at x650560
        change G _ _ _ _ _ _ _ (.ref q650512 :: _) _ _ _
        refine G_widen (cs' := 2) (sl' := 20) (Nat.add_le_add_left hdc 2) (Nat.add_le_add_left hds 20) ?_
        refine G_iload_n 1 dr_cX14_symbol_47 rfl ?_
        refine G_i2c dr_cX14_symbol_48 (G_nam fun z650569 hz650569 => ?_)
        have ez650569 : z650569.toInt = p650172.toInt := gI_i2c hz650569 (by omega) (by omega)
        have bz650569 : gB z650569 33 127 := ⟨by omega, by omega⟩
        refine Gw_callV (As := [.int z650569]) (gV_ok D I) (cp_640099_StringBuilder_append l hl0 D I P650534 F650561 q650512 q650533 z650569 0 o650556 f650557 16 hm650544 hm650540 he650564 he650565 (gB_w bz650569 (by decide) (by decide)) (gB_w (gBl (show Int32.toInt 0 = 0 by decide)) (by decide) (by decide)) (gB_w bo650556' (by decide) (by decide)) bf650557 (by have qa0 : Int32.toInt 0 = 0 := (by decide); omega) (by have qa0 : Int32.toInt 0 = 0 := (by decide); omega)) dr_cX14_symbol_49 ⟨wr_7_237, wr_1_20, wr_8_0, by decide, rfl, (Nat.le_of_ble_eq_true rfl), (Nat.le_of_ble_eq_true rfl)⟩ wr_7_238 wr_7_239 hm650544 he650564 rfl (Nat.le_trans (show 2 + 0 ≤ 16 by decide) hMC) (Nat.le_trans (show 20 + 0 ≤ 160 by decide) hMS) (Nat.le_of_ble_eq_true rfl) (fun r650573 w650574 dc650570 ds650571 hp650572 => ?_) (fun _ _ _ _ _ z => z.elim)
        obtain ⟨F650578, o650575, f650576, rfl, rfl, hfr650580, he650581, he650582, hdc, hds, bo650575, bf650576, x650577⟩ := hp650572
        have he650583 : F650578 q650170 = .inr (19, [.ref q650171, .int p650173, .int p650174, .int p650175, .int p650176, .int p650177, .int p650178, .ref qo650179, .int p650180, .int p650181, .int p650182, .ref qo650183, .ref qo650184, .int p650185]) := (hfr650580 q650170 hm650542 (nm_c (fun h => hq650545 (h ▸ hmq650170)) (nm_c (fun h => hq650525 (h ▸ hmq650170)) nm_n))).trans he650566
        have he650584 : F650578 q650171 = .inl (I .byte, 8192, .inl f650186) := (hfr650580 q650171 hm650543 (nm_c (fun h => hq650545 (h ▸ hmq650171)) (nm_c (fun h => hq650525 (h ▸ hmq650171)) nm_n))).trans he650567
        have hfr650585 : rFr [] P650168 F650169 F650578 := rFr_call hsb650546 hfr650568 hfr650580 (fun b hb hn => ⟨nm_n, (nm_c (fun e => hq650545 (e ▸ hb)) (nm_c (fun e => hq650525 (e ▸ hb)) nm_n))⟩)
        have bo650575' : gB o650575 1 1 := ⟨by omega, by omega⟩
        change G _ _ _ _ _ _ _ (.ref q650512 :: _) _ _ _
        refine G_widen (cs' := 2) (sl' := 20) (Nat.add_le_add_left hdc 2) (Nat.add_le_add_left hds 20) ?_
        refine G_aload_n 0 dr_cX14_symbol_52 rfl ?_
        refine Gp_get 0 hm650542 he650583 dr_cX14_symbol_53 (gk_X14 D I) (Nat.le_of_ble_eq_true rfl) wr_9_36 rfl ?_
        refine G_aload_n 0 dr_cX14_symbol_56 rfl ?_
        refine Gp_get 2 hm650542 he650583 dr_cX14_symbol_57 (gk_X14 D I) (Nat.le_of_ble_eq_true rfl) wr_9_38 rfl ?_
        refine G_iconst 1 dr_cX14_symbol_60 (by decide +kernel) ?_
        refine G_iadd dr_cX14_symbol_61 (G_eqi (y := z650501) hz650501.symm ?_)
        refine Gp_bald 1 hm650543 he650584 dr_cX14_symbol_62 rfl (gB_in bz650501' (by decide) (by decide)) (G_eqi (y := z650505) hz650505.symm ?_)
        refine G_i2c dr_cX14_symbol_63 (G_nam fun z650586 hz650586 => ?_)
        have ez650586 : z650586.toInt = z650505.toInt := gI_i2c hz650586 (by omega) (by omega)
        have bz650586 : gB z650586 33 127 := ⟨by omega, by omega⟩
        refine Gw_callV (As := [.int z650586]) (gV_ok D I) (cp_640099_StringBuilder_append l hl0 D I P650534 F650578 q650512 q650533 z650586 0 o650575 f650576 16 hm650544 hm650540 he650581 he650582 (gB_w bz650586 (by decide) (by decide)) (gB_w (gBl (show Int32.toInt 0 = 0 by decide)) (by decide) (by decide)) (gB_w bo650575' (by decide) (by decide)) bf650576 (by have qa0 : Int32.toInt 0 = 0 := (by decide); omega) (by have qa0 : Int32.toInt 0 = 0 := (by decide); omega)) dr_cX14_symbol_64 ⟨wr_7_237, wr_1_20, wr_8_0, by decide, rfl, (Nat.le_of_ble_eq_true rfl), (Nat.le_of_ble_eq_true rfl)⟩ wr_7_238 wr_7_239 hm650544 he650581 rfl (Nat.le_trans (show 2 + 0 ≤ 16 by decide) hMC) (Nat.le_trans (show 20 + 0 ≤ 160 by decide) hMS) (Nat.le_of_ble_eq_true rfl) (fun r650590 w650591 dc650587 ds650588 hp650589 => ?_) (fun _ _ _ _ _ z => z.elim)
        obtain ⟨F650595, o650592, f650593, rfl, rfl, hfr650597, he650598, he650599, hdc, hds, bo650592, bf650593, x650594⟩ := hp650589
        have he650600 : F650595 q650170 = .inr (19, [.ref q650171, .int p650173, .int p650174, .int p650175, .int p650176, .int p650177, .int p650178, .ref qo650179, .int p650180, .int p650181, .int p650182, .ref qo650183, .ref qo650184, .int p650185]) := (hfr650597 q650170 hm650542 (nm_c (fun h => hq650545 (h ▸ hmq650170)) (nm_c (fun h => hq650525 (h ▸ hmq650170)) nm_n))).trans he650583
        have he650601 : F650595 q650171 = .inl (I .byte, 8192, .inl f650186) := (hfr650597 q650171 hm650543 (nm_c (fun h => hq650545 (h ▸ hmq650171)) (nm_c (fun h => hq650525 (h ▸ hmq650171)) nm_n))).trans he650584
        have hfr650602 : rFr [] P650168 F650169 F650595 := rFr_call hsb650546 hfr650585 hfr650597 (fun b hb hn => ⟨nm_n, (nm_c (fun e => hq650545 (e ▸ hb)) (nm_c (fun e => hq650525 (e ▸ hb)) nm_n))⟩)
        have bo650592' : gB o650592 2 2 := ⟨by omega, by omega⟩
        change G _ _ _ _ _ _ _ (.ref q650512 :: _) _ _ _
        refine G_widen (cs' := 2) (sl' := 20) (Nat.add_le_add_left hdc 2) (Nat.add_le_add_left hds 20) ?_
        refine Gw_callV (As := []) (gV_ok D I) (cp_641282_StringBuilder_toString l hl0 D I P650534 F650595 q650512 q650533 0 o650592 f650593 16 hm650544 hm650540 he650598 he650599 (gB_w (gBl (show Int32.toInt 0 = 0 by decide)) (by decide) (by decide)) (gB_w bo650592' (by decide) (by decide)) bf650593 (by have qa0 : Int32.toInt 0 = 0 := (by decide); omega) (by have qa0 : Int32.toInt 0 = 0 := (by decide); omega)) dr_cX14_symbol_67 ⟨wr_8_66, wr_1_20, wr_8_69, by decide, rfl, (Nat.le_of_ble_eq_true rfl), (Nat.le_of_ble_eq_true rfl)⟩ wr_8_67 wr_8_68 hm650544 he650598 rfl (Nat.le_trans (show 2 + 2 ≤ 16 by decide) hMC) (show 20 + (o650592.toInt.toNat + 4) ≤ ((160 * (p650173.toInt - p650174.toInt)).toNat) by first | omega | decide) (Nat.le_of_ble_eq_true rfl) (fun r650606 w650607 dc650603 ds650604 hp650605 => ?_) (fun _ _ _ _ _ z => z.elim)
        obtain ⟨P650614, F650615, q650608, q650609, n650610, f650611, rfl, rfl, hsb650616, hfr650617, he650618, he650619, he650620, he650621, hm650622, hq650623, hm650624, hq650625, hdc, hds, bf650611, x650612, x650613⟩ := hp650605
        have hm650626 : q650170 ∈ P650614 := hsb650616 q650170 hm650542
        have hm650627 : q650171 ∈ P650614 := hsb650616 q650171 hm650543
        have hm650628 : q650512 ∈ P650614 := hsb650616 q650512 hm650544
        have hm650629 : q650533 ∈ P650614 := hsb650616 q650533 hm650540
        have hq650630 : q650608 ∉ P650168 := fun z => hq650623 (hsb650546 q650608 z)
        have hq650631 : q650609 ∉ P650168 := fun z => hq650625 (hsb650546 q650609 z)
        have hsb650632 : rSub P650168 P650614 := rSub_tr hsb650546 hsb650616
        have he650633 : F650615 q650170 = .inr (19, [.ref q650171, .int p650173, .int p650174, .int p650175, .int p650176, .int p650177, .int p650178, .ref qo650179, .int p650180, .int p650181, .int p650182, .ref qo650183, .ref qo650184, .int p650185]) := (hfr650617 q650170 hm650542 nm_n).trans he650600
        have he650634 : F650615 q650171 = .inl (I .byte, 8192, .inl f650186) := (hfr650617 q650171 hm650543 nm_n).trans he650601
        have hfr650635 : rFr [] P650168 F650169 F650615 := rFr_call hsb650546 hfr650602 hfr650617 (fun b hb hn => ⟨nm_n, nm_n⟩)
        have hne650636 : q650533 ≠ q650609 := fun h => hq650625 (h ▸ hm650540)
        change G _ _ _ _ _ _ _ (.ref q650608 :: _) _ _ _
        refine G_widen (cs' := 4) (sl' := 20 + (o650592.toInt.toNat + 4)) (Nat.add_le_add_left hdc 2) (by omega) ?_
        refine G_goto 75 dr_cX14_symbol_70 (by decide +kernel) ?_
        refine G_astore_n (L' := [(2, .ref q650608), (0, .ref q650170), (1, .int p650172)]) dr_cX14_symbol_75 (Nat.le_of_ble_eq_true rfl) rfl ?_
        clear jn650192 bz650501 bz650505 he650519 he650520 he650521 hm650522 hm650523 hm650524 hq650525 hfr650526 hsb650527 hsb650536 hfr650537 he650538 he650539 hm650540 hq650541 hm650542 hm650543 hm650544 hq650545 hsb650546 he650547 he650548 hfr650549 hfr650563 he650564 he650565 bo650556 bf650557 he650566 he650567 hfr650568 hz650569 ez650569 bz650569 hfr650580 he650581 he650582 bo650575 bf650576 he650583 he650584 hfr650585 hz650586 ez650586 bz650586 hfr650597 he650598 he650599 bo650592 bf650593 he650600 he650601 hfr650602 hsb650616 hfr650617 he650619 he650620 hq650623 hq650625 hm650628 hm650629 hne650636; try clear r650531; try clear w650532; try clear dc650528; try clear ds650529; try clear hp650530; try clear r650554; try clear w650555; try clear dc650551; try clear ds650552; try clear hp650553; try clear x650559; try clear x650560; try clear r650573; try clear w650574; try clear dc650570; try clear ds650571; try clear hp650572; try clear r650590; try clear w650591; try clear dc650587; try clear ds650588; try clear hp650589; try clear r650606; try clear w650607; try clear dc650603; try clear ds650604; try clear hp650605; try clear x650613
        refine G_aload_n 0 dr_cX14_symbol_76 rfl ?_
        refine Gw_callV (As := []) (gV_ok D I) (cp_640627_String_length l hl0 D I P650614 F650615 q650608 q650609 0 0 f650611 n650610 hm650622 hm650624 he650618 he650621 (gB_w (gBl (show Int32.toInt 0 = 0 by decide)) (by decide) (by decide)) bf650611 (by have qa0 : Int32.toInt 0 = 0 := (by decide); omega)) dr_cX14_symbol_77 ⟨wr_8_227, wr_1_21, wr_3_60, by decide, rfl, (Nat.le_of_ble_eq_true rfl), (Nat.le_of_ble_eq_true rfl)⟩ wr_3_58 wr_3_59 hm650622 he650618 rfl (Nat.le_trans (show 4 + 0 ≤ 16 by decide) hMC) (show 20 + (o650592.toInt.toNat + 4) + 0 ≤ ((160 * (p650173.toInt - p650174.toInt)).toNat) by first | omega | decide) (Nat.le_of_ble_eq_true rfl) (fun r650640 w650641 dc650637 ds650638 hp650639 => ?_) (fun _ _ _ _ _ z => z.elim)
        obtain ⟨o650642, rfl, rfl, hdc, hds, bo650642, x650643⟩ := hp650639
        have bo650642' : gB o650642 2 2 := ⟨by omega, by omega⟩
        change G _ _ _ _ _ _ _ (.int o650642 :: _) _ _ _
        refine G_widen (cs' := 4) (sl' := 20 + (o650592.toInt.toNat + 4) + 0) (Nat.add_le_add_left hdc 4) (by omega) ?_
        refine G_iconst 2 dr_cX14_symbol_80 (by decide +kernel) ?_
        refine G_icmp_ne 120 dr_cX14_symbol_81 (by decide +kernel) (fun hc => absurd (show False by have := gj_neq hc (show Int32.toInt 2 = 2 by decide); omega) not_false) (fun _ => ?_)
        clear bo650642; try clear r650640; try clear w650641; try clear dc650637; try clear ds650638; try clear hp650639
        refine G_ldcK (a := D.2 1000 36) dr_cX14_symbol_84 (fun _ _ _ h => gx_vk 36 rfl rfl h) ?_
        have hl36_650643 : (sb_36.length : Int) = 16 := rfl
        refine G_new [.null, .int 0, .int 0, .int 0] dr_cX14_symbol_86 (gk_J4 D I) wr_7_235 wr_7_44 wr_1_20 (gfs_J4) (Nat.le_trans (show 4 + 1 ≤ 16 by decide) hMC) (show 20 + (o650592.toInt.toNat + 4) + 0 + 4 ≤ ((160 * (p650173.toInt - p650174.toInt)).toNat) by first | omega | decide) (fun q650645 => Gp_in (fun P650646 F650647 hq650648 hP650649 e650650 n650651 => ?_))
        refine G_widen (cs' := 5) (sl' := 20 + (o650592.toInt.toNat + 4) + 0 + 4) (by omega) (by omega) ?_
        have he650652 : F650647 q650170 = .inr (19, [.ref q650171, .int p650173, .int p650174, .int p650175, .int p650176, .int p650177, .int p650178, .ref qo650179, .int p650180, .int p650181, .int p650182, .ref qo650183, .ref qo650184, .int p650185]) := (n650651 q650170 (fun h => hq650648 (h ▸ hm650626))).trans he650633
        have he650653 : F650647 q650171 = .inl (I .byte, 8192, .inl f650186) := (n650651 q650171 (fun h => hq650648 (h ▸ hm650627))).trans he650634
        have he650654 : F650647 q650608 = .inr (0, [.ref q650609, .int 0, .int 0, .int 0]) := (n650651 q650608 (fun h => hq650648 (h ▸ hm650622))).trans he650618
        have he650655 : F650647 q650609 = .inl (I .byte, n650610, .inl f650611) := (n650651 q650609 (fun h => hq650648 (h ▸ hm650624))).trans he650621
        have he650656 : F650647 q650645 = .inr (1, [.null, .int 0, .int 0, .int 0]) := e650650
        have hm650657 : q650170 ∈ P650646 := (hP650649 q650170).mpr (Or.inl hm650626)
        have hm650658 : q650171 ∈ P650646 := (hP650649 q650171).mpr (Or.inl hm650627)
        have hm650659 : q650608 ∈ P650646 := (hP650649 q650608).mpr (Or.inl hm650622)
        have hm650660 : q650609 ∈ P650646 := (hP650649 q650609).mpr (Or.inl hm650624)
        have hm650661 : q650645 ∈ P650646 := (hP650649 q650645).mpr (Or.inr rfl)
        have hq650662 : q650645 ∉ P650168 := fun z => hq650648 (hsb650632 q650645 z)
        have hfr650663 : rFr [] P650168 F650169 F650647 := rFr_new hsb650632 hq650648 hfr650635 n650651
        have hsb650664 : rSub P650168 P650646 := rSub_new hsb650632 hP650649
        refine G_dup dr_cX14_symbol_89 rfl ?_
        refine Gw_callI (As := []) (gV_ok D I) (cp_640525_StringBuilder_init l hl0 D I P650646 F650647 q650645 0 0 hm650661 he650656 (gB_w (gBl (show Int32.toInt 0 = 0 by decide)) (by decide) (by decide)) (gB_w (gBl (show Int32.toInt 0 = 0 by decide)) (by decide) (by decide))) dr_cX14_symbol_90 ⟨wr_7_236, wr_1_20, wr_7_47, by decide, rfl, (Nat.le_of_ble_eq_true rfl), (Nat.le_of_ble_eq_true rfl)⟩ wr_7_46 rfl (Nat.le_trans (show 5 + 1 ≤ 16 by decide) hMC) (show 20 + (o650592.toInt.toNat + 4) + 0 + 4 + 16 ≤ ((160 * (p650173.toInt - p650174.toInt)).toNat) by first | omega | decide) (Nat.le_of_ble_eq_true rfl) (fun r650668 w650669 dc650665 ds650666 hp650667 => ?_)
        obtain ⟨P650671, F650672, q650670, rfl, rfl, hsb650673, hfr650674, he650675, he650676, hm650677, hq650678, hdc, hds⟩ := hp650667
        have hm650679 : q650170 ∈ P650671 := hsb650673 q650170 hm650657
        have hm650680 : q650171 ∈ P650671 := hsb650673 q650171 hm650658
        have hm650681 : q650608 ∈ P650671 := hsb650673 q650608 hm650659
        have hm650682 : q650609 ∈ P650671 := hsb650673 q650609 hm650660
        have hm650683 : q650645 ∈ P650671 := hsb650673 q650645 hm650661
        have hq650684 : q650670 ∉ P650168 := fun z => hq650678 (hsb650664 q650670 z)
        have hsb650685 : rSub P650168 P650671 := rSub_tr hsb650664 hsb650673
        have he650686 : F650672 q650170 = .inr (19, [.ref q650171, .int p650173, .int p650174, .int p650175, .int p650176, .int p650177, .int p650178, .ref qo650179, .int p650180, .int p650181, .int p650182, .ref qo650183, .ref qo650184, .int p650185]) := (hfr650674 q650170 hm650657 (nm_c (fun h => hq650662 (h ▸ hmq650170)) nm_n)).trans he650652
        have he650687 : F650672 q650171 = .inl (I .byte, 8192, .inl f650186) := (hfr650674 q650171 hm650658 (nm_c (fun h => hq650662 (h ▸ hmq650171)) nm_n)).trans he650653
        have he650688 : F650672 q650608 = .inr (0, [.ref q650609, .int 0, .int 0, .int 0]) := (hfr650674 q650608 hm650659 (nm_c (rn_oo he650654 he650656 (by decide)) nm_n)).trans he650654
        have he650689 : F650672 q650609 = .inl (I .byte, n650610, .inl f650611) := (hfr650674 q650609 hm650660 (nm_c (rn_ao he650655 he650656) nm_n)).trans he650655
        have hfr650690 : rFr [] P650168 F650169 F650672 := rFr_call hsb650664 hfr650663 hfr650674 (fun b hb hn => ⟨nm_n, (nm_c (fun e => hq650662 (e ▸ hb)) nm_n)⟩)
        have hne650691 : q650609 ≠ q650670 := fun h => hq650678 (h ▸ hm650660)
        change G _ _ _ _ _ _ _ _ _ _ _
        refine G_widen (cs' := 6) (sl' := 20 + (o650592.toInt.toNat + 4) + 0 + 4 + 16) (Nat.add_le_add_left hdc 5) (by omega) ?_
        refine G_ldcK (a := D.2 1000 35) dr_cX14_symbol_93 (fun _ _ _ h => gx_vk 35 rfl rfl h) ?_
        have hl35_650691 : (sb_35.length : Int) = 1 := rfl
        refine Gw_callV (As := [.ref (D.2 1000 35)]) (gV_ok D I) (cp_640822_StringBuilder_append l hl0 D I P650671 F650672 q650645 q650670 (D.2 1000 35) (D.2 1001 35) sb_35 0 0 (fun _ => 0) 16 hm650683 hm650677 he650675 he650676 (gx_sc 35 rfl rfl) (by omega) (by decide +kernel) (gB_w (gBl (show Int32.toInt 0 = 0 by decide)) (by decide) (by decide)) (gB_w (gBl (show Int32.toInt 0 = 0 by decide)) (by decide) (by decide)) (gF_w gF_0 (by decide) (by decide)) (by have qa0 : Int32.toInt 0 = 0 := (by decide); omega) (by have qa0 : Int32.toInt 0 = 0 := (by decide); omega)) dr_cX14_symbol_95 ⟨wr_8_195, wr_1_20, wr_8_143, by decide, rfl, (Nat.le_of_ble_eq_true rfl), (Nat.le_of_ble_eq_true rfl)⟩ wr_8_141 wr_8_142 hm650683 he650675 rfl (Nat.le_trans (show 6 + 0 ≤ 16 by decide) hMC) (show 20 + (o650592.toInt.toNat + 4) + 0 + 4 + 16 + 0 ≤ ((160 * (p650173.toInt - p650174.toInt)).toNat) by first | omega | decide) (Nat.le_of_ble_eq_true rfl) (fun r650696 w650697 dc650693 ds650694 hp650695 => ?_) (fun _ _ _ _ _ z => z.elim)
        obtain ⟨F650703, o650698, f650699, rfl, rfl, hfr650705, he650706, he650707, hdc, hds, bo650698, bf650699, x650700, x650701, x650702⟩ := hp650695
        have he650708 : F650703 q650170 = .inr (19, [.ref q650171, .int p650173, .int p650174, .int p650175, .int p650176, .int p650177, .int p650178, .ref qo650179, .int p650180, .int p650181, .int p650182, .ref qo650183, .ref qo650184, .int p650185]) := (hfr650705 q650170 hm650679 (nm_c (fun h => hq650662 (h ▸ hmq650170)) (nm_c (fun h => hq650684 (h ▸ hmq650170)) nm_n))).trans he650686
        have he650709 : F650703 q650171 = .inl (I .byte, 8192, .inl f650186) := (hfr650705 q650171 hm650680 (nm_c (fun h => hq650662 (h ▸ hmq650171)) (nm_c (fun h => hq650684 (h ▸ hmq650171)) nm_n))).trans he650687
        have he650710 : F650703 q650608 = .inr (0, [.ref q650609, .int 0, .int 0, .int 0]) := (hfr650705 q650608 hm650681 (nm_c (rn_oo he650688 he650675 (by decide)) (nm_c (rn_oa he650688 he650676) nm_n))).trans he650688
        have he650711 : F650703 q650609 = .inl (I .byte, n650610, .inl f650611) := (hfr650705 q650609 hm650682 (nm_c (rn_ao he650689 he650675) (nm_c hne650691 nm_n))).trans he650689
        have hfr650712 : rFr [] P650168 F650169 F650703 := rFr_call hsb650685 hfr650690 hfr650705 (fun b hb hn => ⟨nm_n, (nm_c (fun e => hq650662 (e ▸ hb)) (nm_c (fun e => hq650684 (e ▸ hb)) nm_n))⟩)
        rw [show Int32.toInt 0 = 0 from by decide] at x650700
        have bo650698' : gB o650698 1 1 := ⟨by omega, by omega⟩
        rw [show Int32.toInt 0 = 0 from by decide] at x650701
        rw [show Int32.toInt 0 = 0 from by decide] at x650702
        change G _ _ _ _ _ _ _ (.ref q650645 :: _) _ _ _
        refine G_widen (cs' := 6) (sl' := 20 + (o650592.toInt.toNat + 4) + 0 + 4 + 16 + 0) (Nat.add_le_add_left hdc 6) (by omega) ?_
        refine G_aload_n 0 dr_cX14_symbol_98 rfl ?_
        refine Gw_callV (As := [.ref q650608]) (gV_ok D I) (cp_640599_StringBuilder_append l hl0 D I P650671 F650703 q650645 q650608 q650670 q650609 0 o650698 0 0 f650699 16 f650611 n650610 hm650683 hm650681 hm650677 hm650682 he650706 he650710 he650707 he650711 (Ne.symm hne650691) (gB_w (gBl (show Int32.toInt 0 = 0 by decide)) (by decide) (by decide)) (gB_w bo650698' (by decide) (by decide)) (gB_w (gBl (show Int32.toInt 0 = 0 by decide)) (by decide) (by decide)) bf650699 bf650611 (by have qa0 : Int32.toInt 0 = 0 := (by decide); omega) (by have qa0 : Int32.toInt 0 = 0 := (by decide); omega) (by have qa0 : Int32.toInt 0 = 0 := (by decide); omega)) dr_cX14_symbol_99 ⟨wr_8_195, wr_1_20, wr_8_143, by decide, rfl, (Nat.le_of_ble_eq_true rfl), (Nat.le_of_ble_eq_true rfl)⟩ wr_8_141 wr_8_142 hm650683 he650706 rfl (Nat.le_trans (show 6 + 0 ≤ 16 by decide) hMC) (show 20 + (o650592.toInt.toNat + 4) + 0 + 4 + 16 + 0 + 0 ≤ ((160 * (p650173.toInt - p650174.toInt)).toNat) by first | omega | decide) (Nat.le_of_ble_eq_true rfl) (fun r650716 w650717 dc650713 ds650714 hp650715 => ?_) (fun _ _ _ _ _ z => z.elim)
        obtain ⟨F650723, o650718, f650719, rfl, rfl, hfr650725, he650726, he650727, he650728, he650729, hdc, hds, bo650718, bf650719, x650720, x650721, x650722⟩ := hp650715
        have he650730 : F650723 q650170 = .inr (19, [.ref q650171, .int p650173, .int p650174, .int p650175, .int p650176, .int p650177, .int p650178, .ref qo650179, .int p650180, .int p650181, .int p650182, .ref qo650183, .ref qo650184, .int p650185]) := (hfr650725 q650170 hm650679 (nm_c (fun h => hq650662 (h ▸ hmq650170)) (nm_c (fun h => hq650684 (h ▸ hmq650170)) nm_n))).trans he650708
        have he650731 : F650723 q650171 = .inl (I .byte, 8192, .inl f650186) := (hfr650725 q650171 hm650680 (nm_c (fun h => hq650662 (h ▸ hmq650171)) (nm_c (fun h => hq650684 (h ▸ hmq650171)) nm_n))).trans he650709
        have hfr650732 : rFr [] P650168 F650169 F650723 := rFr_call hsb650685 hfr650712 hfr650725 (fun b hb hn => ⟨nm_n, (nm_c (fun e => hq650662 (e ▸ hb)) (nm_c (fun e => hq650684 (e ▸ hb)) nm_n))⟩)
        have bo650718' : gB o650718 3 3 := ⟨by omega, by omega⟩
        change G _ _ _ _ _ _ _ (.ref q650645 :: _) _ _ _
        refine G_widen (cs' := 6) (sl' := 20 + (o650592.toInt.toNat + 4) + 0 + 4 + 16 + 0 + 0) (Nat.add_le_add_left hdc 6) (by omega) ?_
        refine G_ldcK (a := D.2 1000 35) dr_cX14_symbol_102 (fun _ _ _ h => gx_vk 35 rfl rfl h) ?_
        have hl35_650732 : (sb_35.length : Int) = 1 := rfl
        refine Gw_callV (As := [.ref (D.2 1000 35)]) (gV_ok D I) (cp_640822_StringBuilder_append l hl0 D I P650671 F650723 q650645 q650670 (D.2 1000 35) (D.2 1001 35) sb_35 0 o650718 f650719 16 hm650683 hm650677 he650726 he650728 (gx_sc 35 rfl rfl) (by omega) (by decide +kernel) (gB_w (gBl (show Int32.toInt 0 = 0 by decide)) (by decide) (by decide)) (gB_w bo650718' (by decide) (by decide)) bf650719 (by have qa0 : Int32.toInt 0 = 0 := (by decide); omega) (by have qa0 : Int32.toInt 0 = 0 := (by decide); omega)) dr_cX14_symbol_104 ⟨wr_8_195, wr_1_20, wr_8_143, by decide, rfl, (Nat.le_of_ble_eq_true rfl), (Nat.le_of_ble_eq_true rfl)⟩ wr_8_141 wr_8_142 hm650683 he650726 rfl (Nat.le_trans (show 6 + 0 ≤ 16 by decide) hMC) (show 20 + (o650592.toInt.toNat + 4) + 0 + 4 + 16 + 0 + 0 + 0 ≤ ((160 * (p650173.toInt - p650174.toInt)).toNat) by first | omega | decide) (Nat.le_of_ble_eq_true rfl) (fun r650737 w650738 dc650734 ds650735 hp650736 => ?_) (fun _ _ _ _ _ z => z.elim)
        obtain ⟨F650744, o650739, f650740, rfl, rfl, hfr650746, he650747, he650748, hdc, hds, bo650739, bf650740, x650741, x650742, x650743⟩ := hp650736
        have he650749 : F650744 q650170 = .inr (19, [.ref q650171, .int p650173, .int p650174, .int p650175, .int p650176, .int p650177, .int p650178, .ref qo650179, .int p650180, .int p650181, .int p650182, .ref qo650183, .ref qo650184, .int p650185]) := (hfr650746 q650170 hm650679 (nm_c (fun h => hq650662 (h ▸ hmq650170)) (nm_c (fun h => hq650684 (h ▸ hmq650170)) nm_n))).trans he650730
        have he650750 : F650744 q650171 = .inl (I .byte, 8192, .inl f650186) := (hfr650746 q650171 hm650680 (nm_c (fun h => hq650662 (h ▸ hmq650171)) (nm_c (fun h => hq650684 (h ▸ hmq650171)) nm_n))).trans he650731
        have he650751 : F650744 q650608 = .inr (0, [.ref q650609, .int 0, .int 0, .int 0]) := (hfr650746 q650608 hm650681 (nm_c (rn_oo he650727 he650726 (by decide)) (nm_c (rn_oa he650727 he650728) nm_n))).trans he650727
        have he650752 : F650744 q650609 = .inl (I .byte, n650610, .inl f650611) := (hfr650746 q650609 hm650682 (nm_c (rn_ao he650729 he650726) (nm_c hne650691 nm_n))).trans he650729
        have hfr650753 : rFr [] P650168 F650169 F650744 := rFr_call hsb650685 hfr650732 hfr650746 (fun b hb hn => ⟨nm_n, (nm_c (fun e => hq650662 (e ▸ hb)) (nm_c (fun e => hq650684 (e ▸ hb)) nm_n))⟩)
        have bo650739' : gB o650739 4 4 := ⟨by omega, by omega⟩
        change G _ _ _ _ _ _ _ (.ref q650645 :: _) _ _ _
        refine G_widen (cs' := 6) (sl' := 20 + (o650592.toInt.toNat + 4) + 0 + 4 + 16 + 0 + 0 + 0) (Nat.add_le_add_left hdc 6) (by omega) ?_
        refine Gw_callV (As := []) (gV_ok D I) (cp_641282_StringBuilder_toString l hl0 D I P650671 F650744 q650645 q650670 0 o650739 f650740 16 hm650683 hm650677 he650747 he650748 (gB_w (gBl (show Int32.toInt 0 = 0 by decide)) (by decide) (by decide)) (gB_w bo650739' (by decide) (by decide)) bf650740 (by have qa0 : Int32.toInt 0 = 0 := (by decide); omega) (by have qa0 : Int32.toInt 0 = 0 := (by decide); omega)) dr_cX14_symbol_107 ⟨wr_8_66, wr_1_20, wr_8_69, by decide, rfl, (Nat.le_of_ble_eq_true rfl), (Nat.le_of_ble_eq_true rfl)⟩ wr_8_67 wr_8_68 hm650683 he650747 rfl (Nat.le_trans (show 6 + 2 ≤ 16 by decide) hMC) (show 20 + (o650592.toInt.toNat + 4) + 0 + 4 + 16 + 0 + 0 + 0 + (o650739.toInt.toNat + 4) ≤ ((160 * (p650173.toInt - p650174.toInt)).toNat) by first | omega | decide) (Nat.le_of_ble_eq_true rfl) (fun r650757 w650758 dc650754 ds650755 hp650756 => ?_) (fun _ _ _ _ _ z => z.elim)
        obtain ⟨P650765, F650766, q650759, q650760, n650761, f650762, rfl, rfl, hsb650767, hfr650768, he650769, he650770, he650771, he650772, hm650773, hq650774, hm650775, hq650776, hdc, hds, bf650762, x650763, x650764⟩ := hp650756
        have hm650777 : q650170 ∈ P650765 := hsb650767 q650170 hm650679
        have hm650778 : q650171 ∈ P650765 := hsb650767 q650171 hm650680
        have hm650779 : q650608 ∈ P650765 := hsb650767 q650608 hm650681
        have hm650780 : q650609 ∈ P650765 := hsb650767 q650609 hm650682
        have hm650781 : q650645 ∈ P650765 := hsb650767 q650645 hm650683
        have hm650782 : q650670 ∈ P650765 := hsb650767 q650670 hm650677
        have hq650783 : q650759 ∉ P650168 := fun z => hq650774 (hsb650685 q650759 z)
        have hq650784 : q650760 ∉ P650168 := fun z => hq650776 (hsb650685 q650760 z)
        have hsb650785 : rSub P650168 P650765 := rSub_tr hsb650685 hsb650767
        have he650786 : F650766 q650170 = .inr (19, [.ref q650171, .int p650173, .int p650174, .int p650175, .int p650176, .int p650177, .int p650178, .ref qo650179, .int p650180, .int p650181, .int p650182, .ref qo650183, .ref qo650184, .int p650185]) := (hfr650768 q650170 hm650679 nm_n).trans he650749
        have he650787 : F650766 q650171 = .inl (I .byte, 8192, .inl f650186) := (hfr650768 q650171 hm650680 nm_n).trans he650750
        have he650788 : F650766 q650608 = .inr (0, [.ref q650609, .int 0, .int 0, .int 0]) := (hfr650768 q650608 hm650681 nm_n).trans he650751
        have he650789 : F650766 q650609 = .inl (I .byte, n650610, .inl f650611) := (hfr650768 q650609 hm650682 nm_n).trans he650752
        have hfr650790 : rFr [] P650168 F650169 F650766 := rFr_call hsb650685 hfr650753 hfr650768 (fun b hb hn => ⟨nm_n, nm_n⟩)
        have hne650791 : q650608 ≠ q650759 := fun h => hq650774 (h ▸ hm650681)
        have hne650792 : q650609 ≠ q650760 := fun h => hq650776 (h ▸ hm650682)
        have hne650793 : q650670 ≠ q650760 := fun h => hq650776 (h ▸ hm650677)
        change G _ _ _ _ _ _ _ (.ref q650759 :: _) _ _ _
        refine G_widen (cs' := 8) (sl' := 20 + (o650592.toInt.toNat + 4) + 0 + 4 + 16 + 0 + 0 + 0 + (o650739.toInt.toNat + 4)) (Nat.add_le_add_left hdc 6) (by omega) ?_
        refine Gw_callVk (As := [.ref q650759]) (gV_ok D I) (cp_641731_String_indexOf l hl0 D I P650765 F650766 q650759 q650760 (D.2 1000 36) (D.2 1001 36) sb_36 0 0 f650762 n650761 hm650773 hm650775 he650769 he650772 (gx_sc 36 rfl rfl) (by omega) (by decide +kernel) (gB_w (gBl (show Int32.toInt 0 = 0 by decide)) (by decide) (by decide)) bf650762 (by have qa0 : Int32.toInt 0 = 0 := (by decide); omega) (by have qa0 : Int32.toInt 0 = 0 := (by decide); omega)) dr_cX14_symbol_110 ⟨wr_8_196, wr_1_21, wr_8_199, by decide, rfl, (Nat.le_of_ble_eq_true rfl), (Nat.le_of_ble_eq_true rfl)⟩ wr_8_197 wr_8_198 (fun _ _ _ h => ((gx_sc 36 rfl rfl) _ _ _ h).1) (Nat.le_trans (show 8 + 0 ≤ 16 by decide) hMC) (show 20 + (o650592.toInt.toNat + 4) + 0 + 4 + 16 + 0 + 0 + 0 + (o650739.toInt.toNat + 4) + 0 ≤ ((160 * (p650173.toInt - p650174.toInt)).toNat) by first | omega | decide) (Nat.le_of_ble_eq_true rfl) (fun r650797 w650798 dc650794 ds650795 hp650796 => ?_) (fun _ _ _ _ _ z => z.elim)
        obtain ⟨o650799, rfl, rfl, hdc, hds, bo650799, x650800, x650801⟩ := hp650796
        change G _ _ _ _ _ _ _ (.int o650799 :: _) _ _ _
        refine G_widen (cs' := 8) (sl' := 20 + (o650592.toInt.toNat + 4) + 0 + 4 + 16 + 0 + 0 + 0 + (o650739.toInt.toNat + 4) + 0) (Nat.add_le_add_left hdc 8) (by omega) ?_
        refine G_if_lt 120 dr_cX14_symbol_113 (by decide +kernel) (fun hc650802 => ?_) (fun hc650802 => ?_)
        · have r650803 : o650799.toInt < 0 := gj_lt hc650802 (show Int32.toInt 0 = 0 by decide)
          have bo650799' : gB o650799 (-2147483646) (-1) := ⟨by omega, by omega⟩
          refine G_iconst 0 dr_cX14_symbol_120 (by decide +kernel) ?_
          refine G_istore_n (L' := [(3, .int 0), (2, .ref q650608), (0, .ref q650170), (1, .int p650172)]) dr_cX14_symbol_121 (Nat.le_of_ble_eq_true rfl) rfl ?_
          clear he650618 he650621 hm650622 hm650624 hm650626 hm650627 hsb650632 he650633 he650634 hfr650635 he650652 he650653 he650654 he650655 he650656 hm650657 hm650658 hm650659 hm650660 hm650661 hq650662 hfr650663 hsb650664 hsb650673 hfr650674 he650675 he650676 hm650677 hq650678 hm650679 hm650680 hm650681 hm650682 hm650683 hq650684 hsb650685 he650686 he650687 he650688 he650689 hfr650690 hne650691 hfr650705 he650706 he650707 bo650698 bf650699 he650708 he650709 he650710 he650711 hfr650712 hfr650725 he650726 he650727 he650728 he650729 bo650718 bf650719 he650730 he650731 hfr650732 hfr650746 he650747 he650748 bo650739 bf650740 he650749 he650750 he650751 he650752 hfr650753 hsb650767 hfr650768 he650769 he650770 he650771 he650772 hm650773 hq650774 hm650775 hq650776 bf650762 hm650781 hm650782 hq650783 hq650784 hne650791 hne650792 hne650793 bo650799; try clear r650668; try clear w650669; try clear dc650665; try clear ds650666; try clear hp650667; try clear r650696; try clear w650697; try clear dc650693; try clear ds650694; try clear hp650695; try clear x650701; try clear x650702; try clear r650716; try clear w650717; try clear dc650713; try clear ds650714; try clear hp650715; try clear x650721; try clear x650722; try clear r650737; try clear w650738; try clear dc650734; try clear ds650735; try clear hp650736; try clear x650742; try clear x650743; try clear r650757; try clear w650758; try clear dc650754; try clear ds650755; try clear hp650756; try clear x650764; try clear r650797; try clear w650798; try clear dc650794; try clear ds650795; try clear hp650796; try clear x650801
          refine G_aload_n 2 dr_cX14_symbol_122 rfl ?_
          refine G_iload_n 0 dr_cX14_symbol_123 rfl ?_
          refine G_if_ne 143 dr_cX14_symbol_124 (by decide +kernel) (fun hc => absurd hc (by decide)) (fun _ => ?_)
          refine G_iload_n 3 dr_cX14_symbol_127 rfl ?_
          refine G_bipush 32 dr_cX14_symbol_128 (by decide +kernel) ?_
          refine G_icmp_le 147 dr_cX14_symbol_130 (by decide +kernel) (fun hc => absurd (show False by have := gj_le hc (show Int32.toInt 32 = 32 by decide); omega) not_false) (fun _ => ?_)
          refine G_ldcK (a := D.2 1000 37) dr_cX14_symbol_133 (fun _ _ _ h => gx_vk 37 rfl rfl h) ?_
          have hl37_650803 : (sb_37.length : Int) = 14 := rfl
          refine G_iload_n 3 dr_cX14_symbol_135 rfl ?_
          refine G_i2c dr_cX14_symbol_136 (G_nam fun z650805 hz650805 => ?_)
          have ez650805 : z650805.toInt = p650172.toInt := gI_i2c hz650805 (by omega) (by omega)
          have bz650805 : gB z650805 33 127 := ⟨by omega, by omega⟩
          refine Gw_callVk (As := [.int z650805]) (gV_ok D I) (cp_648789_String_indexOf l hl0 D I P650765 F650766 (D.2 1000 37) (D.2 1001 37) sb_37 z650805 (gx_sc 37 rfl rfl) (by omega) (by decide +kernel) (gB_w bz650805 (by decide) (by decide))) dr_cX14_symbol_137 ⟨wr_8_230, wr_1_21, wr_8_233, by decide, rfl, (Nat.le_of_ble_eq_true rfl), (Nat.le_of_ble_eq_true rfl)⟩ wr_8_231 wr_8_232 (fun _ _ _ h => ((gx_sc 37 rfl rfl) _ _ _ h).1) (Nat.le_trans (show 8 + 0 ≤ 16 by decide) hMC) (show 20 + (o650592.toInt.toNat + 4) + 0 + 4 + 16 + 0 + 0 + 0 + (o650739.toInt.toNat + 4) + 0 + 0 ≤ ((160 * (p650173.toInt - p650174.toInt)).toNat) by first | omega | decide) (Nat.le_of_ble_eq_true rfl) (fun r650809 w650810 dc650806 ds650807 hp650808 => ?_) (fun _ _ _ _ _ z => z.elim)
          obtain ⟨o650811, rfl, rfl, hdc, hds, bo650811⟩ := hp650808
          change G _ _ _ _ _ _ _ (.int o650811 :: _) _ _ _
          refine G_widen (cs' := 8) (sl' := 20 + (o650592.toInt.toNat + 4) + 0 + 4 + 16 + 0 + 0 + 0 + (o650739.toInt.toNat + 4) + 0 + 0) (Nat.add_le_add_left hdc 8) (by omega) ?_
          refine G_if_lt 147 dr_cX14_symbol_140 (by decide +kernel) (fun hc650812 => ?_) (fun hc650812 => ?_)
          · have r650813 : o650811.toInt < 0 := gj_lt hc650812 (show Int32.toInt 0 = 0 by decide)
            have bo650811' : gB o650811 (-1) (-1) := ⟨by omega, by omega⟩
            refine G_bipush 6 dr_cX14_symbol_147 (by decide +kernel) ?_
            refine Gp_put 3 hm650777 he650786 dr_cX14_symbol_149 (gk_X14 D I) (Nat.le_of_ble_eq_true rfl) wr_9_39 rfl rfl rfl (Nat.le_of_ble_eq_true rfl) (fun F650814 e650815 n650816 => ?_)
            have he650817 : F650814 q650171 = .inl (I .byte, 8192, .inl f650186) := (n650816 q650171 (rn_ao he650787 he650786)).trans he650787
            have he650818 : F650814 q650608 = .inr (0, [.ref q650609, .int 0, .int 0, .int 0]) := (n650816 q650608 (fun h => hq650630 (h ▸ hmq650170))).trans he650788
            have he650819 : F650814 q650609 = .inl (I .byte, n650610, .inl f650611) := (n650816 q650609 (fun h => hq650631 (h ▸ hmq650170))).trans he650789
            have he650820 : F650814 q650170 = .inr (19, [.ref q650171, .int p650173, .int p650174, .int 6, .int p650176, .int p650177, .int p650178, .ref qo650179, .int p650180, .int p650181, .int p650182, .ref qo650183, .ref qo650184, .int p650185]) := e650815
            have hfr650821 : rFr [q650170] P650168 F650169 F650814 := rFr_put hfr650790 n650816
            clear he650786 he650787 he650788 he650789 hfr650790 hz650805 ez650805 bz650805 bo650811 bo650811'; try clear r650809; try clear w650810; try clear dc650806; try clear ds650807; try clear hp650808; try clear r650813
            refine G_aload_n 2 dr_cX14_symbol_152 rfl ?_
            refine G_iload_n 0 dr_cX14_symbol_153 rfl ?_
            refine G_if_eq 161 dr_cX14_symbol_154 (by decide +kernel) (fun _ => ?_) (fun hc => absurd hc (by decide))
            refine G_iload_n 3 dr_cX14_symbol_161 rfl ?_
            refine G_bipush 32 dr_cX14_symbol_162 (by decide +kernel) ?_
            refine G_icmp_le 190 dr_cX14_symbol_164 (by decide +kernel) (fun hc => absurd (show False by have := gj_le hc (show Int32.toInt 32 = 32 by decide); omega) not_false) (fun _ => ?_)
            refine G_new [.null, .int 0, .int 0, .int 0] dr_cX14_symbol_167 (gk_J4 D I) wr_7_235 wr_7_44 wr_1_20 (gfs_J4) (Nat.le_trans (show 8 + 1 ≤ 16 by decide) hMC) (show 20 + (o650592.toInt.toNat + 4) + 0 + 4 + 16 + 0 + 0 + 0 + (o650739.toInt.toNat + 4) + 0 + 0 + 4 ≤ ((160 * (p650173.toInt - p650174.toInt)).toNat) by first | omega | decide) (fun q650822 => Gp_in (fun P650823 F650824 hq650825 hP650826 e650827 n650828 => ?_))
            refine G_widen (cs' := 9) (sl' := 20 + (o650592.toInt.toNat + 4) + 0 + 4 + 16 + 0 + 0 + 0 + (o650739.toInt.toNat + 4) + 0 + 0 + 4) (by omega) (by omega) ?_
            have he650829 : F650824 q650170 = .inr (19, [.ref q650171, .int p650173, .int p650174, .int 6, .int p650176, .int p650177, .int p650178, .ref qo650179, .int p650180, .int p650181, .int p650182, .ref qo650183, .ref qo650184, .int p650185]) := (n650828 q650170 (fun h => hq650825 (h ▸ hm650777))).trans he650820
            have he650830 : F650824 q650171 = .inl (I .byte, 8192, .inl f650186) := (n650828 q650171 (fun h => hq650825 (h ▸ hm650778))).trans he650817
            have he650831 : F650824 q650608 = .inr (0, [.ref q650609, .int 0, .int 0, .int 0]) := (n650828 q650608 (fun h => hq650825 (h ▸ hm650779))).trans he650818
            have he650832 : F650824 q650609 = .inl (I .byte, n650610, .inl f650611) := (n650828 q650609 (fun h => hq650825 (h ▸ hm650780))).trans he650819
            have he650833 : F650824 q650822 = .inr (1, [.null, .int 0, .int 0, .int 0]) := e650827
            have hm650834 : q650170 ∈ P650823 := (hP650826 q650170).mpr (Or.inl hm650777)
            have hm650835 : q650171 ∈ P650823 := (hP650826 q650171).mpr (Or.inl hm650778)
            have hm650836 : q650608 ∈ P650823 := (hP650826 q650608).mpr (Or.inl hm650779)
            have hm650837 : q650609 ∈ P650823 := (hP650826 q650609).mpr (Or.inl hm650780)
            have hm650838 : q650822 ∈ P650823 := (hP650826 q650822).mpr (Or.inr rfl)
            have hq650839 : q650822 ∉ P650168 := fun z => hq650825 (hsb650785 q650822 z)
            have hfr650840 : rFr [q650170] P650168 F650169 F650824 := rFr_new hsb650785 hq650825 hfr650821 n650828
            have hsb650841 : rSub P650168 P650823 := rSub_new hsb650785 hP650826
            refine G_dup dr_cX14_symbol_170 rfl ?_
            refine Gw_callI (As := []) (gV_ok D I) (cp_640525_StringBuilder_init l hl0 D I P650823 F650824 q650822 0 0 hm650838 he650833 (gB_w (gBl (show Int32.toInt 0 = 0 by decide)) (by decide) (by decide)) (gB_w (gBl (show Int32.toInt 0 = 0 by decide)) (by decide) (by decide))) dr_cX14_symbol_171 ⟨wr_7_236, wr_1_20, wr_7_47, by decide, rfl, (Nat.le_of_ble_eq_true rfl), (Nat.le_of_ble_eq_true rfl)⟩ wr_7_46 rfl (Nat.le_trans (show 9 + 1 ≤ 16 by decide) hMC) (show 20 + (o650592.toInt.toNat + 4) + 0 + 4 + 16 + 0 + 0 + 0 + (o650739.toInt.toNat + 4) + 0 + 0 + 4 + 16 ≤ ((160 * (p650173.toInt - p650174.toInt)).toNat) by first | omega | decide) (Nat.le_of_ble_eq_true rfl) (fun r650845 w650846 dc650842 ds650843 hp650844 => ?_)
            obtain ⟨P650848, F650849, q650847, rfl, rfl, hsb650850, hfr650851, he650852, he650853, hm650854, hq650855, hdc, hds⟩ := hp650844
            have hm650856 : q650170 ∈ P650848 := hsb650850 q650170 hm650834
            have hm650857 : q650171 ∈ P650848 := hsb650850 q650171 hm650835
            have hm650858 : q650608 ∈ P650848 := hsb650850 q650608 hm650836
            have hm650859 : q650609 ∈ P650848 := hsb650850 q650609 hm650837
            have hm650860 : q650822 ∈ P650848 := hsb650850 q650822 hm650838
            have hq650861 : q650847 ∉ P650168 := fun z => hq650855 (hsb650841 q650847 z)
            have hsb650862 : rSub P650168 P650848 := rSub_tr hsb650841 hsb650850
            have he650863 : F650849 q650170 = .inr (19, [.ref q650171, .int p650173, .int p650174, .int 6, .int p650176, .int p650177, .int p650178, .ref qo650179, .int p650180, .int p650181, .int p650182, .ref qo650183, .ref qo650184, .int p650185]) := (hfr650851 q650170 hm650834 (nm_c (fun h => hq650839 (h ▸ hmq650170)) nm_n)).trans he650829
            have he650864 : F650849 q650171 = .inl (I .byte, 8192, .inl f650186) := (hfr650851 q650171 hm650835 (nm_c (fun h => hq650839 (h ▸ hmq650171)) nm_n)).trans he650830
            have he650865 : F650849 q650608 = .inr (0, [.ref q650609, .int 0, .int 0, .int 0]) := (hfr650851 q650608 hm650836 (nm_c (rn_oo he650831 he650833 (by decide)) nm_n)).trans he650831
            have he650866 : F650849 q650609 = .inl (I .byte, n650610, .inl f650611) := (hfr650851 q650609 hm650837 (nm_c (rn_ao he650832 he650833) nm_n)).trans he650832
            have hfr650867 : rFr [q650170] P650168 F650169 F650849 := rFr_call hsb650841 hfr650840 hfr650851 (fun b hb hn => ⟨(nm_c (fun e => hn (e ▸ List.mem_cons_self)) nm_n), (nm_c (fun e => hq650839 (e ▸ hb)) nm_n)⟩)
            have hne650868 : q650609 ≠ q650847 := fun h => hq650855 (h ▸ hm650837)
            change G _ _ _ _ _ _ _ _ _ _ _
            refine G_widen (cs' := 10) (sl' := 20 + (o650592.toInt.toNat + 4) + 0 + 4 + 16 + 0 + 0 + 0 + (o650739.toInt.toNat + 4) + 0 + 0 + 4 + 16) (Nat.add_le_add_left hdc 9) (by omega) ?_
            refine G_ldcK (a := D.2 1000 32) dr_cX14_symbol_174 (fun _ _ _ h => gx_vk 32 rfl rfl h) ?_
            have hl32_650868 : (sb_32.length : Int) = 0 := rfl
            refine Gw_callV (As := [.ref (D.2 1000 32)]) (gV_ok D I) (cp_640822_StringBuilder_append l hl0 D I P650848 F650849 q650822 q650847 (D.2 1000 32) (D.2 1001 32) sb_32 0 0 (fun _ => 0) 16 hm650860 hm650854 he650852 he650853 (gx_sc 32 rfl rfl) (by omega) (by decide +kernel) (gB_w (gBl (show Int32.toInt 0 = 0 by decide)) (by decide) (by decide)) (gB_w (gBl (show Int32.toInt 0 = 0 by decide)) (by decide) (by decide)) (gF_w gF_0 (by decide) (by decide)) (by have qa0 : Int32.toInt 0 = 0 := (by decide); have qa1 : Int32.toInt 6 = 6 := (by decide); omega) (by have qa0 : Int32.toInt 0 = 0 := (by decide); have qa1 : Int32.toInt 6 = 6 := (by decide); omega)) dr_cX14_symbol_176 ⟨wr_8_195, wr_1_20, wr_8_143, by decide, rfl, (Nat.le_of_ble_eq_true rfl), (Nat.le_of_ble_eq_true rfl)⟩ wr_8_141 wr_8_142 hm650860 he650852 rfl (Nat.le_trans (show 10 + 0 ≤ 16 by decide) hMC) (show 20 + (o650592.toInt.toNat + 4) + 0 + 4 + 16 + 0 + 0 + 0 + (o650739.toInt.toNat + 4) + 0 + 0 + 4 + 16 + 0 ≤ ((160 * (p650173.toInt - p650174.toInt)).toNat) by first | omega | decide) (Nat.le_of_ble_eq_true rfl) (fun r650873 w650874 dc650870 ds650871 hp650872 => ?_) (fun _ _ _ _ _ z => z.elim)
            obtain ⟨F650880, o650875, f650876, rfl, rfl, hfr650882, he650883, he650884, hdc, hds, bo650875, bf650876, x650877, x650878, x650879⟩ := hp650872
            have he650885 : F650880 q650170 = .inr (19, [.ref q650171, .int p650173, .int p650174, .int 6, .int p650176, .int p650177, .int p650178, .ref qo650179, .int p650180, .int p650181, .int p650182, .ref qo650183, .ref qo650184, .int p650185]) := (hfr650882 q650170 hm650856 (nm_c (fun h => hq650839 (h ▸ hmq650170)) (nm_c (fun h => hq650861 (h ▸ hmq650170)) nm_n))).trans he650863
            have he650886 : F650880 q650171 = .inl (I .byte, 8192, .inl f650186) := (hfr650882 q650171 hm650857 (nm_c (fun h => hq650839 (h ▸ hmq650171)) (nm_c (fun h => hq650861 (h ▸ hmq650171)) nm_n))).trans he650864
            have he650887 : F650880 q650608 = .inr (0, [.ref q650609, .int 0, .int 0, .int 0]) := (hfr650882 q650608 hm650858 (nm_c (rn_oo he650865 he650852 (by decide)) (nm_c (rn_oa he650865 he650853) nm_n))).trans he650865
            have he650888 : F650880 q650609 = .inl (I .byte, n650610, .inl f650611) := (hfr650882 q650609 hm650859 (nm_c (rn_ao he650866 he650852) (nm_c hne650868 nm_n))).trans he650866
            have hfr650889 : rFr [q650170] P650168 F650169 F650880 := rFr_call hsb650862 hfr650867 hfr650882 (fun b hb hn => ⟨(nm_c (fun e => hn (e ▸ List.mem_cons_self)) nm_n), (nm_c (fun e => hq650839 (e ▸ hb)) (nm_c (fun e => hq650861 (e ▸ hb)) nm_n))⟩)
            rw [show Int32.toInt 0 = 0 from by decide] at x650877
            have bo650875' : gB o650875 0 0 := ⟨by omega, by omega⟩
            rw [show Int32.toInt 0 = 0 from by decide] at x650878
            rw [show Int32.toInt 0 = 0 from by decide] at x650879
            change G _ _ _ _ _ _ _ (.ref q650822 :: _) _ _ _
            refine G_widen (cs' := 10) (sl' := 20 + (o650592.toInt.toNat + 4) + 0 + 4 + 16 + 0 + 0 + 0 + (o650739.toInt.toNat + 4) + 0 + 0 + 4 + 16 + 0) (Nat.add_le_add_left hdc 10) (by omega) ?_
            refine G_iload_n 3 dr_cX14_symbol_179 rfl ?_
            refine G_i2c dr_cX14_symbol_180 (G_nam fun z650890 hz650890 => ?_)
            have ez650890 : z650890.toInt = p650172.toInt := gI_i2c hz650890 (by omega) (by omega)
            have bz650890 : gB z650890 33 127 := ⟨by omega, by omega⟩
            refine Gw_callV (As := [.int z650890]) (gV_ok D I) (cp_640099_StringBuilder_append l hl0 D I P650848 F650880 q650822 q650847 z650890 0 o650875 f650876 16 hm650860 hm650854 he650883 he650884 (gB_w bz650890 (by decide) (by decide)) (gB_w (gBl (show Int32.toInt 0 = 0 by decide)) (by decide) (by decide)) (gB_w bo650875' (by decide) (by decide)) bf650876 (by have qa0 : Int32.toInt 0 = 0 := (by decide); have qa1 : Int32.toInt 6 = 6 := (by decide); omega) (by have qa0 : Int32.toInt 0 = 0 := (by decide); have qa1 : Int32.toInt 6 = 6 := (by decide); omega)) dr_cX14_symbol_181 ⟨wr_7_237, wr_1_20, wr_8_0, by decide, rfl, (Nat.le_of_ble_eq_true rfl), (Nat.le_of_ble_eq_true rfl)⟩ wr_7_238 wr_7_239 hm650860 he650883 rfl (Nat.le_trans (show 10 + 0 ≤ 16 by decide) hMC) (show 20 + (o650592.toInt.toNat + 4) + 0 + 4 + 16 + 0 + 0 + 0 + (o650739.toInt.toNat + 4) + 0 + 0 + 4 + 16 + 0 + 0 ≤ ((160 * (p650173.toInt - p650174.toInt)).toNat) by first | omega | decide) (Nat.le_of_ble_eq_true rfl) (fun r650894 w650895 dc650891 ds650892 hp650893 => ?_) (fun _ _ _ _ _ z => z.elim)
            obtain ⟨F650899, o650896, f650897, rfl, rfl, hfr650901, he650902, he650903, hdc, hds, bo650896, bf650897, x650898⟩ := hp650893
            have he650904 : F650899 q650170 = .inr (19, [.ref q650171, .int p650173, .int p650174, .int 6, .int p650176, .int p650177, .int p650178, .ref qo650179, .int p650180, .int p650181, .int p650182, .ref qo650183, .ref qo650184, .int p650185]) := (hfr650901 q650170 hm650856 (nm_c (fun h => hq650861 (h ▸ hmq650170)) (nm_c (fun h => hq650839 (h ▸ hmq650170)) nm_n))).trans he650885
            have he650905 : F650899 q650171 = .inl (I .byte, 8192, .inl f650186) := (hfr650901 q650171 hm650857 (nm_c (fun h => hq650861 (h ▸ hmq650171)) (nm_c (fun h => hq650839 (h ▸ hmq650171)) nm_n))).trans he650886
            have he650906 : F650899 q650608 = .inr (0, [.ref q650609, .int 0, .int 0, .int 0]) := (hfr650901 q650608 hm650858 (nm_c (rn_oa he650887 he650884) (nm_c (rn_oo he650887 he650883 (by decide)) nm_n))).trans he650887
            have he650907 : F650899 q650609 = .inl (I .byte, n650610, .inl f650611) := (hfr650901 q650609 hm650859 (nm_c hne650868 (nm_c (rn_ao he650888 he650883) nm_n))).trans he650888
            have hfr650908 : rFr [q650170] P650168 F650169 F650899 := rFr_call hsb650862 hfr650889 hfr650901 (fun b hb hn => ⟨(nm_c (fun e => hn (e ▸ List.mem_cons_self)) nm_n), (nm_c (fun e => hq650861 (e ▸ hb)) (nm_c (fun e => hq650839 (e ▸ hb)) nm_n))⟩)
            have bo650896' : gB o650896 1 1 := ⟨by omega, by omega⟩
            change G _ _ _ _ _ _ _ (.ref q650822 :: _) _ _ _
            refine G_widen (cs' := 10) (sl' := 20 + (o650592.toInt.toNat + 4) + 0 + 4 + 16 + 0 + 0 + 0 + (o650739.toInt.toNat + 4) + 0 + 0 + 4 + 16 + 0 + 0) (Nat.add_le_add_left hdc 10) (by omega) ?_
            refine Gw_callV (As := []) (gV_ok D I) (cp_641282_StringBuilder_toString l hl0 D I P650848 F650899 q650822 q650847 0 o650896 f650897 16 hm650860 hm650854 he650902 he650903 (gB_w (gBl (show Int32.toInt 0 = 0 by decide)) (by decide) (by decide)) (gB_w bo650896' (by decide) (by decide)) bf650897 (by have qa0 : Int32.toInt 0 = 0 := (by decide); have qa1 : Int32.toInt 6 = 6 := (by decide); omega) (by have qa0 : Int32.toInt 0 = 0 := (by decide); have qa1 : Int32.toInt 6 = 6 := (by decide); omega)) dr_cX14_symbol_184 ⟨wr_8_66, wr_1_20, wr_8_69, by decide, rfl, (Nat.le_of_ble_eq_true rfl), (Nat.le_of_ble_eq_true rfl)⟩ wr_8_67 wr_8_68 hm650860 he650902 rfl (Nat.le_trans (show 10 + 2 ≤ 16 by decide) hMC) (show 20 + (o650592.toInt.toNat + 4) + 0 + 4 + 16 + 0 + 0 + 0 + (o650739.toInt.toNat + 4) + 0 + 0 + 4 + 16 + 0 + 0 + (o650896.toInt.toNat + 4) ≤ ((160 * (p650173.toInt - p650174.toInt)).toNat) by first | omega | decide) (Nat.le_of_ble_eq_true rfl) (fun r650912 w650913 dc650909 ds650910 hp650911 => ?_) (fun _ _ _ _ _ z => z.elim)
            obtain ⟨P650920, F650921, q650914, q650915, n650916, f650917, rfl, rfl, hsb650922, hfr650923, he650924, he650925, he650926, he650927, hm650928, hq650929, hm650930, hq650931, hdc, hds, bf650917, x650918, x650919⟩ := hp650911
            have hm650932 : q650170 ∈ P650920 := hsb650922 q650170 hm650856
            have hm650933 : q650171 ∈ P650920 := hsb650922 q650171 hm650857
            have hm650934 : q650608 ∈ P650920 := hsb650922 q650608 hm650858
            have hm650935 : q650609 ∈ P650920 := hsb650922 q650609 hm650859
            have hm650936 : q650822 ∈ P650920 := hsb650922 q650822 hm650860
            have hm650937 : q650847 ∈ P650920 := hsb650922 q650847 hm650854
            have hq650938 : q650914 ∉ P650168 := fun z => hq650929 (hsb650862 q650914 z)
            have hq650939 : q650915 ∉ P650168 := fun z => hq650931 (hsb650862 q650915 z)
            have hsb650940 : rSub P650168 P650920 := rSub_tr hsb650862 hsb650922
            have he650941 : F650921 q650170 = .inr (19, [.ref q650171, .int p650173, .int p650174, .int 6, .int p650176, .int p650177, .int p650178, .ref qo650179, .int p650180, .int p650181, .int p650182, .ref qo650183, .ref qo650184, .int p650185]) := (hfr650923 q650170 hm650856 nm_n).trans he650904
            have he650942 : F650921 q650171 = .inl (I .byte, 8192, .inl f650186) := (hfr650923 q650171 hm650857 nm_n).trans he650905
            have he650943 : F650921 q650608 = .inr (0, [.ref q650609, .int 0, .int 0, .int 0]) := (hfr650923 q650608 hm650858 nm_n).trans he650906
            have he650944 : F650921 q650609 = .inl (I .byte, n650610, .inl f650611) := (hfr650923 q650609 hm650859 nm_n).trans he650907
            have hfr650945 : rFr [q650170] P650168 F650169 F650921 := rFr_call hsb650862 hfr650908 hfr650923 (fun b hb hn => ⟨(nm_c (fun e => hn (e ▸ List.mem_cons_self)) nm_n), nm_n⟩)
            have hne650946 : q650608 ≠ q650914 := fun h => hq650929 (h ▸ hm650858)
            have hne650947 : q650609 ≠ q650915 := fun h => hq650931 (h ▸ hm650859)
            have hne650948 : q650847 ≠ q650915 := fun h => hq650931 (h ▸ hm650854)
            change G _ _ _ _ _ _ _ (.ref q650914 :: _) _ _ _
            refine G_widen (cs' := 12) (sl' := 20 + (o650592.toInt.toNat + 4) + 0 + 4 + 16 + 0 + 0 + 0 + (o650739.toInt.toNat + 4) + 0 + 0 + 4 + 16 + 0 + 0 + (o650896.toInt.toNat + 4)) (Nat.add_le_add_left hdc 10) (by omega) ?_
            refine G_goto 192 dr_cX14_symbol_187 (by decide +kernel) ?_
            refine Gp_put 7 hm650932 he650941 dr_cX14_symbol_192 (gk_X14 D I) (Nat.le_of_ble_eq_true rfl) wr_9_43 rfl rfl rfl (Nat.le_of_ble_eq_true rfl) (fun F650949 e650950 n650951 => ?_)
            have he650952 : F650949 q650171 = .inl (I .byte, 8192, .inl f650186) := (n650951 q650171 (rn_ao he650942 he650941)).trans he650942
            have he650953 : F650949 q650608 = .inr (0, [.ref q650609, .int 0, .int 0, .int 0]) := (n650951 q650608 (fun h => hq650630 (h ▸ hmq650170))).trans he650943
            have he650954 : F650949 q650609 = .inl (I .byte, n650610, .inl f650611) := (n650951 q650609 (fun h => hq650631 (h ▸ hmq650170))).trans he650944
            have he650955 : F650949 q650914 = .inr (0, [.ref q650915, .int 0, .int 0, .int 0]) := (n650951 q650914 (fun h => hq650938 (h ▸ hmq650170))).trans he650924
            have he650956 : F650949 q650822 = .inr (1, [.ref q650847, .int 0, .int 0, .int o650896]) := (n650951 q650822 (fun h => hq650839 (h ▸ hmq650170))).trans he650925
            have he650957 : F650949 q650847 = .inl (I .byte, 16, .inl f650897) := (n650951 q650847 (fun h => hq650861 (h ▸ hmq650170))).trans he650926
            have he650958 : F650949 q650915 = .inl (I .byte, n650916, .inl f650917) := (n650951 q650915 (fun h => hq650939 (h ▸ hmq650170))).trans he650927
            have he650959 : F650949 q650170 = .inr (19, [.ref q650171, .int p650173, .int p650174, .int 6, .int p650176, .int p650177, .int p650178, .ref q650914, .int p650180, .int p650181, .int p650182, .ref qo650183, .ref qo650184, .int p650185]) := e650950
            have hfr650960 : rFr [q650170] P650168 F650169 F650949 := rFr_put' List.mem_cons_self hfr650945 n650951
            clear hm650777 hm650778 hm650779 hm650780 hsb650785 he650817 he650818 he650819 he650820 hfr650821 he650829 he650830 he650831 he650832 he650833 hm650834 hm650835 hm650836 hm650837 hm650838 hq650839 hfr650840 hsb650841 hsb650850 hfr650851 he650852 he650853 hm650854 hq650855 hm650856 hm650857 hm650858 hm650859 hm650860 hq650861 hsb650862 he650863 he650864 he650865 he650866 hfr650867 hne650868 hfr650882 he650883 he650884 bo650875 bf650876 he650885 he650886 he650887 he650888 hfr650889 hz650890 ez650890 bz650890 hfr650901 he650902 he650903 bo650896 bf650897 he650904 he650905 he650906 he650907 hfr650908 hsb650922 hfr650923 he650924 he650925 he650926 he650927 hq650929 hq650931 hm650936 hm650937 he650941 he650942 he650943 he650944 hfr650945 hne650948 he650956 he650957; try clear r650845; try clear w650846; try clear dc650842; try clear ds650843; try clear hp650844; try clear r650873; try clear w650874; try clear dc650870; try clear ds650871; try clear hp650872; try clear x650878; try clear x650879; try clear r650894; try clear w650895; try clear dc650891; try clear ds650892; try clear hp650893; try clear r650912; try clear w650913; try clear dc650909; try clear ds650910; try clear hp650911; try clear x650919
            refine G_aload_n 2 dr_cX14_symbol_195 rfl ?_
            refine G_dup dr_cX14_symbol_196 rfl ?_
            refine Gp_get 2 hm650932 he650959 dr_cX14_symbol_197 (gk_X14 D I) (Nat.le_of_ble_eq_true rfl) wr_9_38 rfl ?_
            refine G_iload_n 0 dr_cX14_symbol_200 rfl ?_
            refine G_if_eq 208 dr_cX14_symbol_201 (by decide +kernel) (fun _ => ?_) (fun hc => absurd hc (by decide))
            refine G_iconst 1 dr_cX14_symbol_208 (by decide +kernel) ?_
            refine G_iadd dr_cX14_symbol_209 (G_eqi (y := z650501) hz650501.symm ?_)
            refine Gp_put 2 hm650932 he650959 dr_cX14_symbol_210 (gk_X14 D I) (Nat.le_of_ble_eq_true rfl) wr_9_38 rfl rfl rfl (Nat.le_of_ble_eq_true rfl) (fun F650961 e650962 n650963 => ?_)
            have he650964 : F650961 q650171 = .inl (I .byte, 8192, .inl f650186) := (n650963 q650171 (rn_ao he650952 he650959)).trans he650952
            have he650965 : F650961 q650608 = .inr (0, [.ref q650609, .int 0, .int 0, .int 0]) := (n650963 q650608 (fun h => hq650630 (h ▸ hmq650170))).trans he650953
            have he650966 : F650961 q650609 = .inl (I .byte, n650610, .inl f650611) := (n650963 q650609 (fun h => hq650631 (h ▸ hmq650170))).trans he650954
            have he650967 : F650961 q650914 = .inr (0, [.ref q650915, .int 0, .int 0, .int 0]) := (n650963 q650914 (fun h => hq650938 (h ▸ hmq650170))).trans he650955
            have he650968 : F650961 q650915 = .inl (I .byte, n650916, .inl f650917) := (n650963 q650915 (fun h => hq650939 (h ▸ hmq650170))).trans he650958
            have he650969 : F650961 q650170 = .inr (19, [.ref q650171, .int p650173, .int z650501, .int 6, .int p650176, .int p650177, .int p650178, .ref q650914, .int p650180, .int p650181, .int p650182, .ref qo650183, .ref qo650184, .int p650185]) := e650962
            have hfr650970 : rFr [q650170] P650168 F650169 F650961 := rFr_put' List.mem_cons_self hfr650960 n650963
            exact G_vretA dr_cX14_symbol_213 rfl (show 12 ≤ ((16 * (p650173.toInt - p650174.toInt)).toNat) by omega) (show 20 + (o650592.toInt.toNat + 4) + 0 + 4 + 16 + 0 + 0 + 0 + (o650739.toInt.toNat + 4) + 0 + 0 + 4 + 16 + 0 + 0 + (o650896.toInt.toNat + 4) ≤ ((160 * (p650173.toInt - p650174.toInt)).toNat) by omega) ⟨P650920, F650961, z650501, 6, q650914, rfl, rfl, hsb650940, hfr650970, he650969, he650964, (by omega), (by omega), (gB_w bz650501' (by decide) (by decide)), (gB_w (gBl (show Int32.toInt 6 = 6 by decide)) (by decide) (by decide)), (by have qa0 : Int32.toInt 0 = 0 := (by decide); have qa1 : Int32.toInt 6 = 6 := (by decide); omega), (by have qa0 : Int32.toInt 0 = 0 := (by decide); have qa1 : Int32.toInt 6 = 6 := (by decide); omega), (tP_no (by decide) (by decide)), (vP_no (by decide) (by decide))⟩
          · have r650971 : 0 ≤ o650811.toInt := gj_nlt hc650812 (show Int32.toInt 0 = 0 by decide)
            have bo650811' : gB o650811 0 65534 := ⟨by omega, by omega⟩
            refine G_iconst 5 dr_cX14_symbol_143 (by decide +kernel) ?_
            refine G_goto 149 dr_cX14_symbol_144 (by decide +kernel) ?_
            refine Gp_put 3 hm650777 he650786 dr_cX14_symbol_149 (gk_X14 D I) (Nat.le_of_ble_eq_true rfl) wr_9_39 rfl rfl rfl (Nat.le_of_ble_eq_true rfl) (fun F650972 e650973 n650974 => ?_)
            have he650975 : F650972 q650171 = .inl (I .byte, 8192, .inl f650186) := (n650974 q650171 (rn_ao he650787 he650786)).trans he650787
            have he650976 : F650972 q650608 = .inr (0, [.ref q650609, .int 0, .int 0, .int 0]) := (n650974 q650608 (fun h => hq650630 (h ▸ hmq650170))).trans he650788
            have he650977 : F650972 q650609 = .inl (I .byte, n650610, .inl f650611) := (n650974 q650609 (fun h => hq650631 (h ▸ hmq650170))).trans he650789
            have he650978 : F650972 q650170 = .inr (19, [.ref q650171, .int p650173, .int p650174, .int 5, .int p650176, .int p650177, .int p650178, .ref qo650179, .int p650180, .int p650181, .int p650182, .ref qo650183, .ref qo650184, .int p650185]) := e650973
            have hfr650979 : rFr [q650170] P650168 F650169 F650972 := rFr_put hfr650790 n650974
            clear he650786 he650787 he650788 he650789 hfr650790 hz650805 ez650805 bz650805 bo650811 bo650811'; try clear r650809; try clear w650810; try clear dc650806; try clear ds650807; try clear hp650808; try clear r650971
            refine G_aload_n 2 dr_cX14_symbol_152 rfl ?_
            refine G_iload_n 0 dr_cX14_symbol_153 rfl ?_
            refine G_if_eq 161 dr_cX14_symbol_154 (by decide +kernel) (fun _ => ?_) (fun hc => absurd hc (by decide))
            refine G_iload_n 3 dr_cX14_symbol_161 rfl ?_
            refine G_bipush 32 dr_cX14_symbol_162 (by decide +kernel) ?_
            refine G_icmp_le 190 dr_cX14_symbol_164 (by decide +kernel) (fun hc => absurd (show False by have := gj_le hc (show Int32.toInt 32 = 32 by decide); omega) not_false) (fun _ => ?_)
            refine G_new [.null, .int 0, .int 0, .int 0] dr_cX14_symbol_167 (gk_J4 D I) wr_7_235 wr_7_44 wr_1_20 (gfs_J4) (Nat.le_trans (show 8 + 1 ≤ 16 by decide) hMC) (show 20 + (o650592.toInt.toNat + 4) + 0 + 4 + 16 + 0 + 0 + 0 + (o650739.toInt.toNat + 4) + 0 + 0 + 4 ≤ ((160 * (p650173.toInt - p650174.toInt)).toNat) by first | omega | decide) (fun q650980 => Gp_in (fun P650981 F650982 hq650983 hP650984 e650985 n650986 => ?_))
            refine G_widen (cs' := 9) (sl' := 20 + (o650592.toInt.toNat + 4) + 0 + 4 + 16 + 0 + 0 + 0 + (o650739.toInt.toNat + 4) + 0 + 0 + 4) (by omega) (by omega) ?_
            have he650987 : F650982 q650170 = .inr (19, [.ref q650171, .int p650173, .int p650174, .int 5, .int p650176, .int p650177, .int p650178, .ref qo650179, .int p650180, .int p650181, .int p650182, .ref qo650183, .ref qo650184, .int p650185]) := (n650986 q650170 (fun h => hq650983 (h ▸ hm650777))).trans he650978
            have he650988 : F650982 q650171 = .inl (I .byte, 8192, .inl f650186) := (n650986 q650171 (fun h => hq650983 (h ▸ hm650778))).trans he650975
            have he650989 : F650982 q650608 = .inr (0, [.ref q650609, .int 0, .int 0, .int 0]) := (n650986 q650608 (fun h => hq650983 (h ▸ hm650779))).trans he650976
            have he650990 : F650982 q650609 = .inl (I .byte, n650610, .inl f650611) := (n650986 q650609 (fun h => hq650983 (h ▸ hm650780))).trans he650977
            have he650991 : F650982 q650980 = .inr (1, [.null, .int 0, .int 0, .int 0]) := e650985
            have hm650992 : q650170 ∈ P650981 := (hP650984 q650170).mpr (Or.inl hm650777)
            have hm650993 : q650171 ∈ P650981 := (hP650984 q650171).mpr (Or.inl hm650778)
            have hm650994 : q650608 ∈ P650981 := (hP650984 q650608).mpr (Or.inl hm650779)
            have hm650995 : q650609 ∈ P650981 := (hP650984 q650609).mpr (Or.inl hm650780)
            have hm650996 : q650980 ∈ P650981 := (hP650984 q650980).mpr (Or.inr rfl)
            have hq650997 : q650980 ∉ P650168 := fun z => hq650983 (hsb650785 q650980 z)
            have hfr650998 : rFr [q650170] P650168 F650169 F650982 := rFr_new hsb650785 hq650983 hfr650979 n650986
            have hsb650999 : rSub P650168 P650981 := rSub_new hsb650785 hP650984
            refine G_dup dr_cX14_symbol_170 rfl ?_
            refine Gw_callI (As := []) (gV_ok D I) (cp_640525_StringBuilder_init l hl0 D I P650981 F650982 q650980 0 0 hm650996 he650991 (gB_w (gBl (show Int32.toInt 0 = 0 by decide)) (by decide) (by decide)) (gB_w (gBl (show Int32.toInt 0 = 0 by decide)) (by decide) (by decide))) dr_cX14_symbol_171 ⟨wr_7_236, wr_1_20, wr_7_47, by decide, rfl, (Nat.le_of_ble_eq_true rfl), (Nat.le_of_ble_eq_true rfl)⟩ wr_7_46 rfl (Nat.le_trans (show 9 + 1 ≤ 16 by decide) hMC) (show 20 + (o650592.toInt.toNat + 4) + 0 + 4 + 16 + 0 + 0 + 0 + (o650739.toInt.toNat + 4) + 0 + 0 + 4 + 16 ≤ ((160 * (p650173.toInt - p650174.toInt)).toNat) by first | omega | decide) (Nat.le_of_ble_eq_true rfl) (fun r651003 w651004 dc651000 ds651001 hp651002 => ?_)
            obtain ⟨P651006, F651007, q651005, rfl, rfl, hsb651008, hfr651009, he651010, he651011, hm651012, hq651013, hdc, hds⟩ := hp651002
            have hm651014 : q650170 ∈ P651006 := hsb651008 q650170 hm650992
            have hm651015 : q650171 ∈ P651006 := hsb651008 q650171 hm650993
            have hm651016 : q650608 ∈ P651006 := hsb651008 q650608 hm650994
            have hm651017 : q650609 ∈ P651006 := hsb651008 q650609 hm650995
            have hm651018 : q650980 ∈ P651006 := hsb651008 q650980 hm650996
            have hq651019 : q651005 ∉ P650168 := fun z => hq651013 (hsb650999 q651005 z)
            have hsb651020 : rSub P650168 P651006 := rSub_tr hsb650999 hsb651008
            have he651021 : F651007 q650170 = .inr (19, [.ref q650171, .int p650173, .int p650174, .int 5, .int p650176, .int p650177, .int p650178, .ref qo650179, .int p650180, .int p650181, .int p650182, .ref qo650183, .ref qo650184, .int p650185]) := (hfr651009 q650170 hm650992 (nm_c (fun h => hq650997 (h ▸ hmq650170)) nm_n)).trans he650987
            have he651022 : F651007 q650171 = .inl (I .byte, 8192, .inl f650186) := (hfr651009 q650171 hm650993 (nm_c (fun h => hq650997 (h ▸ hmq650171)) nm_n)).trans he650988
            have he651023 : F651007 q650608 = .inr (0, [.ref q650609, .int 0, .int 0, .int 0]) := (hfr651009 q650608 hm650994 (nm_c (rn_oo he650989 he650991 (by decide)) nm_n)).trans he650989
            have he651024 : F651007 q650609 = .inl (I .byte, n650610, .inl f650611) := (hfr651009 q650609 hm650995 (nm_c (rn_ao he650990 he650991) nm_n)).trans he650990
            have hfr651025 : rFr [q650170] P650168 F650169 F651007 := rFr_call hsb650999 hfr650998 hfr651009 (fun b hb hn => ⟨(nm_c (fun e => hn (e ▸ List.mem_cons_self)) nm_n), (nm_c (fun e => hq650997 (e ▸ hb)) nm_n)⟩)
            have hne651026 : q650609 ≠ q651005 := fun h => hq651013 (h ▸ hm650995)
            change G _ _ _ _ _ _ _ _ _ _ _
            refine G_widen (cs' := 10) (sl' := 20 + (o650592.toInt.toNat + 4) + 0 + 4 + 16 + 0 + 0 + 0 + (o650739.toInt.toNat + 4) + 0 + 0 + 4 + 16) (Nat.add_le_add_left hdc 9) (by omega) ?_
            refine G_ldcK (a := D.2 1000 32) dr_cX14_symbol_174 (fun _ _ _ h => gx_vk 32 rfl rfl h) ?_
            have hl32_651026 : (sb_32.length : Int) = 0 := rfl
            refine Gw_callV (As := [.ref (D.2 1000 32)]) (gV_ok D I) (cp_640822_StringBuilder_append l hl0 D I P651006 F651007 q650980 q651005 (D.2 1000 32) (D.2 1001 32) sb_32 0 0 (fun _ => 0) 16 hm651018 hm651012 he651010 he651011 (gx_sc 32 rfl rfl) (by omega) (by decide +kernel) (gB_w (gBl (show Int32.toInt 0 = 0 by decide)) (by decide) (by decide)) (gB_w (gBl (show Int32.toInt 0 = 0 by decide)) (by decide) (by decide)) (gF_w gF_0 (by decide) (by decide)) (by have qa0 : Int32.toInt 0 = 0 := (by decide); have qa1 : Int32.toInt 5 = 5 := (by decide); omega) (by have qa0 : Int32.toInt 0 = 0 := (by decide); have qa1 : Int32.toInt 5 = 5 := (by decide); omega)) dr_cX14_symbol_176 ⟨wr_8_195, wr_1_20, wr_8_143, by decide, rfl, (Nat.le_of_ble_eq_true rfl), (Nat.le_of_ble_eq_true rfl)⟩ wr_8_141 wr_8_142 hm651018 he651010 rfl (Nat.le_trans (show 10 + 0 ≤ 16 by decide) hMC) (show 20 + (o650592.toInt.toNat + 4) + 0 + 4 + 16 + 0 + 0 + 0 + (o650739.toInt.toNat + 4) + 0 + 0 + 4 + 16 + 0 ≤ ((160 * (p650173.toInt - p650174.toInt)).toNat) by first | omega | decide) (Nat.le_of_ble_eq_true rfl) (fun r651031 w651032 dc651028 ds651029 hp651030 => ?_) (fun _ _ _ _ _ z => z.elim)
            obtain ⟨F651038, o651033, f651034, rfl, rfl, hfr651040, he651041, he651042, hdc, hds, bo651033, bf651034, x651035, x651036, x651037⟩ := hp651030
            have he651043 : F651038 q650170 = .inr (19, [.ref q650171, .int p650173, .int p650174, .int 5, .int p650176, .int p650177, .int p650178, .ref qo650179, .int p650180, .int p650181, .int p650182, .ref qo650183, .ref qo650184, .int p650185]) := (hfr651040 q650170 hm651014 (nm_c (fun h => hq650997 (h ▸ hmq650170)) (nm_c (fun h => hq651019 (h ▸ hmq650170)) nm_n))).trans he651021
            have he651044 : F651038 q650171 = .inl (I .byte, 8192, .inl f650186) := (hfr651040 q650171 hm651015 (nm_c (fun h => hq650997 (h ▸ hmq650171)) (nm_c (fun h => hq651019 (h ▸ hmq650171)) nm_n))).trans he651022
            have he651045 : F651038 q650608 = .inr (0, [.ref q650609, .int 0, .int 0, .int 0]) := (hfr651040 q650608 hm651016 (nm_c (rn_oo he651023 he651010 (by decide)) (nm_c (rn_oa he651023 he651011) nm_n))).trans he651023
            have he651046 : F651038 q650609 = .inl (I .byte, n650610, .inl f650611) := (hfr651040 q650609 hm651017 (nm_c (rn_ao he651024 he651010) (nm_c hne651026 nm_n))).trans he651024
            have hfr651047 : rFr [q650170] P650168 F650169 F651038 := rFr_call hsb651020 hfr651025 hfr651040 (fun b hb hn => ⟨(nm_c (fun e => hn (e ▸ List.mem_cons_self)) nm_n), (nm_c (fun e => hq650997 (e ▸ hb)) (nm_c (fun e => hq651019 (e ▸ hb)) nm_n))⟩)
            rw [show Int32.toInt 0 = 0 from by decide] at x651035
            have bo651033' : gB o651033 0 0 := ⟨by omega, by omega⟩
            rw [show Int32.toInt 0 = 0 from by decide] at x651036
            rw [show Int32.toInt 0 = 0 from by decide] at x651037
            change G _ _ _ _ _ _ _ (.ref q650980 :: _) _ _ _
            refine G_widen (cs' := 10) (sl' := 20 + (o650592.toInt.toNat + 4) + 0 + 4 + 16 + 0 + 0 + 0 + (o650739.toInt.toNat + 4) + 0 + 0 + 4 + 16 + 0) (Nat.add_le_add_left hdc 10) (by omega) ?_
            refine G_iload_n 3 dr_cX14_symbol_179 rfl ?_
            refine G_i2c dr_cX14_symbol_180 (G_nam fun z651048 hz651048 => ?_)
            have ez651048 : z651048.toInt = p650172.toInt := gI_i2c hz651048 (by omega) (by omega)
            have bz651048 : gB z651048 33 127 := ⟨by omega, by omega⟩
            refine Gw_callV (As := [.int z651048]) (gV_ok D I) (cp_640099_StringBuilder_append l hl0 D I P651006 F651038 q650980 q651005 z651048 0 o651033 f651034 16 hm651018 hm651012 he651041 he651042 (gB_w bz651048 (by decide) (by decide)) (gB_w (gBl (show Int32.toInt 0 = 0 by decide)) (by decide) (by decide)) (gB_w bo651033' (by decide) (by decide)) bf651034 (by have qa0 : Int32.toInt 0 = 0 := (by decide); have qa1 : Int32.toInt 5 = 5 := (by decide); omega) (by have qa0 : Int32.toInt 0 = 0 := (by decide); have qa1 : Int32.toInt 5 = 5 := (by decide); omega)) dr_cX14_symbol_181 ⟨wr_7_237, wr_1_20, wr_8_0, by decide, rfl, (Nat.le_of_ble_eq_true rfl), (Nat.le_of_ble_eq_true rfl)⟩ wr_7_238 wr_7_239 hm651018 he651041 rfl (Nat.le_trans (show 10 + 0 ≤ 16 by decide) hMC) (show 20 + (o650592.toInt.toNat + 4) + 0 + 4 + 16 + 0 + 0 + 0 + (o650739.toInt.toNat + 4) + 0 + 0 + 4 + 16 + 0 + 0 ≤ ((160 * (p650173.toInt - p650174.toInt)).toNat) by first | omega | decide) (Nat.le_of_ble_eq_true rfl) (fun r651052 w651053 dc651049 ds651050 hp651051 => ?_) (fun _ _ _ _ _ z => z.elim)
            obtain ⟨F651057, o651054, f651055, rfl, rfl, hfr651059, he651060, he651061, hdc, hds, bo651054, bf651055, x651056⟩ := hp651051
            have he651062 : F651057 q650170 = .inr (19, [.ref q650171, .int p650173, .int p650174, .int 5, .int p650176, .int p650177, .int p650178, .ref qo650179, .int p650180, .int p650181, .int p650182, .ref qo650183, .ref qo650184, .int p650185]) := (hfr651059 q650170 hm651014 (nm_c (fun h => hq651019 (h ▸ hmq650170)) (nm_c (fun h => hq650997 (h ▸ hmq650170)) nm_n))).trans he651043
            have he651063 : F651057 q650171 = .inl (I .byte, 8192, .inl f650186) := (hfr651059 q650171 hm651015 (nm_c (fun h => hq651019 (h ▸ hmq650171)) (nm_c (fun h => hq650997 (h ▸ hmq650171)) nm_n))).trans he651044
            have he651064 : F651057 q650608 = .inr (0, [.ref q650609, .int 0, .int 0, .int 0]) := (hfr651059 q650608 hm651016 (nm_c (rn_oa he651045 he651042) (nm_c (rn_oo he651045 he651041 (by decide)) nm_n))).trans he651045
            have he651065 : F651057 q650609 = .inl (I .byte, n650610, .inl f650611) := (hfr651059 q650609 hm651017 (nm_c hne651026 (nm_c (rn_ao he651046 he651041) nm_n))).trans he651046
            have hfr651066 : rFr [q650170] P650168 F650169 F651057 := rFr_call hsb651020 hfr651047 hfr651059 (fun b hb hn => ⟨(nm_c (fun e => hn (e ▸ List.mem_cons_self)) nm_n), (nm_c (fun e => hq651019 (e ▸ hb)) (nm_c (fun e => hq650997 (e ▸ hb)) nm_n))⟩)
            have bo651054' : gB o651054 1 1 := ⟨by omega, by omega⟩
            change G _ _ _ _ _ _ _ (.ref q650980 :: _) _ _ _
            refine G_widen (cs' := 10) (sl' := 20 + (o650592.toInt.toNat + 4) + 0 + 4 + 16 + 0 + 0 + 0 + (o650739.toInt.toNat + 4) + 0 + 0 + 4 + 16 + 0 + 0) (Nat.add_le_add_left hdc 10) (by omega) ?_
            refine Gw_callV (As := []) (gV_ok D I) (cp_641282_StringBuilder_toString l hl0 D I P651006 F651057 q650980 q651005 0 o651054 f651055 16 hm651018 hm651012 he651060 he651061 (gB_w (gBl (show Int32.toInt 0 = 0 by decide)) (by decide) (by decide)) (gB_w bo651054' (by decide) (by decide)) bf651055 (by have qa0 : Int32.toInt 0 = 0 := (by decide); have qa1 : Int32.toInt 5 = 5 := (by decide); omega) (by have qa0 : Int32.toInt 0 = 0 := (by decide); have qa1 : Int32.toInt 5 = 5 := (by decide); omega)) dr_cX14_symbol_184 ⟨wr_8_66, wr_1_20, wr_8_69, by decide, rfl, (Nat.le_of_ble_eq_true rfl), (Nat.le_of_ble_eq_true rfl)⟩ wr_8_67 wr_8_68 hm651018 he651060 rfl (Nat.le_trans (show 10 + 2 ≤ 16 by decide) hMC) (show 20 + (o650592.toInt.toNat + 4) + 0 + 4 + 16 + 0 + 0 + 0 + (o650739.toInt.toNat + 4) + 0 + 0 + 4 + 16 + 0 + 0 + (o651054.toInt.toNat + 4) ≤ ((160 * (p650173.toInt - p650174.toInt)).toNat) by first | omega | decide) (Nat.le_of_ble_eq_true rfl) (fun r651070 w651071 dc651067 ds651068 hp651069 => ?_) (fun _ _ _ _ _ z => z.elim)
            obtain ⟨P651078, F651079, q651072, q651073, n651074, f651075, rfl, rfl, hsb651080, hfr651081, he651082, he651083, he651084, he651085, hm651086, hq651087, hm651088, hq651089, hdc, hds, bf651075, x651076, x651077⟩ := hp651069
            have hm651090 : q650170 ∈ P651078 := hsb651080 q650170 hm651014
            have hm651091 : q650171 ∈ P651078 := hsb651080 q650171 hm651015
            have hm651092 : q650608 ∈ P651078 := hsb651080 q650608 hm651016
            have hm651093 : q650609 ∈ P651078 := hsb651080 q650609 hm651017
            have hm651094 : q650980 ∈ P651078 := hsb651080 q650980 hm651018
            have hm651095 : q651005 ∈ P651078 := hsb651080 q651005 hm651012
            have hq651096 : q651072 ∉ P650168 := fun z => hq651087 (hsb651020 q651072 z)
            have hq651097 : q651073 ∉ P650168 := fun z => hq651089 (hsb651020 q651073 z)
            have hsb651098 : rSub P650168 P651078 := rSub_tr hsb651020 hsb651080
            have he651099 : F651079 q650170 = .inr (19, [.ref q650171, .int p650173, .int p650174, .int 5, .int p650176, .int p650177, .int p650178, .ref qo650179, .int p650180, .int p650181, .int p650182, .ref qo650183, .ref qo650184, .int p650185]) := (hfr651081 q650170 hm651014 nm_n).trans he651062
            have he651100 : F651079 q650171 = .inl (I .byte, 8192, .inl f650186) := (hfr651081 q650171 hm651015 nm_n).trans he651063
            have he651101 : F651079 q650608 = .inr (0, [.ref q650609, .int 0, .int 0, .int 0]) := (hfr651081 q650608 hm651016 nm_n).trans he651064
            have he651102 : F651079 q650609 = .inl (I .byte, n650610, .inl f650611) := (hfr651081 q650609 hm651017 nm_n).trans he651065
            have hfr651103 : rFr [q650170] P650168 F650169 F651079 := rFr_call hsb651020 hfr651066 hfr651081 (fun b hb hn => ⟨(nm_c (fun e => hn (e ▸ List.mem_cons_self)) nm_n), nm_n⟩)
            have hne651104 : q650608 ≠ q651072 := fun h => hq651087 (h ▸ hm651016)
            have hne651105 : q650609 ≠ q651073 := fun h => hq651089 (h ▸ hm651017)
            have hne651106 : q651005 ≠ q651073 := fun h => hq651089 (h ▸ hm651012)
            change G _ _ _ _ _ _ _ (.ref q651072 :: _) _ _ _
            refine G_widen (cs' := 12) (sl' := 20 + (o650592.toInt.toNat + 4) + 0 + 4 + 16 + 0 + 0 + 0 + (o650739.toInt.toNat + 4) + 0 + 0 + 4 + 16 + 0 + 0 + (o651054.toInt.toNat + 4)) (Nat.add_le_add_left hdc 10) (by omega) ?_
            refine G_goto 192 dr_cX14_symbol_187 (by decide +kernel) ?_
            refine Gp_put 7 hm651090 he651099 dr_cX14_symbol_192 (gk_X14 D I) (Nat.le_of_ble_eq_true rfl) wr_9_43 rfl rfl rfl (Nat.le_of_ble_eq_true rfl) (fun F651107 e651108 n651109 => ?_)
            have he651110 : F651107 q650171 = .inl (I .byte, 8192, .inl f650186) := (n651109 q650171 (rn_ao he651100 he651099)).trans he651100
            have he651111 : F651107 q650608 = .inr (0, [.ref q650609, .int 0, .int 0, .int 0]) := (n651109 q650608 (fun h => hq650630 (h ▸ hmq650170))).trans he651101
            have he651112 : F651107 q650609 = .inl (I .byte, n650610, .inl f650611) := (n651109 q650609 (fun h => hq650631 (h ▸ hmq650170))).trans he651102
            have he651113 : F651107 q651072 = .inr (0, [.ref q651073, .int 0, .int 0, .int 0]) := (n651109 q651072 (fun h => hq651096 (h ▸ hmq650170))).trans he651082
            have he651114 : F651107 q650980 = .inr (1, [.ref q651005, .int 0, .int 0, .int o651054]) := (n651109 q650980 (fun h => hq650997 (h ▸ hmq650170))).trans he651083
            have he651115 : F651107 q651005 = .inl (I .byte, 16, .inl f651055) := (n651109 q651005 (fun h => hq651019 (h ▸ hmq650170))).trans he651084
            have he651116 : F651107 q651073 = .inl (I .byte, n651074, .inl f651075) := (n651109 q651073 (fun h => hq651097 (h ▸ hmq650170))).trans he651085
            have he651117 : F651107 q650170 = .inr (19, [.ref q650171, .int p650173, .int p650174, .int 5, .int p650176, .int p650177, .int p650178, .ref q651072, .int p650180, .int p650181, .int p650182, .ref qo650183, .ref qo650184, .int p650185]) := e651108
            have hfr651118 : rFr [q650170] P650168 F650169 F651107 := rFr_put' List.mem_cons_self hfr651103 n651109
            clear hm650777 hm650778 hm650779 hm650780 hsb650785 he650975 he650976 he650977 he650978 hfr650979 he650987 he650988 he650989 he650990 he650991 hm650992 hm650993 hm650994 hm650995 hm650996 hq650997 hfr650998 hsb650999 hsb651008 hfr651009 he651010 he651011 hm651012 hq651013 hm651014 hm651015 hm651016 hm651017 hm651018 hq651019 hsb651020 he651021 he651022 he651023 he651024 hfr651025 hne651026 hfr651040 he651041 he651042 bo651033 bf651034 he651043 he651044 he651045 he651046 hfr651047 hz651048 ez651048 bz651048 hfr651059 he651060 he651061 bo651054 bf651055 he651062 he651063 he651064 he651065 hfr651066 hsb651080 hfr651081 he651082 he651083 he651084 he651085 hq651087 hq651089 hm651094 hm651095 he651099 he651100 he651101 he651102 hfr651103 hne651106 he651114 he651115; try clear r651003; try clear w651004; try clear dc651000; try clear ds651001; try clear hp651002; try clear r651031; try clear w651032; try clear dc651028; try clear ds651029; try clear hp651030; try clear x651036; try clear x651037; try clear r651052; try clear w651053; try clear dc651049; try clear ds651050; try clear hp651051; try clear r651070; try clear w651071; try clear dc651067; try clear ds651068; try clear hp651069; try clear x651077
            refine G_aload_n 2 dr_cX14_symbol_195 rfl ?_
            refine G_dup dr_cX14_symbol_196 rfl ?_
            refine Gp_get 2 hm651090 he651117 dr_cX14_symbol_197 (gk_X14 D I) (Nat.le_of_ble_eq_true rfl) wr_9_38 rfl ?_
            refine G_iload_n 0 dr_cX14_symbol_200 rfl ?_
            refine G_if_eq 208 dr_cX14_symbol_201 (by decide +kernel) (fun _ => ?_) (fun hc => absurd hc (by decide))
            refine G_iconst 1 dr_cX14_symbol_208 (by decide +kernel) ?_
            refine G_iadd dr_cX14_symbol_209 (G_eqi (y := z650501) hz650501.symm ?_)
            refine Gp_put 2 hm651090 he651117 dr_cX14_symbol_210 (gk_X14 D I) (Nat.le_of_ble_eq_true rfl) wr_9_38 rfl rfl rfl (Nat.le_of_ble_eq_true rfl) (fun F651119 e651120 n651121 => ?_)
            have he651122 : F651119 q650171 = .inl (I .byte, 8192, .inl f650186) := (n651121 q650171 (rn_ao he651110 he651117)).trans he651110
            have he651123 : F651119 q650608 = .inr (0, [.ref q650609, .int 0, .int 0, .int 0]) := (n651121 q650608 (fun h => hq650630 (h ▸ hmq650170))).trans he651111
            have he651124 : F651119 q650609 = .inl (I .byte, n650610, .inl f650611) := (n651121 q650609 (fun h => hq650631 (h ▸ hmq650170))).trans he651112
            have he651125 : F651119 q651072 = .inr (0, [.ref q651073, .int 0, .int 0, .int 0]) := (n651121 q651072 (fun h => hq651096 (h ▸ hmq650170))).trans he651113
            have he651126 : F651119 q651073 = .inl (I .byte, n651074, .inl f651075) := (n651121 q651073 (fun h => hq651097 (h ▸ hmq650170))).trans he651116
            have he651127 : F651119 q650170 = .inr (19, [.ref q650171, .int p650173, .int z650501, .int 5, .int p650176, .int p650177, .int p650178, .ref q651072, .int p650180, .int p650181, .int p650182, .ref qo650183, .ref qo650184, .int p650185]) := e651120
            have hfr651128 : rFr [q650170] P650168 F650169 F651119 := rFr_put' List.mem_cons_self hfr651118 n651121
            exact G_vretA dr_cX14_symbol_213 rfl (show 12 ≤ ((16 * (p650173.toInt - p650174.toInt)).toNat) by omega) (show 20 + (o650592.toInt.toNat + 4) + 0 + 4 + 16 + 0 + 0 + 0 + (o650739.toInt.toNat + 4) + 0 + 0 + 4 + 16 + 0 + 0 + (o651054.toInt.toNat + 4) ≤ ((160 * (p650173.toInt - p650174.toInt)).toNat) by omega) ⟨P651078, F651119, z650501, 5, q651072, rfl, rfl, hsb651098, hfr651128, he651127, he651122, (by omega), (by omega), (gB_w bz650501' (by decide) (by decide)), (gB_w (gBl (show Int32.toInt 5 = 5 by decide)) (by decide) (by decide)), (by have qa0 : Int32.toInt 0 = 0 := (by decide); have qa1 : Int32.toInt 5 = 5 := (by decide); omega), (by have qa0 : Int32.toInt 0 = 0 := (by decide); have qa1 : Int32.toInt 5 = 5 := (by decide); omega), (tP_5 hm651086 he651125 hm651088 he651126 bf651075 (by omega) (gB_w (gBl (show Int32.toInt 0 = 0 by decide)) (by decide) (by decide)) (fun e => hq651097 (e ▸ x650189)) (fun e => hq651097 (e ▸ x650190))), (vP_no (by decide) (by decide))⟩
        · have r651129 : 0 ≤ o650799.toInt := gj_nlt hc650802 (show Int32.toInt 0 = 0 by decide)
          have bo650799' : gB o650799 0 16777215 := ⟨by omega, by omega⟩
          refine G_iconst 1 dr_cX14_symbol_116 (by decide +kernel) ?_
          refine G_goto 121 dr_cX14_symbol_117 (by decide +kernel) ?_
          refine G_istore_n (L' := [(3, .int 1), (2, .ref q650608), (0, .ref q650170), (1, .int p650172)]) dr_cX14_symbol_121 (Nat.le_of_ble_eq_true rfl) rfl ?_
          clear he650618 he650621 hm650622 hm650624 hm650626 hm650627 hsb650632 he650633 he650634 hfr650635 he650652 he650653 he650654 he650655 he650656 hm650657 hm650658 hm650659 hm650660 hm650661 hq650662 hfr650663 hsb650664 hsb650673 hfr650674 he650675 he650676 hm650677 hq650678 hm650679 hm650680 hm650681 hm650682 hm650683 hq650684 hsb650685 he650686 he650687 he650688 he650689 hfr650690 hne650691 hfr650705 he650706 he650707 bo650698 bf650699 he650708 he650709 he650710 he650711 hfr650712 hfr650725 he650726 he650727 he650728 he650729 bo650718 bf650719 he650730 he650731 hfr650732 hfr650746 he650747 he650748 bo650739 bf650740 he650749 he650750 he650751 he650752 hfr650753 hsb650767 hfr650768 he650769 he650770 he650771 he650772 hm650773 hq650774 hm650775 hq650776 bf650762 hm650781 hm650782 hq650783 hq650784 hne650791 hne650792 hne650793 bo650799; try clear r650668; try clear w650669; try clear dc650665; try clear ds650666; try clear hp650667; try clear r650696; try clear w650697; try clear dc650693; try clear ds650694; try clear hp650695; try clear x650701; try clear x650702; try clear r650716; try clear w650717; try clear dc650713; try clear ds650714; try clear hp650715; try clear x650721; try clear x650722; try clear r650737; try clear w650738; try clear dc650734; try clear ds650735; try clear hp650736; try clear x650742; try clear x650743; try clear r650757; try clear w650758; try clear dc650754; try clear ds650755; try clear hp650756; try clear x650764; try clear r650797; try clear w650798; try clear dc650794; try clear ds650795; try clear hp650796; try clear x650801
          refine G_aload_n 2 dr_cX14_symbol_122 rfl ?_
          refine G_iload_n 0 dr_cX14_symbol_123 rfl ?_
          refine G_if_ne 143 dr_cX14_symbol_124 (by decide +kernel) (fun _ => ?_) (fun hc => absurd hc (by decide))
          refine G_iconst 5 dr_cX14_symbol_143 (by decide +kernel) ?_
          refine G_goto 149 dr_cX14_symbol_144 (by decide +kernel) ?_
          refine Gp_put 3 hm650777 he650786 dr_cX14_symbol_149 (gk_X14 D I) (Nat.le_of_ble_eq_true rfl) wr_9_39 rfl rfl rfl (Nat.le_of_ble_eq_true rfl) (fun F651130 e651131 n651132 => ?_)
          have he651133 : F651130 q650171 = .inl (I .byte, 8192, .inl f650186) := (n651132 q650171 (rn_ao he650787 he650786)).trans he650787
          have he651134 : F651130 q650608 = .inr (0, [.ref q650609, .int 0, .int 0, .int 0]) := (n651132 q650608 (fun h => hq650630 (h ▸ hmq650170))).trans he650788
          have he651135 : F651130 q650609 = .inl (I .byte, n650610, .inl f650611) := (n651132 q650609 (fun h => hq650631 (h ▸ hmq650170))).trans he650789
          have he651136 : F651130 q650170 = .inr (19, [.ref q650171, .int p650173, .int p650174, .int 5, .int p650176, .int p650177, .int p650178, .ref qo650179, .int p650180, .int p650181, .int p650182, .ref qo650183, .ref qo650184, .int p650185]) := e651131
          have hfr651137 : rFr [q650170] P650168 F650169 F651130 := rFr_put hfr650790 n651132
          clear he650786 he650787 he650788 he650789 hfr650790
          refine G_aload_n 2 dr_cX14_symbol_152 rfl ?_
          refine G_iload_n 0 dr_cX14_symbol_153 rfl ?_
          refine G_if_eq 161 dr_cX14_symbol_154 (by decide +kernel) (fun hc => absurd hc (by decide)) (fun _ => ?_)
          refine G_aload_n 1 dr_cX14_symbol_157 rfl ?_
          refine G_goto 192 dr_cX14_symbol_158 (by decide +kernel) ?_
          refine Gp_put 7 hm650777 he651136 dr_cX14_symbol_192 (gk_X14 D I) (Nat.le_of_ble_eq_true rfl) wr_9_43 rfl rfl rfl (Nat.le_of_ble_eq_true rfl) (fun F651138 e651139 n651140 => ?_)
          have he651141 : F651138 q650171 = .inl (I .byte, 8192, .inl f650186) := (n651140 q650171 (rn_ao he651133 he651136)).trans he651133
          have he651142 : F651138 q650608 = .inr (0, [.ref q650609, .int 0, .int 0, .int 0]) := (n651140 q650608 (fun h => hq650630 (h ▸ hmq650170))).trans he651134
          have he651143 : F651138 q650609 = .inl (I .byte, n650610, .inl f650611) := (n651140 q650609 (fun h => hq650631 (h ▸ hmq650170))).trans he651135
          have he651144 : F651138 q650170 = .inr (19, [.ref q650171, .int p650173, .int p650174, .int 5, .int p650176, .int p650177, .int p650178, .ref q650608, .int p650180, .int p650181, .int p650182, .ref qo650183, .ref qo650184, .int p650185]) := e651139
          have hfr651145 : rFr [q650170] P650168 F650169 F651138 := rFr_put' List.mem_cons_self hfr651137 n651140
          clear he651133 he651134 he651135 he651136 hfr651137
          refine G_aload_n 2 dr_cX14_symbol_195 rfl ?_
          refine G_dup dr_cX14_symbol_196 rfl ?_
          refine Gp_get 2 hm650777 he651144 dr_cX14_symbol_197 (gk_X14 D I) (Nat.le_of_ble_eq_true rfl) wr_9_38 rfl ?_
          refine G_iload_n 0 dr_cX14_symbol_200 rfl ?_
          refine G_if_eq 208 dr_cX14_symbol_201 (by decide +kernel) (fun hc => absurd hc (by decide)) (fun _ => ?_)
          refine G_iconst 2 dr_cX14_symbol_204 (by decide +kernel) ?_
          refine G_goto 209 dr_cX14_symbol_205 (by decide +kernel) ?_
          refine G_iadd dr_cX14_symbol_209 (G_nam fun z651146 hz651146 => ?_)
          have ez651146 : z651146.toInt = p650174.toInt + 2 := by rw [gI_add hz651146 bp650174 (gBl (show Int32.toInt 2 = 2 by decide)) (by decide) (by decide), show Int32.toInt 2 = 2 from by decide]
          have bz651146 : gB z651146 2 8194 := gB_add (gI_add hz651146 bp650174 (gBl (show Int32.toInt 2 = 2 by decide)) (by decide) (by decide)) bp650174 (gBl (show Int32.toInt 2 = 2 by decide)) (by decide) (by decide)
          refine Gp_put 2 hm650777 he651144 dr_cX14_symbol_210 (gk_X14 D I) (Nat.le_of_ble_eq_true rfl) wr_9_38 rfl rfl rfl (Nat.le_of_ble_eq_true rfl) (fun F651147 e651148 n651149 => ?_)
          have he651150 : F651147 q650171 = .inl (I .byte, 8192, .inl f650186) := (n651149 q650171 (rn_ao he651141 he651144)).trans he651141
          have he651151 : F651147 q650608 = .inr (0, [.ref q650609, .int 0, .int 0, .int 0]) := (n651149 q650608 (fun h => hq650630 (h ▸ hmq650170))).trans he651142
          have he651152 : F651147 q650609 = .inl (I .byte, n650610, .inl f650611) := (n651149 q650609 (fun h => hq650631 (h ▸ hmq650170))).trans he651143
          have he651153 : F651147 q650170 = .inr (19, [.ref q650171, .int p650173, .int z651146, .int 5, .int p650176, .int p650177, .int p650178, .ref q650608, .int p650180, .int p650181, .int p650182, .ref qo650183, .ref qo650184, .int p650185]) := e651148
          have hfr651154 : rFr [q650170] P650168 F650169 F651147 := rFr_put' List.mem_cons_self hfr651145 n651149
          exact G_vretA dr_cX14_symbol_213 rfl (show 8 ≤ ((16 * (p650173.toInt - p650174.toInt)).toNat) by omega) (show 20 + (o650592.toInt.toNat + 4) + 0 + 4 + 16 + 0 + 0 + 0 + (o650739.toInt.toNat + 4) + 0 ≤ ((160 * (p650173.toInt - p650174.toInt)).toNat) by omega) ⟨P650765, F651147, z651146, 5, q650608, rfl, rfl, hsb650785, hfr651154, he651153, he651150, (by omega), (by omega), ⟨by omega, by omega⟩, (gB_w (gBl (show Int32.toInt 5 = 5 by decide)) (by decide) (by decide)), (by have qa0 : Int32.toInt 0 = 0 := (by decide); have qa1 : Int32.toInt 1 = 1 := (by decide); have qa2 : Int32.toInt 5 = 5 := (by decide); omega), (by have qa0 : Int32.toInt 0 = 0 := (by decide); have qa1 : Int32.toInt 1 = 1 := (by decide); have qa2 : Int32.toInt 5 = 5 := (by decide); omega), (tP_5 hm650779 he651151 hm650780 he651152 bf650611 (by omega) (gB_w (gBl (show Int32.toInt 0 = 0 by decide)) (by decide) (by decide)) (fun e => hq650631 (e ▸ x650189)) (fun e => hq650631 (e ▸ x650190))), (vP_no (by decide) (by decide))⟩
