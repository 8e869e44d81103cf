theorem dr_cX14_symbol_73 : decode cX14_symbol 73 = .ok (.ldc 9, 2) := by decide +kernel
theorem dr_cX14_symbol_75 : decode cX14_symbol 75 = .ok (.astore_n 2, 1) := by decide +kernel
theorem dr_cX14_symbol_76 : decode cX14_symbol 76 = .ok (.aload_n 2, 1) := by decide +kernel
theorem dr_cX14_symbol_77 : decode cX14_symbol 77 = .ok (.invokevirtual 113, 3) := by decide +kernel
theorem wr_8_227 : (Jvm.Cond.methodLink "SpillForgeModel$Reader" (113 : Nat) ({ cls := "java/lang/String", name := "length", desc := "()I" } : Jvm.MethodName)) ∈ gw := gw_8 227 rfl rfl
theorem dr_cX14_symbol_80 : decode cX14_symbol 80 = .ok (.iconst 2, 1) := by decide +kernel
theorem dr_cX14_symbol_81 : decode cX14_symbol 81 = .ok (.if_icmp .ne 39, 3) := by decide +kernel
theorem dr_cX14_symbol_120 : decode cX14_symbol 120 = .ok (.iconst 0, 1) := by decide +kernel
theorem dr_cX14_symbol_121 : decode cX14_symbol 121 = .ok (.istore_n 3, 1) := by decide +kernel
theorem dr_cX14_symbol_122 : decode cX14_symbol 122 = .ok (.aload_n 0, 1) := by decide +kernel
theorem dr_cX14_symbol_123 : decode cX14_symbol 123 = .ok (.iload_n 3, 1) := by decide +kernel
theorem dr_cX14_symbol_124 : decode cX14_symbol 124 = .ok (.ifCond .ne 19, 3) := by decide +kernel
theorem dr_cX14_symbol_127 : decode cX14_symbol 127 = .ok (.iload_n 1, 1) := by decide +kernel
theorem dr_cX14_symbol_128 : decode cX14_symbol 128 = .ok (.bipush 32, 2) := by decide +kernel
theorem dr_cX14_symbol_130 : decode cX14_symbol 130 = .ok (.if_icmp .le 17, 3) := by decide +kernel
theorem dr_cX14_symbol_147 : decode cX14_symbol 147 = .ok (.bipush 6, 2) := by decide +kernel
theorem dr_cX14_symbol_149 : decode cX14_symbol 149 = .ok (.putfield 38, 3) := by decide +kernel
theorem dr_cX14_symbol_152 : decode cX14_symbol 152 = .ok (.aload_n 0, 1) := by decide +kernel
theorem dr_cX14_symbol_153 : decode cX14_symbol 153 = .ok (.iload_n 3, 1) := by decide +kernel
theorem dr_cX14_symbol_154 : decode cX14_symbol 154 = .ok (.ifCond .eq 7, 3) := by decide +kernel
theorem dr_cX14_symbol_161 : decode cX14_symbol 161 = .ok (.iload_n 1, 1) := by decide +kernel
theorem dr_cX14_symbol_162 : decode cX14_symbol 162 = .ok (.bipush 32, 2) := by decide +kernel
theorem dr_cX14_symbol_164 : decode cX14_symbol 164 = .ok (.if_icmp .le 26, 3) := by decide +kernel
theorem dr_cX14_symbol_190 : decode cX14_symbol 190 = .ok (.ldc 9, 2) := by decide +kernel
theorem dr_cX14_symbol_192 : decode cX14_symbol 192 = .ok (.putfield 11, 3) := by decide +kernel
theorem wr_9_43 : (Jvm.Cond.fieldLink "SpillForgeModel$Reader" (11 : Nat) "SpillForgeModel$Reader" "text" "Ljava/lang/String;") ∈ gw := gw_9 43 rfl rfl
theorem dr_cX14_symbol_195 : decode cX14_symbol 195 = .ok (.aload_n 0, 1) := by decide +kernel
theorem dr_cX14_symbol_196 : decode cX14_symbol 196 = .ok (.dup, 1) := by decide +kernel
theorem dr_cX14_symbol_197 : decode cX14_symbol 197 = .ok (.getfield 44, 3) := by decide +kernel
theorem dr_cX14_symbol_200 : decode cX14_symbol 200 = .ok (.iload_n 3, 1) := by decide +kernel
theorem dr_cX14_symbol_201 : decode cX14_symbol 201 = .ok (.ifCond .eq 7, 3) := by decide +kernel
theorem dr_cX14_symbol_208 : decode cX14_symbol 208 = .ok (.iconst 1, 1) := by decide +kernel
theorem dr_cX14_symbol_209 : decode cX14_symbol 209 = .ok (.iadd, 1) := by decide +kernel
theorem dr_cX14_symbol_210 : decode cX14_symbol 210 = .ok (.putfield 44, 3) := by decide +kernel
theorem dr_cX14_symbol_213 : decode cX14_symbol 213 = .ok (.return_, 1) := by decide +kernel
theorem dr_cX14_symbol_133 : decode cX14_symbol 133 = .ok (.ldc 119, 2) := by decide +kernel
theorem dr_cX14_symbol_135 : decode cX14_symbol 135 = .ok (.iload_n 1, 1) := by decide +kernel
theorem dr_cX14_symbol_136 : decode cX14_symbol 136 = .ok (.i2c, 1) := by decide +kernel
theorem dr_cX14_symbol_137 : decode cX14_symbol 137 = .ok (.invokevirtual 121, 3) := by decide +kernel
theorem wr_8_230 : (Jvm.Cond.methodLink "SpillForgeModel$Reader" (121 : Nat) ({ cls := "java/lang/String", name := "indexOf", desc := "(I)I" } : Jvm.MethodName)) ∈ gw := gw_8 230 rfl rfl
theorem wr_8_233 : (Jvm.Cond.code ({ cls := "java/lang/String", name := "indexOf", desc := "(I)I" } : Jvm.MethodName) prog_34_method_79_code (2 : Nat) (Option.some Jvm.ClassFile.FieldType.int)) ∈ gw := gw_8 233 rfl rfl
theorem wr_8_231 : (Jvm.Cond.instanceMethod ({ cls := "java/lang/String", name := "indexOf", desc := "(I)I" } : Jvm.MethodName)) ∈ gw := gw_8 231 rfl rfl
theorem wr_8_232 : (Jvm.Cond.selects "java/lang/String" ({ cls := "java/lang/String", name := "indexOf", desc := "(I)I" } : Jvm.MethodName) ({ cls := "java/lang/String", name := "indexOf", desc := "(I)I" } : Jvm.MethodName)) ∈ gw := gw_8 232 rfl rfl
theorem dr_cX14_symbol_140 : decode cX14_symbol 140 = .ok (.ifCond .lt 7, 3) := by decide +kernel
theorem dr_cX14_symbol_167 : decode cX14_symbol 167 = .ok (.new 87, 3) := by decide +kernel
theorem wr_7_235 : (Jvm.Cond.classLink "SpillForgeModel$Reader" (87 : Nat) "java/lang/StringBuilder") ∈ gw := gw_7 235 rfl rfl
theorem dr_cX14_symbol_170 : decode cX14_symbol 170 = .ok (.dup, 1) := by decide +kernel
theorem dr_cX14_symbol_171 : decode cX14_symbol 171 = .ok (.invokespecial 89, 3) := by decide +kernel
theorem wr_7_236 : (Jvm.Cond.methodLink "SpillForgeModel$Reader" (89 : Nat) ({ cls := "java/lang/StringBuilder", name := "<init>", desc := "()V" } : Jvm.MethodName)) ∈ gw := gw_7 236 rfl rfl
theorem wr_7_47 : (Jvm.Cond.code ({ cls := "java/lang/StringBuilder", name := "<init>", desc := "()V" } : Jvm.MethodName) prog_35_method_1_code (1 : Nat) (Option.none : Option Jvm.ClassFile.FieldType)) ∈ gw := gw_7 47 rfl rfl
theorem wr_7_46 : (Jvm.Cond.instanceMethod ({ cls := "java/lang/StringBuilder", name := "<init>", desc := "()V" } : Jvm.MethodName)) ∈ gw := gw_7 46 rfl rfl
theorem dr_cX14_symbol_174 : decode cX14_symbol 174 = .ok (.ldc 9, 2) := by decide +kernel
theorem dr_cX14_symbol_176 : decode cX14_symbol 176 = .ok (.invokevirtual 102, 3) := by decide +kernel
theorem wr_8_195 : (Jvm.Cond.methodLink "SpillForgeModel$Reader" (102 : Nat) ({ cls := "java/lang/StringBuilder", name := "append", desc := "(Ljava/lang/String;)Ljava/lang/StringBuilder;" } : Jvm.MethodName)) ∈ gw := gw_8 195 rfl rfl
theorem wr_8_143 : (Jvm.Cond.code ({ cls := "java/lang/StringBuilder", name := "append", desc := "(Ljava/lang/String;)Ljava/lang/StringBuilder;" } : Jvm.MethodName) prog_35_method_7_code (2 : Nat) (Option.some (Jvm.ClassFile.FieldType.object "java/lang/StringBuilder"))) ∈ gw := gw_8 143 rfl rfl
theorem wr_8_141 : (Jvm.Cond.instanceMethod ({ cls := "java/lang/StringBuilder", name := "append", desc := "(Ljava/lang/String;)Ljava/lang/StringBuilder;" } : Jvm.MethodName)) ∈ gw := gw_8 141 rfl rfl
theorem wr_8_142 : (Jvm.Cond.selects "java/lang/StringBuilder" ({ cls := "java/lang/StringBuilder", name := "append", desc := "(Ljava/lang/String;)Ljava/lang/StringBuilder;" } : Jvm.MethodName) ({ cls := "java/lang/StringBuilder", name := "append", desc := "(Ljava/lang/String;)Ljava/lang/StringBuilder;" } : Jvm.MethodName)) ∈ gw := gw_8 142 rfl rfl
theorem dr_cX14_symbol_179 : decode cX14_symbol 179 = .ok (.iload_n 1, 1) := by decide +kernel
theorem dr_cX14_symbol_180 : decode cX14_symbol 180 = .ok (.i2c, 1) := by decide +kernel
theorem dr_cX14_symbol_181 : decode cX14_symbol 181 = .ok (.invokevirtual 90, 3) := by decide +kernel
theorem wr_7_237 : (Jvm.Cond.methodLink "SpillForgeModel$Reader" (90 : Nat) ({ cls := "java/lang/StringBuilder", name := "append", desc := "(C)Ljava/lang/StringBuilder;" } : Jvm.MethodName)) ∈ gw := gw_7 237 rfl rfl
theorem wr_8_0 : (Jvm.Cond.code ({ cls := "java/lang/StringBuilder", name := "append", desc := "(C)Ljava/lang/StringBuilder;" } : Jvm.MethodName) prog_35_method_14_code (2 : Nat) (Option.some (Jvm.ClassFile.FieldType.object "java/lang/StringBuilder"))) ∈ gw := gw_8 0 rfl rfl
theorem wr_7_238 : (Jvm.Cond.instanceMethod ({ cls := "java/lang/StringBuilder", name := "append", desc := "(C)Ljava/lang/StringBuilder;" } : Jvm.MethodName)) ∈ gw := gw_7 238 rfl rfl
theorem wr_7_239 : (Jvm.Cond.selects "java/lang/StringBuilder" ({ cls := "java/lang/StringBuilder", name := "append", desc := "(C)Ljava/lang/StringBuilder;" } : Jvm.MethodName) ({ cls := "java/lang/StringBuilder", name := "append", desc := "(C)Ljava/lang/StringBuilder;" } : Jvm.MethodName)) ∈ gw := gw_7 239 rfl rfl
theorem dr_cX14_symbol_184 : decode cX14_symbol 184 = .ok (.invokevirtual 94, 3) := by decide +kernel
theorem wr_8_66 : (Jvm.Cond.methodLink "SpillForgeModel$Reader" (94 : Nat) ({ cls := "java/lang/StringBuilder", name := "toString", desc := "()Ljava/lang/String;" } : Jvm.MethodName)) ∈ gw := gw_8 66 rfl rfl
theorem wr_8_69 : (Jvm.Cond.code ({ cls := "java/lang/StringBuilder", name := "toString", desc := "()Ljava/lang/String;" } : Jvm.MethodName) prog_35_method_42_code (1 : Nat) (Option.some (Jvm.ClassFile.FieldType.object "java/lang/String"))) ∈ gw := gw_8 69 rfl rfl
theorem wr_8_67 : (Jvm.Cond.instanceMethod ({ cls := "java/lang/StringBuilder", name := "toString", desc := "()Ljava/lang/String;" } : Jvm.MethodName)) ∈ gw := gw_8 67 rfl rfl
theorem wr_8_68 : (Jvm.Cond.selects "java/lang/StringBuilder" ({ cls := "java/lang/StringBuilder", name := "toString", desc := "()Ljava/lang/String;" } : Jvm.MethodName) ({ cls := "java/lang/StringBuilder", name := "toString", desc := "()Ljava/lang/String;" } : Jvm.MethodName)) ∈ gw := gw_8 68 rfl rfl
theorem dr_cX14_symbol_187 : decode cX14_symbol 187 = .ok (.goto 5, 3) := by decide +kernel
theorem dr_cX14_symbol_143 : decode cX14_symbol 143 = .ok (.iconst 5, 1) := by decide +kernel
theorem dr_cX14_symbol_144 : decode cX14_symbol 144 = .ok (.goto 5, 3) := by decide +kernel
theorem dr_cX14_symbol_0 : decode cX14_symbol 0 = .ok (.aload_n 0, 1) := by decide +kernel
theorem dr_cX14_symbol_1 : decode cX14_symbol 1 = .ok (.getfield 44, 3) := by decide +kernel
theorem dr_cX14_symbol_4 : decode cX14_symbol 4 = .ok (.iconst 1, 1) := by decide +kernel
theorem dr_cX14_symbol_5 : decode cX14_symbol 5 = .ok (.iadd, 1) := by decide +kernel
theorem dr_cX14_symbol_6 : decode cX14_symbol 6 = .ok (.aload_n 0, 1) := by decide +kernel
theorem dr_cX14_symbol_7 : decode cX14_symbol 7 = .ok (.getfield 32, 3) := by decide +kernel
theorem dr_cX14_symbol_10 : decode cX14_symbol 10 = .ok (.if_icmp .ge 63, 3) := by decide +kernel
theorem dr_cX14_symbol_13 : decode cX14_symbol 13 = .ok (.aload_n 0, 1) := by decide +kernel
theorem dr_cX14_symbol_14 : decode cX14_symbol 14 = .ok (.getfield 28, 3) := by decide +kernel
theorem dr_cX14_symbol_17 : decode cX14_symbol 17 = .ok (.aload_n 0, 1) := by decide +kernel
theorem dr_cX14_symbol_18 : decode cX14_symbol 18 = .ok (.getfield 44, 3) := by decide +kernel
theorem dr_cX14_symbol_21 : decode cX14_symbol 21 = .ok (.iconst 1, 1) := by decide +kernel
theorem dr_cX14_symbol_22 : decode cX14_symbol 22 = .ok (.iadd, 1) := by decide +kernel
theorem dr_cX14_symbol_23 : decode cX14_symbol 23 = .ok (.baload, 1) := by decide +kernel
theorem dr_cX14_symbol_24 : decode cX14_symbol 24 = .ok (.bipush 32, 2) := by decide +kernel
theorem dr_cX14_symbol_26 : decode cX14_symbol 26 = .ok (.if_icmp .le 47, 3) := by decide +kernel
theorem dr_cX14_symbol_29 : decode cX14_symbol 29 = .ok (.iload_n 1, 1) := by decide +kernel
theorem dr_cX14_symbol_30 : decode cX14_symbol 30 = .ok (.bipush 32, 2) := by decide +kernel
theorem dr_cX14_symbol_32 : decode cX14_symbol 32 = .ok (.if_icmp .le 41, 3) := by decide +kernel
theorem dr_cX14_symbol_35 : decode cX14_symbol 35 = .ok (.new 87, 3) := by decide +kernel
theorem dr_cX14_symbol_38 : decode cX14_symbol 38 = .ok (.dup, 1) := by decide +kernel
theorem dr_cX14_symbol_39 : decode cX14_symbol 39 = .ok (.invokespecial 89, 3) := by decide +kernel
theorem dr_cX14_symbol_42 : decode cX14_symbol 42 = .ok (.ldc 9, 2) := by decide +kernel
theorem dr_cX14_symbol_44 : decode cX14_symbol 44 = .ok (.invokevirtual 102, 3) := by decide +kernel
theorem dr_cX14_symbol_47 : decode cX14_symbol 47 = .ok (.iload_n 1, 1) := by decide +kernel
theorem dr_cX14_symbol_48 : decode cX14_symbol 48 = .ok (.i2c, 1) := by decide +kernel
theorem dr_cX14_symbol_49 : decode cX14_symbol 49 = .ok (.invokevirtual 90, 3) := by decide +kernel
theorem dr_cX14_symbol_52 : decode cX14_symbol 52 = .ok (.aload_n 0, 1) := by decide +kernel
theorem dr_cX14_symbol_53 : decode cX14_symbol 53 = .ok (.getfield 28, 3) := by decide +kernel
theorem dr_cX14_symbol_56 : decode cX14_symbol 56 = .ok (.aload_n 0, 1) := by decide +kernel
theorem dr_cX14_symbol_57 : decode cX14_symbol 57 = .ok (.getfield 44, 3) := by decide +kernel
theorem dr_cX14_symbol_60 : decode cX14_symbol 60 = .ok (.iconst 1, 1) := by decide +kernel
theorem dr_cX14_symbol_61 : decode cX14_symbol 61 = .ok (.iadd, 1) := by decide +kernel
theorem dr_cX14_symbol_62 : decode cX14_symbol 62 = .ok (.baload, 1) := by decide +kernel
theorem dr_cX14_symbol_63 : decode cX14_symbol 63 = .ok (.i2c, 1) := by decide +kernel
theorem dr_cX14_symbol_64 : decode cX14_symbol 64 = .ok (.invokevirtual 90, 3) := by decide +kernel
theorem dr_cX14_symbol_67 : decode cX14_symbol 67 = .ok (.invokevirtual 94, 3) := by decide +kernel
theorem dr_cX14_symbol_70 : decode cX14_symbol 70 = .ok (.goto 5, 3) := by decide +kernel
theorem dr_cX14_symbol_84 : decode cX14_symbol 84 = .ok (.ldc 117, 2) := by decide +kernel
theorem dr_cX14_symbol_86 : decode cX14_symbol 86 = .ok (.new 87, 3) := by decide +kernel
theorem dr_cX14_symbol_89 : decode cX14_symbol 89 = .ok (.dup, 1) := by decide +kernel
theorem dr_cX14_symbol_90 : decode cX14_symbol 90 = .ok (.invokespecial 89, 3) := by decide +kernel
theorem dr_cX14_symbol_93 : decode cX14_symbol 93 = .ok (.ldc 100, 2) := by decide +kernel
theorem dr_cX14_symbol_95 : decode cX14_symbol 95 = .ok (.invokevirtual 102, 3) := by decide +kernel
theorem dr_cX14_symbol_98 : decode cX14_symbol 98 = .ok (.aload_n 2, 1) := by decide +kernel
theorem dr_cX14_symbol_99 : decode cX14_symbol 99 = .ok (.invokevirtual 102, 3) := by decide +kernel
theorem dr_cX14_symbol_102 : decode cX14_symbol 102 = .ok (.ldc 100, 2) := by decide +kernel
theorem dr_cX14_symbol_104 : decode cX14_symbol 104 = .ok (.invokevirtual 102, 3) := by decide +kernel
theorem dr_cX14_symbol_107 : decode cX14_symbol 107 = .ok (.invokevirtual 94, 3) := by decide +kernel
theorem dr_cX14_symbol_110 : decode cX14_symbol 110 = .ok (.invokevirtual 105, 3) := by decide +kernel
theorem wr_8_196 : (Jvm.Cond.methodLink "SpillForgeModel$Reader" (105 : Nat) ({ cls := "java/lang/String", name := "indexOf", desc := "(Ljava/lang/String;)I" } : Jvm.MethodName)) ∈ gw := gw_8 196 rfl rfl
theorem wr_8_199 : (Jvm.Cond.code ({ cls := "java/lang/String", name := "indexOf", desc := "(Ljava/lang/String;)I" } : Jvm.MethodName) prog_34_method_84_code (3 : Nat) (Option.some Jvm.ClassFile.FieldType.int)) ∈ gw := gw_8 199 rfl rfl
theorem wr_8_197 : (Jvm.Cond.instanceMethod ({ cls := "java/lang/String", name := "indexOf", desc := "(Ljava/lang/String;)I" } : Jvm.MethodName)) ∈ gw := gw_8 197 rfl rfl
theorem wr_8_198 : (Jvm.Cond.selects "java/lang/String" ({ cls := "java/lang/String", name := "indexOf", desc := "(Ljava/lang/String;)I" } : Jvm.MethodName) ({ cls := "java/lang/String", name := "indexOf", desc := "(Ljava/lang/String;)I" } : Jvm.MethodName)) ∈ gw := gw_8 198 rfl rfl
theorem dr_cX14_symbol_113 : decode cX14_symbol 113 = .ok (.ifCond .lt 7, 3) := by decide +kernel
theorem dr_cX14_symbol_116 : decode cX14_symbol 116 = .ok (.iconst 1, 1) := by decide +kernel
theorem dr_cX14_symbol_117 : decode cX14_symbol 117 = .ok (.goto 4, 3) := by decide +kernel
theorem dr_cX14_symbol_157 : decode cX14_symbol 157 = .ok (.aload_n 2, 1) := by decide +kernel
theorem dr_cX14_symbol_158 : decode cX14_symbol 158 = .ok (.goto 34, 3) := by decide +kernel
theorem dr_cX14_symbol_204 : decode cX14_symbol 204 = .ok (.iconst 2, 1) := by decide +kernel
theorem dr_cX14_symbol_205 : decode cX14_symbol 205 = .ok (.goto 4, 3) := by decide +kernel
abbrev ky_650189_Reader_symbol : gKey := (cX14_symbol, 4, "SpillForgeModel$Reader", none, [], "symbol", fun _ _ => True)
def pp_650189_Reader_symbol (D : va_G) (I : FieldType → ClassId) (P650166 : List Nat) (F650167 : Nat → va_E) (q650168 : Nat) (q650169 : Nat) (p650170 : Int32) (p650171 : Int32) (p650172 : Int32) (p650173 : Int32) (p650174 : Int32) (p650175 : Int32) (p650176 : Int32) (qo650177 : Nat) (p650178 : Int32) (p650179 : Int32) (p650180 : Int32) (qo650181 : Nat) (qo650182 : Nat) (p650183 : Int32) (f650184 : Nat → Int32) : Option Value → va_W → Nat → Nat → Prop := fun r w dc ds => ∃ (P651156 : List Nat) (F651157 : Nat → va_E) (o651153 : Int32) (o651154 : Int32) (q651155 : Nat), r = none ∧ w = va_pl P651156 F651157 ∧ rSub P650166 P651156 ∧ rFr [q650168] P650166 F650167 F651157 ∧ F651157 q650168 = .inr (19, [.ref q650169, .int p650171, .int o651153, .int o651154, .int p650174, .int p650175, .int p650176, .ref q651155, .int p650178, .int p650179, .int p650180, .ref qo650181, .ref qo650182, .int p650183]) ∧ F651157 q650169 = .inl (I .byte, 8192, .inl f650184) ∧ dc ≤ (16 * (o651153.toInt - p650172.toInt)).toNat ∧ ds ≤ (256 * (o651153.toInt - p650172.toInt)).toNat ∧ gB o651153 1 8192 ∧ gB o651154 5 6 ∧ p650172.toInt < o651153.toInt ∧ o651153.toInt ≤ p650171.toInt ∧ tP I P651156 F651157 o651154 q651155 qo650182 qo650181 ∧ vP o651154 p650175
set_option maxRecDepth 100000 in
set_option maxHeartbeats 4000000 in
theorem cp_650189_Reader_symbol (l : Launch) (hl0 : l.stackTraces = false) (D : va_G) (I : FieldType → ClassId) (P650166 : List Nat) (F650167 : Nat → va_E) (q650168 : Nat) (q650169 : Nat) (p650170 : Int32) (p650171 : Int32) (p650172 : Int32) (p650173 : Int32) (p650174 : Int32) (p650175 : Int32) (p650176 : Int32) (qo650177 : Nat) (p650178 : Int32) (p650179 : Int32) (p650180 : Int32) (qo650181 : Nat) (qo650182 : Nat) (p650183 : Int32) (f650184 : Nat → Int32) (hmq650168 : q650168 ∈ P650166) (hmq650169 : q650169 ∈ P650166) (heq650168 : F650167 q650168 = .inr (19, [.ref q650169, .int p650171, .int p650172, .int p650173, .int p650174, .int p650175, .int p650176, .ref qo650177, .int p650178, .int p650179, .int p650180, .ref qo650181, .ref qo650182, .int p650183])) (heq650169 : F650167 q650169 = .inl (I .byte, 8192, .inl f650184)) (bp650170 : gB p650170 (-128) 127) (bp650171 : gB p650171 0 8192) (bp650172 : gB p650172 0 8192) (bp650173 : gB p650173 0 6) (bp650174 : gB p650174 0 8192) (bp650176 : gB p650176 0 6) (bp650178 : gB p650178 (-1) 8192) (bp650179 : gB p650179 0 4) (bp650180 : gB p650180 0 1000000) (bp650183 : gB p650183 0 1000000) (bf650184 : gF f650184 (-128) 127) (x650185 : p650172.toInt ≤ p650171.toInt) (x650186 : p650172.toInt < p650171.toInt) (x650187 : qo650182 ∈ P650166) (x650188 : qo650181 ∈ P650166) : CtA (gV D I) l yX14_symbol cX14_symbol 4 none 6 132 ((16 * (p650171.toInt - p650172.toInt)).toNat) ((256 * (p650171.toInt - p650172.toInt)).toNat) [.ref q650168, .int p650170] (va_pl P650166 F650167) (pp_650189_Reader_symbol D I P650166 F650167 q650168 q650169 p650170 p650171 p650172 p650173 p650174 p650175 p650176 qo650177 p650178 p650179 p650180 qo650181 qo650182 p650183 f650184) gNA := by
  refine CtA_of hl0 (by decide) (Nat.le_of_ble_eq_true rfl) ?_
  have bp650175 := gB_any p650175
  have hMC : 16 ≤ ((16 * (p650171.toInt - p650172.toInt)).toNat) := by omega
  have hMS : 256 ≤ ((256 * (p650171.toInt - p650172.toInt)).toNat) := by omega
  have jn650190 : G (gV D I) l (gRm 6 132 ((16 * (p650171.toInt - p650172.toInt)).toNat) ((256 * (p650171.toInt - p650172.toInt)).toNat)) (gMA (gV D I) (pp_650189_Reader_symbol D I P650166 F650167 q650168 q650169 p650170 p650171 p650172 p650173 p650174 p650175 p650176 qo650177 p650178 p650179 p650180 qo650181 qo650182 p650183 f650184) gNA ((16 * (p650171.toInt - p650172.toInt)).toNat) ((256 * (p650171.toInt - p650172.toInt)).toNat)) ky_650189_Reader_symbol 73 [(0, .ref q650168), (1, .int p650170)] [] (va_pl P650166 F650167) 0 0 := by
    refine G_ldcK (a := D.2 1000 32) dr_cX14_symbol_73 (fun _ _ _ h => gx_vk 32 rfl rfl h) ?_
    have hl32_650190 : (sb_32.length : Int) = 0 := rfl
    refine G_astore_n (L' := [(2, .ref (D.2 1000 32)), (0, .ref q650168), (1, .int p650170)]) dr_cX14_symbol_75 (Nat.le_of_ble_eq_true rfl) rfl ?_
    refine G_aload_n 0 dr_cX14_symbol_76 rfl ?_
    refine Gw_callVk (As := []) (gV_ok D I) (cp_640842_String_length l hl0 D I P650166 F650167 (D.2 1000 32) (D.2 1001 32) sb_32 (gx_sc 32 rfl rfl) (by omega) (by decide +kernel)) dr_cX14_symbol_77 ⟨wr_8_227, wr_1_21, wr_3_60, by decide, rfl, (Nat.le_of_ble_eq_true rfl), (Nat.le_of_ble_eq_true rfl)⟩ wr_3_58 wr_3_59 (fun _ _ _ h => ((gx_sc 32 rfl rfl) _ _ _ h).1) (Nat.le_trans (show 0 + 0 ≤ 16 by decide) hMC) (Nat.le_trans (show 0 + 0 ≤ 256 by decide) hMS) (Nat.le_of_ble_eq_true rfl) (fun r650195 w650196 dc650192 ds650193 hp650194 => ?_) (fun _ _ _ _ _ z => z.elim)
    obtain ⟨o650197, rfl, rfl, hdc, hds, bo650197, x650198⟩ := hp650194
    have bo650197' : gB o650197 0 0 := ⟨by omega, by omega⟩
    change G _ _ _ _ _ _ _ (.int o650197 :: _) _ _ _
    refine G_widen (cs' := 0) (sl' := 0) (Nat.add_le_add_left hdc 0) (Nat.add_le_add_left hds 0) ?_
    refine G_iconst 2 dr_cX14_symbol_80 (by decide +kernel) ?_
    refine G_icmp_ne 120 dr_cX14_symbol_81 (by decide +kernel) (fun _ => ?_) (fun hc => absurd (show False by have := gj_eq hc (show Int32.toInt 2 = 2 by decide); omega) not_false)
    refine G_iconst 0 dr_cX14_symbol_120 (by decide +kernel) ?_
    refine G_istore_n (L' := [(3, .int 0), (2, .ref (D.2 1000 32)), (0, .ref q650168), (1, .int p650170)]) dr_cX14_symbol_121 (Nat.le_of_ble_eq_true rfl) rfl ?_
    clear bo650197 bo650197'; try clear r650195; try clear w650196; try clear dc650192; try clear ds650193; try clear hp650194; try clear x650198
    refine G_aload_n 2 dr_cX14_symbol_122 rfl ?_
    refine G_iload_n 0 dr_cX14_symbol_123 rfl ?_
    refine G_if_ne 143 dr_cX14_symbol_124 (by decide +kernel) (fun hc => absurd hc (by decide)) (fun _ => ?_)
    refine G_iload_n 3 dr_cX14_symbol_127 rfl ?_
    refine G_bipush 32 dr_cX14_symbol_128 (by decide +kernel) ?_
    refine G_icmp_le 147 dr_cX14_symbol_130 (by decide +kernel) (fun hc650199 => ?_) (fun hc650199 => ?_)
    · have r650200 : p650170.toInt ≤ 32 := gj_le hc650199 (show Int32.toInt 32 = 32 by decide)
      have bp650170' : gB p650170 (-128) 32 := ⟨by omega, by omega⟩
      refine G_bipush 6 dr_cX14_symbol_147 (by decide +kernel) ?_
      refine Gp_put 3 hmq650168 heq650168 dr_cX14_symbol_149 (gk_X14 D I) (Nat.le_of_ble_eq_true rfl) wr_9_39 rfl rfl rfl (Nat.le_of_ble_eq_true rfl) (fun F650201 e650202 n650203 => ?_)
      have he650204 : F650201 q650169 = .inl (I .byte, 8192, .inl f650184) := (n650203 q650169 (rn_ao heq650169 heq650168)).trans heq650169
      have he650205 : F650201 q650168 = .inr (19, [.ref q650169, .int p650171, .int p650172, .int 6, .int p650174, .int p650175, .int p650176, .ref qo650177, .int p650178, .int p650179, .int p650180, .ref qo650181, .ref qo650182, .int p650183]) := e650202
      have hfr650206 : rFr [q650168] P650166 F650167 F650201 := rFr_put (rFr_rf (W := []) (P := P650166) (F := F650167)) n650203
      refine G_aload_n 2 dr_cX14_symbol_152 rfl ?_
      refine G_iload_n 0 dr_cX14_symbol_153 rfl ?_
      refine G_if_eq 161 dr_cX14_symbol_154 (by decide +kernel) (fun _ => ?_) (fun hc => absurd hc (by decide))
      refine G_iload_n 3 dr_cX14_symbol_161 rfl ?_
      refine G_bipush 32 dr_cX14_symbol_162 (by decide +kernel) ?_
      refine G_icmp_le 190 dr_cX14_symbol_164 (by decide +kernel) (fun _ => ?_) (fun hc => absurd (show False by have := gj_nle hc (show Int32.toInt 32 = 32 by decide); omega) not_false)
      refine G_ldcK (a := D.2 1000 32) dr_cX14_symbol_190 (fun _ _ _ h => gx_vk 32 rfl rfl h) ?_
      have hl32_650206 : (sb_32.length : Int) = 0 := rfl
      refine Gp_put 7 hmq650168 he650205 dr_cX14_symbol_192 (gk_X14 D I) (Nat.le_of_ble_eq_true rfl) wr_9_43 rfl rfl rfl (Nat.le_of_ble_eq_true rfl) (fun F650208 e650209 n650210 => ?_)
      have he650211 : F650208 q650169 = .inl (I .byte, 8192, .inl f650184) := (n650210 q650169 (rn_ao he650204 he650205)).trans he650204
      have he650212 : F650208 q650168 = .inr (19, [.ref q650169, .int p650171, .int p650172, .int 6, .int p650174, .int p650175, .int p650176, .ref (D.2 1000 32), .int p650178, .int p650179, .int p650180, .ref qo650181, .ref qo650182, .int p650183]) := e650209
      have hfr650213 : rFr [q650168] P650166 F650167 F650208 := rFr_put' List.mem_cons_self hfr650206 n650210
      clear he650204 he650205 hfr650206
      refine G_aload_n 2 dr_cX14_symbol_195 rfl ?_
      refine G_dup dr_cX14_symbol_196 rfl ?_
      refine Gp_get 2 hmq650168 he650212 dr_cX14_symbol_197 (gk_X14 D I) (Nat.le_of_ble_eq_true rfl) wr_9_38 rfl ?_
      refine G_iload_n 0 dr_cX14_symbol_200 rfl ?_
      refine G_if_eq 208 dr_cX14_symbol_201 (by decide +kernel) (fun _ => ?_) (fun hc => absurd hc (by decide))
      refine G_iconst 1 dr_cX14_symbol_208 (by decide +kernel) ?_
      refine G_iadd dr_cX14_symbol_209 (G_nam fun z650214 hz650214 => ?_)
      have ez650214 : z650214.toInt = p650172.toInt + 1 := by rw [gI_add hz650214 bp650172 (gBl (show Int32.toInt 1 = 1 by decide)) (by decide) (by decide), show Int32.toInt 1 = 1 from by decide]
      have bz650214 : gB z650214 1 8193 := gB_add (gI_add hz650214 bp650172 (gBl (show Int32.toInt 1 = 1 by decide)) (by decide) (by decide)) bp650172 (gBl (show Int32.toInt 1 = 1 by decide)) (by decide) (by decide)
      refine Gp_put 2 hmq650168 he650212 dr_cX14_symbol_210 (gk_X14 D I) (Nat.le_of_ble_eq_true rfl) wr_9_38 rfl rfl rfl (Nat.le_of_ble_eq_true rfl) (fun F650215 e650216 n650217 => ?_)
      have he650218 : F650215 q650169 = .inl (I .byte, 8192, .inl f650184) := (n650217 q650169 (rn_ao he650211 he650212)).trans he650211
      have he650219 : F650215 q650168 = .inr (19, [.ref q650169, .int p650171, .int z650214, .int 6, .int p650174, .int p650175, .int p650176, .ref (D.2 1000 32), .int p650178, .int p650179, .int p650180, .ref qo650181, .ref qo650182, .int p650183]) := e650216
      have hfr650220 : rFr [q650168] P650166 F650167 F650215 := rFr_put' List.mem_cons_self hfr650213 n650217
      exact G_vretA dr_cX14_symbol_213 rfl (show 0 ≤ ((16 * (p650171.toInt - p650172.toInt)).toNat) by omega) (show 0 ≤ ((256 * (p650171.toInt - p650172.toInt)).toNat) by omega) ⟨P650166, F650215, z650214, 6, (D.2 1000 32), rfl, rfl, (rSub_rf (P := P650166)), hfr650220, he650219, he650218, (by omega), (by omega), ⟨by omega, by omega⟩, (gB_w (gBl (show Int32.toInt 6 = 6 by decide)) (by decide) (by decide)), (by have qa0 : Int32.toInt 0 = 0 := (by decide); have qa1 : Int32.toInt 6 = 6 := (by decide); omega), (by have qa0 : Int32.toInt 0 = 0 := (by decide); have qa1 : Int32.toInt 6 = 6 := (by decide); omega), (tP_no (by decide) (by decide)), (vP_no (by decide) (by decide))⟩
    · have r650221 : 32 < p650170.toInt := gj_nle hc650199 (show Int32.toInt 32 = 32 by decide)
      have bp650170' : gB p650170 33 127 := ⟨by omega, by omega⟩
      refine G_ldcK (a := D.2 1000 37) dr_cX14_symbol_133 (fun _ _ _ h => gx_vk 37 rfl rfl h) ?_
      have hl37_650221 : (sb_37.length : Int) = 14 := rfl
      refine G_iload_n 3 dr_cX14_symbol_135 rfl ?_
      refine G_i2c dr_cX14_symbol_136 (G_nam fun z650223 hz650223 => ?_)
      have ez650223 : z650223.toInt = p650170.toInt := gI_i2c hz650223 (by omega) (by omega)
      have bz650223 : gB z650223 33 127 := ⟨by omega, by omega⟩
      refine Gw_callVk (As := [.int z650223]) (gV_ok D I) (cp_648787_String_indexOf l hl0 D I P650166 F650167 (D.2 1000 37) (D.2 1001 37) sb_37 z650223 (gx_sc 37 rfl rfl) (by omega) (by decide +kernel) (gB_w bz650223 (by decide) (by decide))) dr_cX14_symbol_137 ⟨wr_8_230, wr_1_21, wr_8_233, by decide, rfl, (Nat.le_of_ble_eq_true rfl), (Nat.le_of_ble_eq_true rfl)⟩ wr_8_231 wr_8_232 (fun _ _ _ h => ((gx_sc 37 rfl rfl) _ _ _ h).1) (Nat.le_trans (show 0 + 0 ≤ 16 by decide) hMC) (Nat.le_trans (show 0 + 0 ≤ 256 by decide) hMS) (Nat.le_of_ble_eq_true rfl) (fun r650227 w650228 dc650224 ds650225 hp650226 => ?_) (fun _ _ _ _ _ z => z.elim)
      obtain ⟨o650229, rfl, rfl, hdc, hds, bo650229⟩ := hp650226
      change G _ _ _ _ _ _ _ (.int o650229 :: _) _ _ _
      refine G_widen (cs' := 0) (sl' := 0) (Nat.add_le_add_left hdc 0) (Nat.add_le_add_left hds 0) ?_
      refine G_if_lt 147 dr_cX14_symbol_140 (by decide +kernel) (fun hc650230 => ?_) (fun hc650230 => ?_)
      · have r650231 : o650229.toInt < 0 := gj_lt hc650230 (show Int32.toInt 0 = 0 by decide)
        have bo650229' : gB o650229 (-1) (-1) := ⟨by omega, by omega⟩
        refine G_bipush 6 dr_cX14_symbol_147 (by decide +kernel) ?_
        refine Gp_put 3 hmq650168 heq650168 dr_cX14_symbol_149 (gk_X14 D I) (Nat.le_of_ble_eq_true rfl) wr_9_39 rfl rfl rfl (Nat.le_of_ble_eq_true rfl) (fun F650232 e650233 n650234 => ?_)
        have he650235 : F650232 q650169 = .inl (I .byte, 8192, .inl f650184) := (n650234 q650169 (rn_ao heq650169 heq650168)).trans heq650169
        have he650236 : F650232 q650168 = .inr (19, [.ref q650169, .int p650171, .int p650172, .int 6, .int p650174, .int p650175, .int p650176, .ref qo650177, .int p650178, .int p650179, .int p650180, .ref qo650181, .ref qo650182, .int p650183]) := e650233
        have hfr650237 : rFr [q650168] P650166 F650167 F650232 := rFr_put (rFr_rf (W := []) (P := P650166) (F := F650167)) n650234
        clear hz650223 ez650223 bz650223 bo650229 bo650229'; try clear r650227; try clear w650228; try clear dc650224; try clear ds650225; try clear hp650226; try clear r650231
        refine G_aload_n 2 dr_cX14_symbol_152 rfl ?_
        refine G_iload_n 0 dr_cX14_symbol_153 rfl ?_
        refine G_if_eq 161 dr_cX14_symbol_154 (by decide +kernel) (fun _ => ?_) (fun hc => absurd hc (by decide))
        refine G_iload_n 3 dr_cX14_symbol_161 rfl ?_
        refine G_bipush 32 dr_cX14_symbol_162 (by decide +kernel) ?_
        refine G_icmp_le 190 dr_cX14_symbol_164 (by decide +kernel) (fun hc => absurd (show False by have := gj_le hc (show Int32.toInt 32 = 32 by decide); omega) not_false) (fun _ => ?_)
        refine G_new [.null, .int 0, .int 0, .int 0] dr_cX14_symbol_167 (gk_J4 D I) wr_7_235 wr_7_44 wr_1_20 (gfs_J4) (Nat.le_trans (show 0 + 1 ≤ 16 by decide) hMC) (Nat.le_trans (show 0 + 4 ≤ 256 by decide) hMS) (fun q650238 => Gp_in (fun P650239 F650240 hq650241 hP650242 e650243 n650244 => ?_))
        refine G_widen (cs' := 1) (sl' := 4) (by omega) (by omega) ?_
        have he650245 : F650240 q650168 = .inr (19, [.ref q650169, .int p650171, .int p650172, .int 6, .int p650174, .int p650175, .int p650176, .ref qo650177, .int p650178, .int p650179, .int p650180, .ref qo650181, .ref qo650182, .int p650183]) := (n650244 q650168 (fun h => hq650241 (h ▸ hmq650168))).trans he650236
        have he650246 : F650240 q650169 = .inl (I .byte, 8192, .inl f650184) := (n650244 q650169 (fun h => hq650241 (h ▸ hmq650169))).trans he650235
        have he650247 : F650240 q650238 = .inr (1, [.null, .int 0, .int 0, .int 0]) := e650243
        have hm650248 : q650168 ∈ P650239 := (hP650242 q650168).mpr (Or.inl hmq650168)
        have hm650249 : q650169 ∈ P650239 := (hP650242 q650169).mpr (Or.inl hmq650169)
        have hm650250 : q650238 ∈ P650239 := (hP650242 q650238).mpr (Or.inr rfl)
        have hq650251 : q650238 ∉ P650166 := fun z => hq650241 ((rSub_rf (P := P650166)) q650238 z)
        have hfr650252 : rFr [q650168] P650166 F650167 F650240 := rFr_new (rSub_rf (P := P650166)) hq650241 hfr650237 n650244
        have hsb650253 : rSub P650166 P650239 := rSub_new (rSub_rf (P := P650166)) hP650242
        refine G_dup dr_cX14_symbol_170 rfl ?_
        refine Gw_callI (As := []) (gV_ok D I) (cp_640525_StringBuilder_init l hl0 D I P650239 F650240 q650238 0 0 hm650250 he650247 (gB_w (gBl (show Int32.toInt 0 = 0 by decide)) (by decide) (by decide)) (gB_w (gBl (show Int32.toInt 0 = 0 by decide)) (by decide) (by decide))) dr_cX14_symbol_171 ⟨wr_7_236, wr_1_20, wr_7_47, by decide, rfl, (Nat.le_of_ble_eq_true rfl), (Nat.le_of_ble_eq_true rfl)⟩ wr_7_46 rfl (Nat.le_trans (show 1 + 1 ≤ 16 by decide) hMC) (Nat.le_trans (show 4 + 16 ≤ 256 by decide) hMS) (Nat.le_of_ble_eq_true rfl) (fun r650257 w650258 dc650254 ds650255 hp650256 => ?_)
        obtain ⟨P650260, F650261, q650259, rfl, rfl, hsb650262, hfr650263, he650264, he650265, hm650266, hq650267, hdc, hds⟩ := hp650256
        have hm650268 : q650168 ∈ P650260 := hsb650262 q650168 hm650248
        have hm650269 : q650169 ∈ P650260 := hsb650262 q650169 hm650249
        have hm650270 : q650238 ∈ P650260 := hsb650262 q650238 hm650250
        have hq650271 : q650259 ∉ P650166 := fun z => hq650267 (hsb650253 q650259 z)
        have hsb650272 : rSub P650166 P650260 := rSub_tr hsb650253 hsb650262
        have he650273 : F650261 q650168 = .inr (19, [.ref q650169, .int p650171, .int p650172, .int 6, .int p650174, .int p650175, .int p650176, .ref qo650177, .int p650178, .int p650179, .int p650180, .ref qo650181, .ref qo650182, .int p650183]) := (hfr650263 q650168 hm650248 (nm_c (fun h => hq650251 (h ▸ hmq650168)) nm_n)).trans he650245
        have he650274 : F650261 q650169 = .inl (I .byte, 8192, .inl f650184) := (hfr650263 q650169 hm650249 (nm_c (fun h => hq650251 (h ▸ hmq650169)) nm_n)).trans he650246
        have hfr650275 : rFr [q650168] P650166 F650167 F650261 := rFr_call hsb650253 hfr650252 hfr650263 (fun b hb hn => ⟨(nm_c (fun e => hn (e ▸ List.mem_cons_self)) nm_n), (nm_c (fun e => hq650251 (e ▸ hb)) nm_n)⟩)
        change G _ _ _ _ _ _ _ _ _ _ _
        refine G_widen (cs' := 2) (sl' := 20) (Nat.add_le_add_left hdc 1) (Nat.add_le_add_left hds 4) ?_
        refine G_ldcK (a := D.2 1000 32) dr_cX14_symbol_174 (fun _ _ _ h => gx_vk 32 rfl rfl h) ?_
        have hl32_650275 : (sb_32.length : Int) = 0 := rfl
        refine Gw_callV (As := [.ref (D.2 1000 32)]) (gV_ok D I) (cp_640822_StringBuilder_append l hl0 D I P650260 F650261 q650238 q650259 (D.2 1000 32) (D.2 1001 32) sb_32 0 0 (fun _ => 0) 16 hm650270 hm650266 he650264 he650265 (gx_sc 32 rfl rfl) (by omega) (by decide +kernel) (gB_w (gBl (show Int32.toInt 0 = 0 by decide)) (by decide) (by decide)) (gB_w (gBl (show Int32.toInt 0 = 0 by decide)) (by decide) (by decide)) (gF_w gF_0 (by decide) (by decide)) (by have qa0 : Int32.toInt 0 = 0 := (by decide); have qa1 : Int32.toInt 6 = 6 := (by decide); omega) (by have qa0 : Int32.toInt 0 = 0 := (by decide); have qa1 : Int32.toInt 6 = 6 := (by decide); omega)) dr_cX14_symbol_176 ⟨wr_8_195, wr_1_20, wr_8_143, by decide, rfl, (Nat.le_of_ble_eq_true rfl), (Nat.le_of_ble_eq_true rfl)⟩ wr_8_141 wr_8_142 hm650270 he650264 rfl (Nat.le_trans (show 2 + 0 ≤ 16 by decide) hMC) (Nat.le_trans (show 20 + 0 ≤ 256 by decide) hMS) (Nat.le_of_ble_eq_true rfl) (fun r650280 w650281 dc650277 ds650278 hp650279 => ?_) (fun _ _ _ _ _ z => z.elim)
        obtain ⟨F650287, o650282, f650283, rfl, rfl, hfr650289, he650290, he650291, hdc, hds, bo650282, bf650283, x650284, x650285, x650286⟩ := hp650279
        have he650292 : F650287 q650168 = .inr (19, [.ref q650169, .int p650171, .int p650172, .int 6, .int p650174, .int p650175, .int p650176, .ref qo650177, .int p650178, .int p650179, .int p650180, .ref qo650181, .ref qo650182, .int p650183]) := (hfr650289 q650168 hm650268 (nm_c (fun h => hq650251 (h ▸ hmq650168)) (nm_c (fun h => hq650271 (h ▸ hmq650168)) nm_n))).trans he650273
        have he650293 : F650287 q650169 = .inl (I .byte, 8192, .inl f650184) := (hfr650289 q650169 hm650269 (nm_c (fun h => hq650251 (h ▸ hmq650169)) (nm_c (fun h => hq650271 (h ▸ hmq650169)) nm_n))).trans he650274
        have hfr650294 : rFr [q650168] P650166 F650167 F650287 := rFr_call hsb650272 hfr650275 hfr650289 (fun b hb hn => ⟨(nm_c (fun e => hn (e ▸ List.mem_cons_self)) nm_n), (nm_c (fun e => hq650251 (e ▸ hb)) (nm_c (fun e => hq650271 (e ▸ hb)) nm_n))⟩)
        rw [show Int32.toInt 0 = 0 from by decide] at x650284
        have bo650282' : gB o650282 0 0 := ⟨by omega, by omega⟩
        rw [show Int32.toInt 0 = 0 from by decide] at x650285
        rw [show Int32.toInt 0 = 0 from by decide] at x650286
        change G _ _ _ _ _ _ _ (.ref q650238 :: _) _ _ _
        refine G_widen (cs' := 2) (sl' := 20) (Nat.add_le_add_left hdc 2) (Nat.add_le_add_left hds 20) ?_
        refine G_iload_n 3 dr_cX14_symbol_179 rfl ?_
        refine G_i2c dr_cX14_symbol_180 (G_nam fun z650295 hz650295 => ?_)
        have ez650295 : z650295.toInt = p650170.toInt := gI_i2c hz650295 (by omega) (by omega)
        have bz650295 : gB z650295 33 127 := ⟨by omega, by omega⟩
        refine Gw_callV (As := [.int z650295]) (gV_ok D I) (cp_640099_StringBuilder_append l hl0 D I P650260 F650287 q650238 q650259 z650295 0 o650282 f650283 16 hm650270 hm650266 he650290 he650291 (gB_w bz650295 (by decide) (by decide)) (gB_w (gBl (show Int32.toInt 0 = 0 by decide)) (by decide) (by decide)) (gB_w bo650282' (by decide) (by decide)) bf650283 (by have qa0 : Int32.toInt 0 = 0 := (by decide); have qa1 : Int32.toInt 6 = 6 := (by decide); omega) (by have qa0 : Int32.toInt 0 = 0 := (by decide); have qa1 : Int32.toInt 6 = 6 := (by decide); omega)) dr_cX14_symbol_181 ⟨wr_7_237, wr_1_20, wr_8_0, by decide, rfl, (Nat.le_of_ble_eq_true rfl), (Nat.le_of_ble_eq_true rfl)⟩ wr_7_238 wr_7_239 hm650270 he650290 rfl (Nat.le_trans (show 2 + 0 ≤ 16 by decide) hMC) (Nat.le_trans (show 20 + 0 ≤ 256 by decide) hMS) (Nat.le_of_ble_eq_true rfl) (fun r650299 w650300 dc650296 ds650297 hp650298 => ?_) (fun _ _ _ _ _ z => z.elim)
        obtain ⟨F650304, o650301, f650302, rfl, rfl, hfr650306, he650307, he650308, hdc, hds, bo650301, bf650302, x650303⟩ := hp650298
        have he650309 : F650304 q650168 = .inr (19, [.ref q650169, .int p650171, .int p650172, .int 6, .int p650174, .int p650175, .int p650176, .ref qo650177, .int p650178, .int p650179, .int p650180, .ref qo650181, .ref qo650182, .int p650183]) := (hfr650306 q650168 hm650268 (nm_c (fun h => hq650271 (h ▸ hmq650168)) (nm_c (fun h => hq650251 (h ▸ hmq650168)) nm_n))).trans he650292
        have he650310 : F650304 q650169 = .inl (I .byte, 8192, .inl f650184) := (hfr650306 q650169 hm650269 (nm_c (fun h => hq650271 (h ▸ hmq650169)) (nm_c (fun h => hq650251 (h ▸ hmq650169)) nm_n))).trans he650293
        have hfr650311 : rFr [q650168] P650166 F650167 F650304 := rFr_call hsb650272 hfr650294 hfr650306 (fun b hb hn => ⟨(nm_c (fun e => hn (e ▸ List.mem_cons_self)) nm_n), (nm_c (fun e => hq650271 (e ▸ hb)) (nm_c (fun e => hq650251 (e ▸ hb)) nm_n))⟩)
        have bo650301' : gB o650301 1 1 := ⟨by omega, by omega⟩
        change G _ _ _ _ _ _ _ (.ref q650238 :: _) _ _ _
        refine G_widen (cs' := 2) (sl' := 20) (Nat.add_le_add_left hdc 2) (Nat.add_le_add_left hds 20) ?_
        refine Gw_callV (As := []) (gV_ok D I) (cp_641280_StringBuilder_toString l hl0 D I P650260 F650304 q650238 q650259 0 o650301 f650302 16 hm650270 hm650266 he650307 he650308 (gB_w (gBl (show Int32.toInt 0 = 0 by decide)) (by decide) (by decide)) (gB_w bo650301' (by decide) (by decide)) bf650302 (by have qa0 : Int32.toInt 0 = 0 := (by decide); have qa1 : Int32.toInt 6 = 6 := (by decide); omega) (by have qa0 : Int32.toInt 0 = 0 := (by decide); have qa1 : Int32.toInt 6 = 6 := (by decide); omega)) dr_cX14_symbol_184 ⟨wr_8_66, wr_1_20, wr_8_69, by decide, rfl, (Nat.le_of_ble_eq_true rfl), (Nat.le_of_ble_eq_true rfl)⟩ wr_8_67 wr_8_68 hm650270 he650307 rfl (Nat.le_trans (show 2 + 2 ≤ 16 by decide) hMC) (show 20 + (o650301.toInt.toNat + 4) ≤ ((256 * (p650171.toInt - p650172.toInt)).toNat) by first | omega | decide) (Nat.le_of_ble_eq_true rfl) (fun r650315 w650316 dc650312 ds650313 hp650314 => ?_) (fun _ _ _ _ _ z => z.elim)
        obtain ⟨P650323, F650324, q650317, q650318, n650319, f650320, rfl, rfl, hsb650325, hfr650326, he650327, he650328, he650329, he650330, hm650331, hq650332, hm650333, hq650334, hdc, hds, bf650320, x650321, x650322⟩ := hp650314
        have hm650335 : q650168 ∈ P650323 := hsb650325 q650168 hm650268
        have hm650336 : q650169 ∈ P650323 := hsb650325 q650169 hm650269
        have hm650337 : q650238 ∈ P650323 := hsb650325 q650238 hm650270
        have hm650338 : q650259 ∈ P650323 := hsb650325 q650259 hm650266
        have hq650339 : q650317 ∉ P650166 := fun z => hq650332 (hsb650272 q650317 z)
        have hq650340 : q650318 ∉ P650166 := fun z => hq650334 (hsb650272 q650318 z)
        have hsb650341 : rSub P650166 P650323 := rSub_tr hsb650272 hsb650325
        have he650342 : F650324 q650168 = .inr (19, [.ref q650169, .int p650171, .int p650172, .int 6, .int p650174, .int p650175, .int p650176, .ref qo650177, .int p650178, .int p650179, .int p650180, .ref qo650181, .ref qo650182, .int p650183]) := (hfr650326 q650168 hm650268 nm_n).trans he650309
        have he650343 : F650324 q650169 = .inl (I .byte, 8192, .inl f650184) := (hfr650326 q650169 hm650269 nm_n).trans he650310
        have hfr650344 : rFr [q650168] P650166 F650167 F650324 := rFr_call hsb650272 hfr650311 hfr650326 (fun b hb hn => ⟨(nm_c (fun e => hn (e ▸ List.mem_cons_self)) nm_n), nm_n⟩)
        have hne650345 : q650259 ≠ q650318 := fun h => hq650334 (h ▸ hm650266)
        change G _ _ _ _ _ _ _ (.ref q650317 :: _) _ _ _
        refine G_widen (cs' := 4) (sl' := 20 + (o650301.toInt.toNat + 4)) (Nat.add_le_add_left hdc 2) (by omega) ?_
        refine G_goto 192 dr_cX14_symbol_187 (by decide +kernel) ?_
        refine Gp_put 7 hm650335 he650342 dr_cX14_symbol_192 (gk_X14 D I) (Nat.le_of_ble_eq_true rfl) wr_9_43 rfl rfl rfl (Nat.le_of_ble_eq_true rfl) (fun F650346 e650347 n650348 => ?_)
        have he650349 : F650346 q650169 = .inl (I .byte, 8192, .inl f650184) := (n650348 q650169 (rn_ao he650343 he650342)).trans he650343
        have he650350 : F650346 q650317 = .inr (0, [.ref q650318, .int 0, .int 0, .int 0]) := (n650348 q650317 (fun h => hq650339 (h ▸ hmq650168))).trans he650327
        have he650351 : F650346 q650238 = .inr (1, [.ref q650259, .int 0, .int 0, .int o650301]) := (n650348 q650238 (fun h => hq650251 (h ▸ hmq650168))).trans he650328
        have he650352 : F650346 q650259 = .inl (I .byte, 16, .inl f650302) := (n650348 q650259 (fun h => hq650271 (h ▸ hmq650168))).trans he650329
        have he650353 : F650346 q650318 = .inl (I .byte, n650319, .inl f650320) := (n650348 q650318 (fun h => hq650340 (h ▸ hmq650168))).trans he650330
        have he650354 : F650346 q650168 = .inr (19, [.ref q650169, .int p650171, .int p650172, .int 6, .int p650174, .int p650175, .int p650176, .ref q650317, .int p650178, .int p650179, .int p650180, .ref qo650181, .ref qo650182, .int p650183]) := e650347
        have hfr650355 : rFr [q650168] P650166 F650167 F650346 := rFr_put' List.mem_cons_self hfr650344 n650348
        clear he650235 he650236 hfr650237 he650245 he650246 he650247 hm650248 hm650249 hm650250 hq650251 hfr650252 hsb650253 hsb650262 hfr650263 he650264 he650265 hm650266 hq650267 hm650268 hm650269 hm650270 hq650271 hsb650272 he650273 he650274 hfr650275 hfr650289 he650290 he650291 bo650282 bf650283 he650292 he650293 hfr650294 hz650295 ez650295 bz650295 hfr650306 he650307 he650308 bo650301 bf650302 he650309 he650310 hfr650311 hsb650325 hfr650326 he650327 he650328 he650329 he650330 hq650332 hq650334 hm650337 hm650338 he650342 he650343 hfr650344 hne650345 he650351 he650352; try clear r650257; try clear w650258; try clear dc650254; try clear ds650255; try clear hp650256; try clear r650280; try clear w650281; try clear dc650277; try clear ds650278; try clear hp650279; try clear x650285; try clear x650286; try clear r650299; try clear w650300; try clear dc650296; try clear ds650297; try clear hp650298; try clear r650315; try clear w650316; try clear dc650312; try clear ds650313; try clear hp650314; try clear x650322
        refine G_aload_n 2 dr_cX14_symbol_195 rfl ?_
        refine G_dup dr_cX14_symbol_196 rfl ?_
        refine Gp_get 2 hm650335 he650354 dr_cX14_symbol_197 (gk_X14 D I) (Nat.le_of_ble_eq_true rfl) wr_9_38 rfl ?_
        refine G_iload_n 0 dr_cX14_symbol_200 rfl ?_
        refine G_if_eq 208 dr_cX14_symbol_201 (by decide +kernel) (fun _ => ?_) (fun hc => absurd hc (by decide))
        refine G_iconst 1 dr_cX14_symbol_208 (by decide +kernel) ?_
        refine G_iadd dr_cX14_symbol_209 (G_nam fun z650356 hz650356 => ?_)
        have ez650356 : z650356.toInt = p650172.toInt + 1 := by rw [gI_add hz650356 bp650172 (gBl (show Int32.toInt 1 = 1 by decide)) (by decide) (by decide), show Int32.toInt 1 = 1 from by decide]
        have bz650356 : gB z650356 1 8193 := gB_add (gI_add hz650356 bp650172 (gBl (show Int32.toInt 1 = 1 by decide)) (by decide) (by decide)) bp650172 (gBl (show Int32.toInt 1 = 1 by decide)) (by decide) (by decide)
        refine Gp_put 2 hm650335 he650354 dr_cX14_symbol_210 (gk_X14 D I) (Nat.le_of_ble_eq_true rfl) wr_9_38 rfl rfl rfl (Nat.le_of_ble_eq_true rfl) (fun F650357 e650358 n650359 => ?_)
        have he650360 : F650357 q650169 = .inl (I .byte, 8192, .inl f650184) := (n650359 q650169 (rn_ao he650349 he650354)).trans he650349
        have he650361 : F650357 q650317 = .inr (0, [.ref q650318, .int 0, .int 0, .int 0]) := (n650359 q650317 (fun h => hq650339 (h ▸ hmq650168))).trans he650350
        have he650362 : F650357 q650318 = .inl (I .byte, n650319, .inl f650320) := (n650359 q650318 (fun h => hq650340 (h ▸ hmq650168))).trans he650353
        have he650363 : F650357 q650168 = .inr (19, [.ref q650169, .int p650171, .int z650356, .int 6, .int p650174, .int p650175, .int p650176, .ref q650317, .int p650178, .int p650179, .int p650180, .ref qo650181, .ref qo650182, .int p650183]) := e650358
        have hfr650364 : rFr [q650168] P650166 F650167 F650357 := rFr_put' List.mem_cons_self hfr650355 n650359
        exact G_vretA dr_cX14_symbol_213 rfl (show 4 ≤ ((16 * (p650171.toInt - p650172.toInt)).toNat) by omega) (show 20 + (o650301.toInt.toNat + 4) ≤ ((256 * (p650171.toInt - p650172.toInt)).toNat) by omega) ⟨P650323, F650357, z650356, 6, q650317, rfl, rfl, hsb650341, hfr650364, he650363, he650360, (by omega), (by omega), ⟨by omega, by omega⟩, (gB_w (gBl (show Int32.toInt 6 = 6 by decide)) (by decide) (by decide)), (by have qa0 : Int32.toInt 0 = 0 := (by decide); have qa1 : Int32.toInt 6 = 6 := (by decide); omega), (by have qa0 : Int32.toInt 0 = 0 := (by decide); have qa1 : Int32.toInt 6 = 6 := (by decide); omega), (tP_no (by decide) (by decide)), (vP_no (by decide) (by decide))⟩
      · have r650365 : 0 ≤ o650229.toInt := gj_nlt hc650230 (show Int32.toInt 0 = 0 by decide)
        have bo650229' : gB o650229 0 65534 := ⟨by omega, by omega⟩
        refine G_iconst 5 dr_cX14_symbol_143 (by decide +kernel) ?_
        refine G_goto 149 dr_cX14_symbol_144 (by decide +kernel) ?_
        refine Gp_put 3 hmq650168 heq650168 dr_cX14_symbol_149 (gk_X14 D I) (Nat.le_of_ble_eq_true rfl) wr_9_39 rfl rfl rfl (Nat.le_of_ble_eq_true rfl) (fun F650366 e650367 n650368 => ?_)
        have he650369 : F650366 q650169 = .inl (I .byte, 8192, .inl f650184) := (n650368 q650169 (rn_ao heq650169 heq650168)).trans heq650169
        have he650370 : F650366 q650168 = .inr (19, [.ref q650169, .int p650171, .int p650172, .int 5, .int p650174, .int p650175, .int p650176, .ref qo650177, .int p650178, .int p650179, .int p650180, .ref qo650181, .ref qo650182, .int p650183]) := e650367
        have hfr650371 : rFr [q650168] P650166 F650167 F650366 := rFr_put (rFr_rf (W := []) (P := P650166) (F := F650167)) n650368
        clear hz650223 ez650223 bz650223 bo650229 bo650229'; try clear r650227; try clear w650228; try clear dc650224; try clear ds650225; try clear hp650226; try clear r650365
        refine G_aload_n 2 dr_cX14_symbol_152 rfl ?_
        refine G_iload_n 0 dr_cX14_symbol_153 rfl ?_
        refine G_if_eq 161 dr_cX14_symbol_154 (by decide +kernel) (fun _ => ?_) (fun hc => absurd hc (by decide))
        refine G_iload_n 3 dr_cX14_symbol_161 rfl ?_
        refine G_bipush 32 dr_cX14_symbol_162 (by decide +kernel) ?_
        refine G_icmp_le 190 dr_cX14_symbol_164 (by decide +kernel) (fun hc => absurd (show False by have := gj_le hc (show Int32.toInt 32 = 32 by decide); omega) not_false) (fun _ => ?_)
        refine G_new [.null, .int 0, .int 0, .int 0] dr_cX14_symbol_167 (gk_J4 D I) wr_7_235 wr_7_44 wr_1_20 (gfs_J4) (Nat.le_trans (show 0 + 1 ≤ 16 by decide) hMC) (Nat.le_trans (show 0 + 4 ≤ 256 by decide) hMS) (fun q650372 => Gp_in (fun P650373 F650374 hq650375 hP650376 e650377 n650378 => ?_))
        refine G_widen (cs' := 1) (sl' := 4) (by omega) (by omega) ?_
        have he650379 : F650374 q650168 = .inr (19, [.ref q650169, .int p650171, .int p650172, .int 5, .int p650174, .int p650175, .int p650176, .ref qo650177, .int p650178, .int p650179, .int p650180, .ref qo650181, .ref qo650182, .int p650183]) := (n650378 q650168 (fun h => hq650375 (h ▸ hmq650168))).trans he650370
        have he650380 : F650374 q650169 = .inl (I .byte, 8192, .inl f650184) := (n650378 q650169 (fun h => hq650375 (h ▸ hmq650169))).trans he650369
        have he650381 : F650374 q650372 = .inr (1, [.null, .int 0, .int 0, .int 0]) := e650377
        have hm650382 : q650168 ∈ P650373 := (hP650376 q650168).mpr (Or.inl hmq650168)
        have hm650383 : q650169 ∈ P650373 := (hP650376 q650169).mpr (Or.inl hmq650169)
        have hm650384 : q650372 ∈ P650373 := (hP650376 q650372).mpr (Or.inr rfl)
        have hq650385 : q650372 ∉ P650166 := fun z => hq650375 ((rSub_rf (P := P650166)) q650372 z)
        have hfr650386 : rFr [q650168] P650166 F650167 F650374 := rFr_new (rSub_rf (P := P650166)) hq650375 hfr650371 n650378
        have hsb650387 : rSub P650166 P650373 := rSub_new (rSub_rf (P := P650166)) hP650376
        refine G_dup dr_cX14_symbol_170 rfl ?_
        refine Gw_callI (As := []) (gV_ok D I) (cp_640525_StringBuilder_init l hl0 D I P650373 F650374 q650372 0 0 hm650384 he650381 (gB_w (gBl (show Int32.toInt 0 = 0 by decide)) (by decide) (by decide)) (gB_w (gBl (show Int32.toInt 0 = 0 by decide)) (by decide) (by decide))) dr_cX14_symbol_171 ⟨wr_7_236, wr_1_20, wr_7_47, by decide, rfl, (Nat.le_of_ble_eq_true rfl), (Nat.le_of_ble_eq_true rfl)⟩ wr_7_46 rfl (Nat.le_trans (show 1 + 1 ≤ 16 by decide) hMC) (Nat.le_trans (show 4 + 16 ≤ 256 by decide) hMS) (Nat.le_of_ble_eq_true rfl) (fun r650391 w650392 dc650388 ds650389 hp650390 => ?_)
        obtain ⟨P650394, F650395, q650393, rfl, rfl, hsb650396, hfr650397, he650398, he650399, hm650400, hq650401, hdc, hds⟩ := hp650390
        have hm650402 : q650168 ∈ P650394 := hsb650396 q650168 hm650382
        have hm650403 : q650169 ∈ P650394 := hsb650396 q650169 hm650383
        have hm650404 : q650372 ∈ P650394 := hsb650396 q650372 hm650384
        have hq650405 : q650393 ∉ P650166 := fun z => hq650401 (hsb650387 q650393 z)
        have hsb650406 : rSub P650166 P650394 := rSub_tr hsb650387 hsb650396
        have he650407 : F650395 q650168 = .inr (19, [.ref q650169, .int p650171, .int p650172, .int 5, .int p650174, .int p650175, .int p650176, .ref qo650177, .int p650178, .int p650179, .int p650180, .ref qo650181, .ref qo650182, .int p650183]) := (hfr650397 q650168 hm650382 (nm_c (fun h => hq650385 (h ▸ hmq650168)) nm_n)).trans he650379
        have he650408 : F650395 q650169 = .inl (I .byte, 8192, .inl f650184) := (hfr650397 q650169 hm650383 (nm_c (fun h => hq650385 (h ▸ hmq650169)) nm_n)).trans he650380
        have hfr650409 : rFr [q650168] P650166 F650167 F650395 := rFr_call hsb650387 hfr650386 hfr650397 (fun b hb hn => ⟨(nm_c (fun e => hn (e ▸ List.mem_cons_self)) nm_n), (nm_c (fun e => hq650385 (e ▸ hb)) nm_n)⟩)
        change G _ _ _ _ _ _ _ _ _ _ _
        refine G_widen (cs' := 2) (sl' := 20) (Nat.add_le_add_left hdc 1) (Nat.add_le_add_left hds 4) ?_
        refine G_ldcK (a := D.2 1000 32) dr_cX14_symbol_174 (fun _ _ _ h => gx_vk 32 rfl rfl h) ?_
        have hl32_650409 : (sb_32.length : Int) = 0 := rfl
        refine Gw_callV (As := [.ref (D.2 1000 32)]) (gV_ok D I) (cp_640822_StringBuilder_append l hl0 D I P650394 F650395 q650372 q650393 (D.2 1000 32) (D.2 1001 32) sb_32 0 0 (fun _ => 0) 16 hm650404 hm650400 he650398 he650399 (gx_sc 32 rfl rfl) (by omega) (by decide +kernel) (gB_w (gBl (show Int32.toInt 0 = 0 by decide)) (by decide) (by decide)) (gB_w (gBl (show Int32.toInt 0 = 0 by decide)) (by decide) (by decide)) (gF_w gF_0 (by decide) (by decide)) (by have qa0 : Int32.toInt 0 = 0 := (by decide); have qa1 : Int32.toInt 5 = 5 := (by decide); omega) (by have qa0 : Int32.toInt 0 = 0 := (by decide); have qa1 : Int32.toInt 5 = 5 := (by decide); omega)) dr_cX14_symbol_176 ⟨wr_8_195, wr_1_20, wr_8_143, by decide, rfl, (Nat.le_of_ble_eq_true rfl), (Nat.le_of_ble_eq_true rfl)⟩ wr_8_141 wr_8_142 hm650404 he650398 rfl (Nat.le_trans (show 2 + 0 ≤ 16 by decide) hMC) (Nat.le_trans (show 20 + 0 ≤ 256 by decide) hMS) (Nat.le_of_ble_eq_true rfl) (fun r650414 w650415 dc650411 ds650412 hp650413 => ?_) (fun _ _ _ _ _ z => z.elim)
        obtain ⟨F650421, o650416, f650417, rfl, rfl, hfr650423, he650424, he650425, hdc, hds, bo650416, bf650417, x650418, x650419, x650420⟩ := hp650413
        have he650426 : F650421 q650168 = .inr (19, [.ref q650169, .int p650171, .int p650172, .int 5, .int p650174, .int p650175, .int p650176, .ref qo650177, .int p650178, .int p650179, .int p650180, .ref qo650181, .ref qo650182, .int p650183]) := (hfr650423 q650168 hm650402 (nm_c (fun h => hq650385 (h ▸ hmq650168)) (nm_c (fun h => hq650405 (h ▸ hmq650168)) nm_n))).trans he650407
        have he650427 : F650421 q650169 = .inl (I .byte, 8192, .inl f650184) := (hfr650423 q650169 hm650403 (nm_c (fun h => hq650385 (h ▸ hmq650169)) (nm_c (fun h => hq650405 (h ▸ hmq650169)) nm_n))).trans he650408
        have hfr650428 : rFr [q650168] P650166 F650167 F650421 := rFr_call hsb650406 hfr650409 hfr650423 (fun b hb hn => ⟨(nm_c (fun e => hn (e ▸ List.mem_cons_self)) nm_n), (nm_c (fun e => hq650385 (e ▸ hb)) (nm_c (fun e => hq650405 (e ▸ hb)) nm_n))⟩)
        rw [show Int32.toInt 0 = 0 from by decide] at x650418
        have bo650416' : gB o650416 0 0 := ⟨by omega, by omega⟩
        rw [show Int32.toInt 0 = 0 from by decide] at x650419
        rw [show Int32.toInt 0 = 0 from by decide] at x650420
        change G _ _ _ _ _ _ _ (.ref q650372 :: _) _ _ _
        refine G_widen (cs' := 2) (sl' := 20) (Nat.add_le_add_left hdc 2) (Nat.add_le_add_left hds 20) ?_
        refine G_iload_n 3 dr_cX14_symbol_179 rfl ?_
        refine G_i2c dr_cX14_symbol_180 (G_nam fun z650429 hz650429 => ?_)
        have ez650429 : z650429.toInt = p650170.toInt := gI_i2c hz650429 (by omega) (by omega)
        have bz650429 : gB z650429 33 127 := ⟨by omega, by omega⟩
        refine Gw_callV (As := [.int z650429]) (gV_ok D I) (cp_640099_StringBuilder_append l hl0 D I P650394 F650421 q650372 q650393 z650429 0 o650416 f650417 16 hm650404 hm650400 he650424 he650425 (gB_w bz650429 (by decide) (by decide)) (gB_w (gBl (show Int32.toInt 0 = 0 by decide)) (by decide) (by decide)) (gB_w bo650416' (by decide) (by decide)) bf650417 (by have qa0 : Int32.toInt 0 = 0 := (by decide); have qa1 : Int32.toInt 5 = 5 := (by decide); omega) (by have qa0 : Int32.toInt 0 = 0 := (by decide); have qa1 : Int32.toInt 5 = 5 := (by decide); omega)) dr_cX14_symbol_181 ⟨wr_7_237, wr_1_20, wr_8_0, by decide, rfl, (Nat.le_of_ble_eq_true rfl), (Nat.le_of_ble_eq_true rfl)⟩ wr_7_238 wr_7_239 hm650404 he650424 rfl (Nat.le_trans (show 2 + 0 ≤ 16 by decide) hMC) (Nat.le_trans (show 20 + 0 ≤ 256 by decide) hMS) (Nat.le_of_ble_eq_true rfl) (fun r650433 w650434 dc650430 ds650431 hp650432 => ?_) (fun _ _ _ _ _ z => z.elim)
        obtain ⟨F650438, o650435, f650436, rfl, rfl, hfr650440, he650441, he650442, hdc, hds, bo650435, bf650436, x650437⟩ := hp650432
        have he650443 : F650438 q650168 = .inr (19, [.ref q650169, .int p650171, .int p650172, .int 5, .int p650174, .int p650175, .int p650176, .ref qo650177, .int p650178, .int p650179, .int p650180, .ref qo650181, .ref qo650182, .int p650183]) := (hfr650440 q650168 hm650402 (nm_c (fun h => hq650405 (h ▸ hmq650168)) (nm_c (fun h => hq650385 (h ▸ hmq650168)) nm_n))).trans he650426
        have he650444 : F650438 q650169 = .inl (I .byte, 8192, .inl f650184) := (hfr650440 q650169 hm650403 (nm_c (fun h => hq650405 (h ▸ hmq650169)) (nm_c (fun h => hq650385 (h ▸ hmq650169)) nm_n))).trans he650427
        have hfr650445 : rFr [q650168] P650166 F650167 F650438 := rFr_call hsb650406 hfr650428 hfr650440 (fun b hb hn => ⟨(nm_c (fun e => hn (e ▸ List.mem_cons_self)) nm_n), (nm_c (fun e => hq650405 (e ▸ hb)) (nm_c (fun e => hq650385 (e ▸ hb)) nm_n))⟩)
        have bo650435' : gB o650435 1 1 := ⟨by omega, by omega⟩
        change G _ _ _ _ _ _ _ (.ref q650372 :: _) _ _ _
        refine G_widen (cs' := 2) (sl' := 20) (Nat.add_le_add_left hdc 2) (Nat.add_le_add_left hds 20) ?_
        refine Gw_callV (As := []) (gV_ok D I) (cp_641280_StringBuilder_toString l hl0 D I P650394 F650438 q650372 q650393 0 o650435 f650436 16 hm650404 hm650400 he650441 he650442 (gB_w (gBl (show Int32.toInt 0 = 0 by decide)) (by decide) (by decide)) (gB_w bo650435' (by decide) (by decide)) bf650436 (by have qa0 : Int32.toInt 0 = 0 := (by decide); have qa1 : Int32.toInt 5 = 5 := (by decide); omega) (by have qa0 : Int32.toInt 0 = 0 := (by decide); have qa1 : Int32.toInt 5 = 5 := (by decide); omega)) dr_cX14_symbol_184 ⟨wr_8_66, wr_1_20, wr_8_69, by decide, rfl, (Nat.le_of_ble_eq_true rfl), (Nat.le_of_ble_eq_true rfl)⟩ wr_8_67 wr_8_68 hm650404 he650441 rfl (Nat.le_trans (show 2 + 2 ≤ 16 by decide) hMC) (show 20 + (o650435.toInt.toNat + 4) ≤ ((256 * (p650171.toInt - p650172.toInt)).toNat) by first | omega | decide) (Nat.le_of_ble_eq_true rfl) (fun r650449 w650450 dc650446 ds650447 hp650448 => ?_) (fun _ _ _ _ _ z => z.elim)
        obtain ⟨P650457, F650458, q650451, q650452, n650453, f650454, rfl, rfl, hsb650459, hfr650460, he650461, he650462, he650463, he650464, hm650465, hq650466, hm650467, hq650468, hdc, hds, bf650454, x650455, x650456⟩ := hp650448
        have hm650469 : q650168 ∈ P650457 := hsb650459 q650168 hm650402
        have hm650470 : q650169 ∈ P650457 := hsb650459 q650169 hm650403
        have hm650471 : q650372 ∈ P650457 := hsb650459 q650372 hm650404
        have hm650472 : q650393 ∈ P650457 := hsb650459 q650393 hm650400
        have hq650473 : q650451 ∉ P650166 := fun z => hq650466 (hsb650406 q650451 z)
        have hq650474 : q650452 ∉ P650166 := fun z => hq650468 (hsb650406 q650452 z)
        have hsb650475 : rSub P650166 P650457 := rSub_tr hsb650406 hsb650459
        have he650476 : F650458 q650168 = .inr (19, [.ref q650169, .int p650171, .int p650172, .int 5, .int p650174, .int p650175, .int p650176, .ref qo650177, .int p650178, .int p650179, .int p650180, .ref qo650181, .ref qo650182, .int p650183]) := (hfr650460 q650168 hm650402 nm_n).trans he650443
        have he650477 : F650458 q650169 = .inl (I .byte, 8192, .inl f650184) := (hfr650460 q650169 hm650403 nm_n).trans he650444
        have hfr650478 : rFr [q650168] P650166 F650167 F650458 := rFr_call hsb650406 hfr650445 hfr650460 (fun b hb hn => ⟨(nm_c (fun e => hn (e ▸ List.mem_cons_self)) nm_n), nm_n⟩)
        have hne650479 : q650393 ≠ q650452 := fun h => hq650468 (h ▸ hm650400)
        change G _ _ _ _ _ _ _ (.ref q650451 :: _) _ _ _
        refine G_widen (cs' := 4) (sl' := 20 + (o650435.toInt.toNat + 4)) (Nat.add_le_add_left hdc 2) (by omega) ?_
        refine G_goto 192 dr_cX14_symbol_187 (by decide +kernel) ?_
        refine Gp_put 7 hm650469 he650476 dr_cX14_symbol_192 (gk_X14 D I) (Nat.le_of_ble_eq_true rfl) wr_9_43 rfl rfl rfl (Nat.le_of_ble_eq_true rfl) (fun F650480 e650481 n650482 => ?_)
        have he650483 : F650480 q650169 = .inl (I .byte, 8192, .inl f650184) := (n650482 q650169 (rn_ao he650477 he650476)).trans he650477
        have he650484 : F650480 q650451 = .inr (0, [.ref q650452, .int 0, .int 0, .int 0]) := (n650482 q650451 (fun h => hq650473 (h ▸ hmq650168))).trans he650461
        have he650485 : F650480 q650372 = .inr (1, [.ref q650393, .int 0, .int 0, .int o650435]) := (n650482 q650372 (fun h => hq650385 (h ▸ hmq650168))).trans he650462
        have he650486 : F650480 q650393 = .inl (I .byte, 16, .inl f650436) := (n650482 q650393 (fun h => hq650405 (h ▸ hmq650168))).trans he650463
        have he650487 : F650480 q650452 = .inl (I .byte, n650453, .inl f650454) := (n650482 q650452 (fun h => hq650474 (h ▸ hmq650168))).trans he650464
        have he650488 : F650480 q650168 = .inr (19, [.ref q650169, .int p650171, .int p650172, .int 5, .int p650174, .int p650175, .int p650176, .ref q650451, .int p650178, .int p650179, .int p650180, .ref qo650181, .ref qo650182, .int p650183]) := e650481
        have hfr650489 : rFr [q650168] P650166 F650167 F650480 := rFr_put' List.mem_cons_self hfr650478 n650482
        clear he650369 he650370 hfr650371 he650379 he650380 he650381 hm650382 hm650383 hm650384 hq650385 hfr650386 hsb650387 hsb650396 hfr650397 he650398 he650399 hm650400 hq650401 hm650402 hm650403 hm650404 hq650405 hsb650406 he650407 he650408 hfr650409 hfr650423 he650424 he650425 bo650416 bf650417 he650426 he650427 hfr650428 hz650429 ez650429 bz650429 hfr650440 he650441 he650442 bo650435 bf650436 he650443 he650444 hfr650445 hsb650459 hfr650460 he650461 he650462 he650463 he650464 hq650466 hq650468 hm650471 hm650472 he650476 he650477 hfr650478 hne650479 he650485 he650486; try clear r650391; try clear w650392; try clear dc650388; try clear ds650389; try clear hp650390; try clear r650414; try clear w650415; try clear dc650411; try clear ds650412; try clear hp650413; try clear x650419; try clear x650420; try clear r650433; try clear w650434; try clear dc650430; try clear ds650431; try clear hp650432; try clear r650449; try clear w650450; try clear dc650446; try clear ds650447; try clear hp650448; try clear x650456
        refine G_aload_n 2 dr_cX14_symbol_195 rfl ?_
        refine G_dup dr_cX14_symbol_196 rfl ?_
        refine Gp_get 2 hm650469 he650488 dr_cX14_symbol_197 (gk_X14 D I) (Nat.le_of_ble_eq_true rfl) wr_9_38 rfl ?_
        refine G_iload_n 0 dr_cX14_symbol_200 rfl ?_
        refine G_if_eq 208 dr_cX14_symbol_201 (by decide +kernel) (fun _ => ?_) (fun hc => absurd hc (by decide))
        refine G_iconst 1 dr_cX14_symbol_208 (by decide +kernel) ?_
        refine G_iadd dr_cX14_symbol_209 (G_nam fun z650490 hz650490 => ?_)
        have ez650490 : z650490.toInt = p650172.toInt + 1 := by rw [gI_add hz650490 bp650172 (gBl (show Int32.toInt 1 = 1 by decide)) (by decide) (by decide), show Int32.toInt 1 = 1 from by decide]
        have bz650490 : gB z650490 1 8193 := gB_add (gI_add hz650490 bp650172 (gBl (show Int32.toInt 1 = 1 by decide)) (by decide) (by decide)) bp650172 (gBl (show Int32.toInt 1 = 1 by decide)) (by decide) (by decide)
        refine Gp_put 2 hm650469 he650488 dr_cX14_symbol_210 (gk_X14 D I) (Nat.le_of_ble_eq_true rfl) wr_9_38 rfl rfl rfl (Nat.le_of_ble_eq_true rfl) (fun F650491 e650492 n650493 => ?_)
        have he650494 : F650491 q650169 = .inl (I .byte, 8192, .inl f650184) := (n650493 q650169 (rn_ao he650483 he650488)).trans he650483
        have he650495 : F650491 q650451 = .inr (0, [.ref q650452, .int 0, .int 0, .int 0]) := (n650493 q650451 (fun h => hq650473 (h ▸ hmq650168))).trans he650484
        have he650496 : F650491 q650452 = .inl (I .byte, n650453, .inl f650454) := (n650493 q650452 (fun h => hq650474 (h ▸ hmq650168))).trans he650487
        have he650497 : F650491 q650168 = .inr (19, [.ref q650169, .int p650171, .int z650490, .int 5, .int p650174, .int p650175, .int p650176, .ref q650451, .int p650178, .int p650179, .int p650180, .ref qo650181, .ref qo650182, .int p650183]) := e650492
        have hfr650498 : rFr [q650168] P650166 F650167 F650491 := rFr_put' List.mem_cons_self hfr650489 n650493
        exact G_vretA dr_cX14_symbol_213 rfl (show 4 ≤ ((16 * (p650171.toInt - p650172.toInt)).toNat) by omega) (show 20 + (o650435.toInt.toNat + 4) ≤ ((256 * (p650171.toInt - p650172.toInt)).toNat) by omega) ⟨P650457, F650491, z650490, 5, q650451, rfl, rfl, hsb650475, hfr650498, he650497, he650494, (by omega), (by omega), ⟨by omega, by omega⟩, (gB_w (gBl (show Int32.toInt 5 = 5 by decide)) (by decide) (by decide)), (by have qa0 : Int32.toInt 0 = 0 := (by decide); have qa1 : Int32.toInt 5 = 5 := (by decide); omega), (by have qa0 : Int32.toInt 0 = 0 := (by decide); have qa1 : Int32.toInt 5 = 5 := (by decide); omega), (tP_5 hm650465 he650495 hm650467 he650496 bf650454 (by omega) (gB_w (gBl (show Int32.toInt 0 = 0 by decide)) (by decide) (by decide)) (fun e => hq650474 (e ▸ x650187)) (fun e => hq650474 (e ▸ x650188))), (vP_no (by decide) (by decide))⟩
  refine G_aload_n 0 dr_cX14_symbol_0 rfl ?_
  refine Gp_get 2 hmq650168 heq650168 dr_cX14_symbol_1 (gk_X14 D I) (Nat.le_of_ble_eq_true rfl) wr_9_38 rfl ?_
  refine G_iconst 1 dr_cX14_symbol_4 (by decide +kernel) ?_
  refine G_iadd dr_cX14_symbol_5 (G_nam fun z650499 hz650499 => ?_)
  have ez650499 : z650499.toInt = p650172.toInt + 1 := by rw [gI_add hz650499 bp650172 (gBl (show Int32.toInt 1 = 1 by decide)) (by decide) (by decide), show Int32.toInt 1 = 1 from by decide]
  have bz650499 : gB z650499 1 8193 := gB_add (gI_add hz650499 bp650172 (gBl (show Int32.toInt 1 = 1 by decide)) (by decide) (by decide)) bp650172 (gBl (show Int32.toInt 1 = 1 by decide)) (by decide) (by decide)
  refine G_aload_n 0 dr_cX14_symbol_6 rfl ?_
  refine Gp_get 1 hmq650168 heq650168 dr_cX14_symbol_7 (gk_X14 D I) (Nat.le_of_ble_eq_true rfl) wr_9_37 rfl ?_
  refine G_icmp_ge 73 dr_cX14_symbol_10 (by decide +kernel) (fun hc650500 => ?_) (fun hc650500 => ?_)
  · have r650501 : p650171.toInt ≤ z650499.toInt := gC_le hc650500
    refine G_lv (L' := [(0, .ref q650168), (1, .int p650170)]) [0, 1] rfl ?_
    exact jn650190
  · have r650502 : z650499.toInt < p650171.toInt := gC_nle hc650500
    have bz650499' : gB z650499 1 8191 := ⟨by omega, by omega⟩
    have bp650171' : gB p650171 2 8192 := ⟨by omega, by omega⟩
    refine G_aload_n 0 dr_cX14_symbol_13 rfl ?_
    refine Gp_get 0 hmq650168 heq650168 dr_cX14_symbol_14 (gk_X14 D I) (Nat.le_of_ble_eq_true rfl) wr_9_36 rfl ?_
    refine G_aload_n 0 dr_cX14_symbol_17 rfl ?_
    refine Gp_get 2 hmq650168 heq650168 dr_cX14_symbol_18 (gk_X14 D I) (Nat.le_of_ble_eq_true rfl) wr_9_38 rfl ?_
    refine G_iconst 1 dr_cX14_symbol_21 (by decide +kernel) ?_
    refine G_iadd dr_cX14_symbol_22 (G_eqi (y := z650499) hz650499.symm ?_)
    refine Gp_bald 1 hmq650169 heq650169 dr_cX14_symbol_23 rfl (gB_in bz650499' (by decide) (by decide)) (G_nam fun z650503 hz650503 => ?_)
    have bz650503 : gB z650503 (-128) 127 := by rw [hz650503]; exact bf650184 _
    refine G_bipush 32 dr_cX14_symbol_24 (by decide +kernel) ?_
    refine G_icmp_le 73 dr_cX14_symbol_26 (by decide +kernel) (fun hc650504 => ?_) (fun hc650504 => ?_)
    · have r650505 : z650503.toInt ≤ 32 := gj_le hc650504 (show Int32.toInt 32 = 32 by decide)
      have bz650503' : gB z650503 (-128) 32 := ⟨by omega, by omega⟩
      refine G_lv (L' := [(0, .ref q650168), (1, .int p650170)]) [0, 1] rfl ?_
      exact jn650190
    · have r650506 : 32 < z650503.toInt := gj_nle hc650504 (show Int32.toInt 32 = 32 by decide)
      have bz650503' : gB z650503 33 127 := ⟨by omega, by omega⟩
      refine G_iload_n 1 dr_cX14_symbol_29 rfl ?_
      refine G_bipush 32 dr_cX14_symbol_30 (by decide +kernel) ?_
      refine G_icmp_le 73 dr_cX14_symbol_32 (by decide +kernel) (fun hc650507 => ?_) (fun hc650507 => ?_)
      · have r650508 : p650170.toInt ≤ 32 := gj_le hc650507 (show Int32.toInt 32 = 32 by decide)
        have bp650170' : gB p650170 (-128) 32 := ⟨by omega, by omega⟩
        refine G_lv (L' := [(0, .ref q650168), (1, .int p650170)]) [0, 1] rfl ?_
        exact jn650190
      · have r650509 : 32 < p650170.toInt := gj_nle hc650507 (show Int32.toInt 32 = 32 by decide)
        have bp650170' : gB p650170 33 127 := ⟨by omega, by omega⟩
        refine G_new [.null, .int 0, .int 0, .int 0] dr_cX14_symbol_35 (gk_J4 D I) wr_7_235 wr_7_44 wr_1_20 (gfs_J4) (Nat.le_trans (show 0 + 1 ≤ 16 by decide) hMC) (Nat.le_trans (show 0 + 4 ≤ 256 by decide) hMS) (fun q650510 => Gp_in (fun P650511 F650512 hq650513 hP650514 e650515 n650516 => ?_))
        refine G_widen (cs' := 1) (sl' := 4) (by omega) (by omega) ?_
        have he650517 : F650512 q650168 = .inr (19, [.ref q650169, .int p650171, .int p650172, .int p650173, .int p650174, .int p650175, .int p650176, .ref qo650177, .int p650178, .int p650179, .int p650180, .ref qo650181, .ref qo650182, .int p650183]) := (n650516 q650168 (fun h => hq650513 (h ▸ hmq650168))).trans heq650168
        have he650518 : F650512 q650169 = .inl (I .byte, 8192, .inl f650184) := (n650516 q650169 (fun h => hq650513 (h ▸ hmq650169))).trans heq650169
        have he650519 : F650512 q650510 = .inr (1, [.null, .int 0, .int 0, .int 0]) := e650515
        have hm650520 : q650168 ∈ P650511 := (hP650514 q650168).mpr (Or.inl hmq650168)
        have hm650521 : q650169 ∈ P650511 := (hP650514 q650169).mpr (Or.inl hmq650169)
        have hm650522 : q650510 ∈ P650511 := (hP650514 q650510).mpr (Or.inr rfl)
        have hq650523 : q650510 ∉ P650166 := fun z => hq650513 ((rSub_rf (P := P650166)) q650510 z)
        have hfr650524 : rFr [] P650166 F650167 F650512 := rFr_new (rSub_rf (P := P650166)) hq650513 (rFr_rf (W := []) (P := P650166) (F := F650167)) n650516
        have hsb650525 : rSub P650166 P650511 := rSub_new (rSub_rf (P := P650166)) hP650514
        refine G_dup dr_cX14_symbol_38 rfl ?_
        refine Gw_callI (As := []) (gV_ok D I) (cp_640525_StringBuilder_init l hl0 D I P650511 F650512 q650510 0 0 hm650522 he650519 (gB_w (gBl (show Int32.toInt 0 = 0 by decide)) (by decide) (by decide)) (gB_w (gBl (show Int32.toInt 0 = 0 by decide)) (by decide) (by decide))) dr_cX14_symbol_39 ⟨wr_7_236, wr_1_20, wr_7_47, by decide, rfl, (Nat.le_of_ble_eq_true rfl), (Nat.le_of_ble_eq_true rfl)⟩ wr_7_46 rfl (Nat.le_trans (show 1 + 1 ≤ 16 by decide) hMC) (Nat.le_trans (show 4 + 16 ≤ 256 by decide) hMS) (Nat.le_of_ble_eq_true rfl) (fun r650529 w650530 dc650526 ds650527 hp650528 => ?_)
        obtain ⟨P650532, F650533, q650531, rfl, rfl, hsb650534, hfr650535, he650536, he650537, hm650538, hq650539, hdc, hds⟩ := hp650528
        have hm650540 : q650168 ∈ P650532 := hsb650534 q650168 hm650520
        have hm650541 : q650169 ∈ P650532 := hsb650534 q650169 hm650521
        have hm650542 : q650510 ∈ P650532 := hsb650534 q650510 hm650522
        have hq650543 : q650531 ∉ P650166 := fun z => hq650539 (hsb650525 q650531 z)
        have hsb650544 : rSub P650166 P650532 := rSub_tr hsb650525 hsb650534
        have he650545 : F650533 q650168 = .inr (19, [.ref q650169, .int p650171, .int p650172, .int p650173, .int p650174, .int p650175, .int p650176, .ref qo650177, .int p650178, .int p650179, .int p650180, .ref qo650181, .ref qo650182, .int p650183]) := (hfr650535 q650168 hm650520 (nm_c (fun h => hq650523 (h ▸ hmq650168)) nm_n)).trans he650517
        have he650546 : F650533 q650169 = .inl (I .byte, 8192, .inl f650184) := (hfr650535 q650169 hm650521 (nm_c (fun h => hq650523 (h ▸ hmq650169)) nm_n)).trans he650518
        have hfr650547 : rFr [] P650166 F650167 F650533 := rFr_call hsb650525 hfr650524 hfr650535 (fun b hb hn => ⟨nm_n, (nm_c (fun e => hq650523 (e ▸ hb)) nm_n)⟩)
        change G _ _ _ _ _ _ _ _ _ _ _
        refine G_widen (cs' := 2) (sl' := 20) (Nat.add_le_add_left hdc 1) (Nat.add_le_add_left hds 4) ?_
        refine G_ldcK (a := D.2 1000 32) dr_cX14_symbol_42 (fun _ _ _ h => gx_vk 32 rfl rfl h) ?_
        have hl32_650547 : (sb_32.length : Int) = 0 := rfl
        refine Gw_callV (As := [.ref (D.2 1000 32)]) (gV_ok D I) (cp_640822_StringBuilder_append l hl0 D I P650532 F650533 q650510 q650531 (D.2 1000 32) (D.2 1001 32) sb_32 0 0 (fun _ => 0) 16 hm650542 hm650538 he650536 he650537 (gx_sc 32 rfl rfl) (by omega) (by decide +kernel) (gB_w (gBl (show Int32.toInt 0 = 0 by decide)) (by decide) (by decide)) (gB_w (gBl (show Int32.toInt 0 = 0 by decide)) (by decide) (by decide)) (gF_w gF_0 (by decide) (by decide)) (by have qa0 : Int32.toInt 0 = 0 := (by decide); omega) (by have qa0 : Int32.toInt 0 = 0 := (by decide); omega)) dr_cX14_symbol_44 ⟨wr_8_195, wr_1_20, wr_8_143, by decide, rfl, (Nat.le_of_ble_eq_true rfl), (Nat.le_of_ble_eq_true rfl)⟩ wr_8_141 wr_8_142 hm650542 he650536 rfl (Nat.le_trans (show 2 + 0 ≤ 16 by decide) hMC) (Nat.le_trans (show 20 + 0 ≤ 256 by decide) hMS) (Nat.le_of_ble_eq_true rfl) (fun r650552 w650553 dc650549 ds650550 hp650551 => ?_) (fun _ _ _ _ _ z => z.elim)
        obtain ⟨F650559, o650554, f650555, rfl, rfl, hfr650561, he650562, he650563, hdc, hds, bo650554, bf650555, x650556, x650557, x650558⟩ := hp650551
        have he650564 : F650559 q650168 = .inr (19, [.ref q650169, .int p650171, .int p650172, .int p650173, .int p650174, .int p650175, .int p650176, .ref qo650177, .int p650178, .int p650179, .int p650180, .ref qo650181, .ref qo650182, .int p650183]) := (hfr650561 q650168 hm650540 (nm_c (fun h => hq650523 (h ▸ hmq650168)) (nm_c (fun h => hq650543 (h ▸ hmq650168)) nm_n))).trans he650545
        have he650565 : F650559 q650169 = .inl (I .byte, 8192, .inl f650184) := (hfr650561 q650169 hm650541 (nm_c (fun h => hq650523 (h ▸ hmq650169)) (nm_c (fun h => hq650543 (h ▸ hmq650169)) nm_n))).trans he650546
        have hfr650566 : rFr [] P650166 F650167 F650559 := rFr_call hsb650544 hfr650547 hfr650561 (fun b hb hn => ⟨nm_n, (nm_c (fun e => hq650523 (e ▸ hb)) (nm_c (fun e => hq650543 (e ▸ hb)) nm_n))⟩)
        rw [show Int32.toInt 0 = 0 from by decide] at x650556
        have bo650554' : gB o650554 0 0 := ⟨by omega, by omega⟩
        rw [show Int32.toInt 0 = 0 from by decide] at x650557
        rw [show Int32.toInt 0 = 0 from by decide] at x650558
        change G _ _ _ _ _ _ _ (.ref q650510 :: _) _ _ _
        refine G_widen (cs' := 2) (sl' := 20) (Nat.add_le_add_left hdc 2) (Nat.add_le_add_left hds 20) ?_
        refine G_iload_n 1 dr_cX14_symbol_47 rfl ?_
        refine G_i2c dr_cX14_symbol_48 (G_nam fun z650567 hz650567 => ?_)
        have ez650567 : z650567.toInt = p650170.toInt := gI_i2c hz650567 (by omega) (by omega)
        have bz650567 : gB z650567 33 127 := ⟨by omega, by omega⟩
        refine Gw_callV (As := [.int z650567]) (gV_ok D I) (cp_640099_StringBuilder_append l hl0 D I P650532 F650559 q650510 q650531 z650567 0 o650554 f650555 16 hm650542 hm650538 he650562 he650563 (gB_w bz650567 (by decide) (by decide)) (gB_w (gBl (show Int32.toInt 0 = 0 by decide)) (by decide) (by decide)) (gB_w bo650554' (by decide) (by decide)) bf650555 (by have qa0 : Int32.toInt 0 = 0 := (by decide); omega) (by have qa0 : Int32.toInt 0 = 0 := (by decide); omega)) dr_cX14_symbol_49 ⟨wr_7_237, wr_1_20, wr_8_0, by decide, rfl, (Nat.le_of_ble_eq_true rfl), (Nat.le_of_ble_eq_true rfl)⟩ wr_7_238 wr_7_239 hm650542 he650562 rfl (Nat.le_trans (show 2 + 0 ≤ 16 by decide) hMC) (Nat.le_trans (show 20 + 0 ≤ 256 by decide) hMS) (Nat.le_of_ble_eq_true rfl) (fun r650571 w650572 dc650568 ds650569 hp650570 => ?_) (fun _ _ _ _ _ z => z.elim)
        obtain ⟨F650576, o650573, f650574, rfl, rfl, hfr650578, he650579, he650580, hdc, hds, bo650573, bf650574, x650575⟩ := hp650570
        have he650581 : F650576 q650168 = .inr (19, [.ref q650169, .int p650171, .int p650172, .int p650173, .int p650174, .int p650175, .int p650176, .ref qo650177, .int p650178, .int p650179, .int p650180, .ref qo650181, .ref qo650182, .int p650183]) := (hfr650578 q650168 hm650540 (nm_c (fun h => hq650543 (h ▸ hmq650168)) (nm_c (fun h => hq650523 (h ▸ hmq650168)) nm_n))).trans he650564
        have he650582 : F650576 q650169 = .inl (I .byte, 8192, .inl f650184) := (hfr650578 q650169 hm650541 (nm_c (fun h => hq650543 (h ▸ hmq650169)) (nm_c (fun h => hq650523 (h ▸ hmq650169)) nm_n))).trans he650565
        have hfr650583 : rFr [] P650166 F650167 F650576 := rFr_call hsb650544 hfr650566 hfr650578 (fun b hb hn => ⟨nm_n, (nm_c (fun e => hq650543 (e ▸ hb)) (nm_c (fun e => hq650523 (e ▸ hb)) nm_n))⟩)
        have bo650573' : gB o650573 1 1 := ⟨by omega, by omega⟩
        change G _ _ _ _ _ _ _ (.ref q650510 :: _) _ _ _
        refine G_widen (cs' := 2) (sl' := 20) (Nat.add_le_add_left hdc 2) (Nat.add_le_add_left hds 20) ?_
        refine G_aload_n 0 dr_cX14_symbol_52 rfl ?_
        refine Gp_get 0 hm650540 he650581 dr_cX14_symbol_53 (gk_X14 D I) (Nat.le_of_ble_eq_true rfl) wr_9_36 rfl ?_
        refine G_aload_n 0 dr_cX14_symbol_56 rfl ?_
        refine Gp_get 2 hm650540 he650581 dr_cX14_symbol_57 (gk_X14 D I) (Nat.le_of_ble_eq_true rfl) wr_9_38 rfl ?_
        refine G_iconst 1 dr_cX14_symbol_60 (by decide +kernel) ?_
        refine G_iadd dr_cX14_symbol_61 (G_eqi (y := z650499) hz650499.symm ?_)
        refine Gp_bald 1 hm650541 he650582 dr_cX14_symbol_62 rfl (gB_in bz650499' (by decide) (by decide)) (G_eqi (y := z650503) hz650503.symm ?_)
        refine G_i2c dr_cX14_symbol_63 (G_nam fun z650584 hz650584 => ?_)
        have ez650584 : z650584.toInt = z650503.toInt := gI_i2c hz650584 (by omega) (by omega)
        have bz650584 : gB z650584 33 127 := ⟨by omega, by omega⟩
        refine Gw_callV (As := [.int z650584]) (gV_ok D I) (cp_640099_StringBuilder_append l hl0 D I P650532 F650576 q650510 q650531 z650584 0 o650573 f650574 16 hm650542 hm650538 he650579 he650580 (gB_w bz650584 (by decide) (by decide)) (gB_w (gBl (show Int32.toInt 0 = 0 by decide)) (by decide) (by decide)) (gB_w bo650573' (by decide) (by decide)) bf650574 (by have qa0 : Int32.toInt 0 = 0 := (by decide); omega) (by have qa0 : Int32.toInt 0 = 0 := (by decide); omega)) dr_cX14_symbol_64 ⟨wr_7_237, wr_1_20, wr_8_0, by decide, rfl, (Nat.le_of_ble_eq_true rfl), (Nat.le_of_ble_eq_true rfl)⟩ wr_7_238 wr_7_239 hm650542 he650579 rfl (Nat.le_trans (show 2 + 0 ≤ 16 by decide) hMC) (Nat.le_trans (show 20 + 0 ≤ 256 by decide) hMS) (Nat.le_of_ble_eq_true rfl) (fun r650588 w650589 dc650585 ds650586 hp650587 => ?_) (fun _ _ _ _ _ z => z.elim)
        obtain ⟨F650593, o650590, f650591, rfl, rfl, hfr650595, he650596, he650597, hdc, hds, bo650590, bf650591, x650592⟩ := hp650587
        have he650598 : F650593 q650168 = .inr (19, [.ref q650169, .int p650171, .int p650172, .int p650173, .int p650174, .int p650175, .int p650176, .ref qo650177, .int p650178, .int p650179, .int p650180, .ref qo650181, .ref qo650182, .int p650183]) := (hfr650595 q650168 hm650540 (nm_c (fun h => hq650543 (h ▸ hmq650168)) (nm_c (fun h => hq650523 (h ▸ hmq650168)) nm_n))).trans he650581
        have he650599 : F650593 q650169 = .inl (I .byte, 8192, .inl f650184) := (hfr650595 q650169 hm650541 (nm_c (fun h => hq650543 (h ▸ hmq650169)) (nm_c (fun h => hq650523 (h ▸ hmq650169)) nm_n))).trans he650582
        have hfr650600 : rFr [] P650166 F650167 F650593 := rFr_call hsb650544 hfr650583 hfr650595 (fun b hb hn => ⟨nm_n, (nm_c (fun e => hq650543 (e ▸ hb)) (nm_c (fun e => hq650523 (e ▸ hb)) nm_n))⟩)
        have bo650590' : gB o650590 2 2 := ⟨by omega, by omega⟩
        change G _ _ _ _ _ _ _ (.ref q650510 :: _) _ _ _
        refine G_widen (cs' := 2) (sl' := 20) (Nat.add_le_add_left hdc 2) (Nat.add_le_add_left hds 20) ?_
        refine Gw_callV (As := []) (gV_ok D I) (cp_641280_StringBuilder_toString l hl0 D I P650532 F650593 q650510 q650531 0 o650590 f650591 16 hm650542 hm650538 he650596 he650597 (gB_w (gBl (show Int32.toInt 0 = 0 by decide)) (by decide) (by decide)) (gB_w bo650590' (by decide) (by decide)) bf650591 (by have qa0 : Int32.toInt 0 = 0 := (by decide); omega) (by have qa0 : Int32.toInt 0 = 0 := (by decide); omega)) dr_cX14_symbol_67 ⟨wr_8_66, wr_1_20, wr_8_69, by decide, rfl, (Nat.le_of_ble_eq_true rfl), (Nat.le_of_ble_eq_true rfl)⟩ wr_8_67 wr_8_68 hm650542 he650596 rfl (Nat.le_trans (show 2 + 2 ≤ 16 by decide) hMC) (show 20 + (o650590.toInt.toNat + 4) ≤ ((256 * (p650171.toInt - p650172.toInt)).toNat) by first | omega | decide) (Nat.le_of_ble_eq_true rfl) (fun r650604 w650605 dc650601 ds650602 hp650603 => ?_) (fun _ _ _ _ _ z => z.elim)
        obtain ⟨P650612, F650613, q650606, q650607, n650608, f650609, rfl, rfl, hsb650614, hfr650615, he650616, he650617, he650618, he650619, hm650620, hq650621, hm650622, hq650623, hdc, hds, bf650609, x650610, x650611⟩ := hp650603
        have hm650624 : q650168 ∈ P650612 := hsb650614 q650168 hm650540
        have hm650625 : q650169 ∈ P650612 := hsb650614 q650169 hm650541
        have hm650626 : q650510 ∈ P650612 := hsb650614 q650510 hm650542
        have hm650627 : q650531 ∈ P650612 := hsb650614 q650531 hm650538
        have hq650628 : q650606 ∉ P650166 := fun z => hq650621 (hsb650544 q650606 z)
        have hq650629 : q650607 ∉ P650166 := fun z => hq650623 (hsb650544 q650607 z)
        have hsb650630 : rSub P650166 P650612 := rSub_tr hsb650544 hsb650614
        have he650631 : F650613 q650168 = .inr (19, [.ref q650169, .int p650171, .int p650172, .int p650173, .int p650174, .int p650175, .int p650176, .ref qo650177, .int p650178, .int p650179, .int p650180, .ref qo650181, .ref qo650182, .int p650183]) := (hfr650615 q650168 hm650540 nm_n).trans he650598
        have he650632 : F650613 q650169 = .inl (I .byte, 8192, .inl f650184) := (hfr650615 q650169 hm650541 nm_n).trans he650599
        have hfr650633 : rFr [] P650166 F650167 F650613 := rFr_call hsb650544 hfr650600 hfr650615 (fun b hb hn => ⟨nm_n, nm_n⟩)
        have hne650634 : q650531 ≠ q650607 := fun h => hq650623 (h ▸ hm650538)
        change G _ _ _ _ _ _ _ (.ref q650606 :: _) _ _ _
        refine G_widen (cs' := 4) (sl' := 20 + (o650590.toInt.toNat + 4)) (Nat.add_le_add_left hdc 2) (by omega) ?_
        refine G_goto 75 dr_cX14_symbol_70 (by decide +kernel) ?_
        refine G_astore_n (L' := [(2, .ref q650606), (0, .ref q650168), (1, .int p650170)]) dr_cX14_symbol_75 (Nat.le_of_ble_eq_true rfl) rfl ?_
        clear jn650190 bz650499 bz650503 he650517 he650518 he650519 hm650520 hm650521 hm650522 hq650523 hfr650524 hsb650525 hsb650534 hfr650535 he650536 he650537 hm650538 hq650539 hm650540 hm650541 hm650542 hq650543 hsb650544 he650545 he650546 hfr650547 hfr650561 he650562 he650563 bo650554 bf650555 he650564 he650565 hfr650566 hz650567 ez650567 bz650567 hfr650578 he650579 he650580 bo650573 bf650574 he650581 he650582 hfr650583 hz650584 ez650584 bz650584 hfr650595 he650596 he650597 bo650590 bf650591 he650598 he650599 hfr650600 hsb650614 hfr650615 he650617 he650618 hq650621 hq650623 hm650626 hm650627 hne650634; try clear r650529; try clear w650530; try clear dc650526; try clear ds650527; try clear hp650528; try clear r650552; try clear w650553; try clear dc650549; try clear ds650550; try clear hp650551; try clear x650557; try clear x650558; try clear r650571; try clear w650572; try clear dc650568; try clear ds650569; try clear hp650570; try clear r650588; try clear w650589; try clear dc650585; try clear ds650586; try clear hp650587; try clear r650604; try clear w650605; try clear dc650601; try clear ds650602; try clear hp650603; try clear x650611
        refine G_aload_n 0 dr_cX14_symbol_76 rfl ?_
        refine Gw_callV (As := []) (gV_ok D I) (cp_640627_String_length l hl0 D I P650612 F650613 q650606 q650607 0 0 f650609 n650608 hm650620 hm650622 he650616 he650619 (gB_w (gBl (show Int32.toInt 0 = 0 by decide)) (by decide) (by decide)) bf650609 (by have qa0 : Int32.toInt 0 = 0 := (by decide); omega)) dr_cX14_symbol_77 ⟨wr_8_227, wr_1_21, wr_3_60, by decide, rfl, (Nat.le_of_ble_eq_true rfl), (Nat.le_of_ble_eq_true rfl)⟩ wr_3_58 wr_3_59 hm650620 he650616 rfl (Nat.le_trans (show 4 + 0 ≤ 16 by decide) hMC) (show 20 + (o650590.toInt.toNat + 4) + 0 ≤ ((256 * (p650171.toInt - p650172.toInt)).toNat) by first | omega | decide) (Nat.le_of_ble_eq_true rfl) (fun r650638 w650639 dc650635 ds650636 hp650637 => ?_) (fun _ _ _ _ _ z => z.elim)
        obtain ⟨o650640, rfl, rfl, hdc, hds, bo650640, x650641⟩ := hp650637
        have bo650640' : gB o650640 2 2 := ⟨by omega, by omega⟩
        change G _ _ _ _ _ _ _ (.int o650640 :: _) _ _ _
        refine G_widen (cs' := 4) (sl' := 20 + (o650590.toInt.toNat + 4) + 0) (Nat.add_le_add_left hdc 4) (by omega) ?_
        refine G_iconst 2 dr_cX14_symbol_80 (by decide +kernel) ?_
        refine G_icmp_ne 120 dr_cX14_symbol_81 (by decide +kernel) (fun hc => absurd (show False by have := gj_neq hc (show Int32.toInt 2 = 2 by decide); omega) not_false) (fun _ => ?_)
        clear bo650640; try clear r650638; try clear w650639; try clear dc650635; try clear ds650636; try clear hp650637
        refine G_ldcK (a := D.2 1000 36) dr_cX14_symbol_84 (fun _ _ _ h => gx_vk 36 rfl rfl h) ?_
        have hl36_650641 : (sb_36.length : Int) = 16 := rfl
        refine G_new [.null, .int 0, .int 0, .int 0] dr_cX14_symbol_86 (gk_J4 D I) wr_7_235 wr_7_44 wr_1_20 (gfs_J4) (Nat.le_trans (show 4 + 1 ≤ 16 by decide) hMC) (show 20 + (o650590.toInt.toNat + 4) + 0 + 4 ≤ ((256 * (p650171.toInt - p650172.toInt)).toNat) by first | omega | decide) (fun q650643 => Gp_in (fun P650644 F650645 hq650646 hP650647 e650648 n650649 => ?_))
        refine G_widen (cs' := 5) (sl' := 20 + (o650590.toInt.toNat + 4) + 0 + 4) (by omega) (by omega) ?_
        have he650650 : F650645 q650168 = .inr (19, [.ref q650169, .int p650171, .int p650172, .int p650173, .int p650174, .int p650175, .int p650176, .ref qo650177, .int p650178, .int p650179, .int p650180, .ref qo650181, .ref qo650182, .int p650183]) := (n650649 q650168 (fun h => hq650646 (h ▸ hm650624))).trans he650631
        have he650651 : F650645 q650169 = .inl (I .byte, 8192, .inl f650184) := (n650649 q650169 (fun h => hq650646 (h ▸ hm650625))).trans he650632
        have he650652 : F650645 q650606 = .inr (0, [.ref q650607, .int 0, .int 0, .int 0]) := (n650649 q650606 (fun h => hq650646 (h ▸ hm650620))).trans he650616
        have he650653 : F650645 q650607 = .inl (I .byte, n650608, .inl f650609) := (n650649 q650607 (fun h => hq650646 (h ▸ hm650622))).trans he650619
        have he650654 : F650645 q650643 = .inr (1, [.null, .int 0, .int 0, .int 0]) := e650648
        have hm650655 : q650168 ∈ P650644 := (hP650647 q650168).mpr (Or.inl hm650624)
        have hm650656 : q650169 ∈ P650644 := (hP650647 q650169).mpr (Or.inl hm650625)
        have hm650657 : q650606 ∈ P650644 := (hP650647 q650606).mpr (Or.inl hm650620)
        have hm650658 : q650607 ∈ P650644 := (hP650647 q650607).mpr (Or.inl hm650622)
        have hm650659 : q650643 ∈ P650644 := (hP650647 q650643).mpr (Or.inr rfl)
        have hq650660 : q650643 ∉ P650166 := fun z => hq650646 (hsb650630 q650643 z)
        have hfr650661 : rFr [] P650166 F650167 F650645 := rFr_new hsb650630 hq650646 hfr650633 n650649
        have hsb650662 : rSub P650166 P650644 := rSub_new hsb650630 hP650647
        refine G_dup dr_cX14_symbol_89 rfl ?_
        refine Gw_callI (As := []) (gV_ok D I) (cp_640525_StringBuilder_init l hl0 D I P650644 F650645 q650643 0 0 hm650659 he650654 (gB_w (gBl (show Int32.toInt 0 = 0 by decide)) (by decide) (by decide)) (gB_w (gBl (show Int32.toInt 0 = 0 by decide)) (by decide) (by decide))) dr_cX14_symbol_90 ⟨wr_7_236, wr_1_20, wr_7_47, by decide, rfl, (Nat.le_of_ble_eq_true rfl), (Nat.le_of_ble_eq_true rfl)⟩ wr_7_46 rfl (Nat.le_trans (show 5 + 1 ≤ 16 by decide) hMC) (show 20 + (o650590.toInt.toNat + 4) + 0 + 4 + 16 ≤ ((256 * (p650171.toInt - p650172.toInt)).toNat) by first | omega | decide) (Nat.le_of_ble_eq_true rfl) (fun r650666 w650667 dc650663 ds650664 hp650665 => ?_)
        obtain ⟨P650669, F650670, q650668, rfl, rfl, hsb650671, hfr650672, he650673, he650674, hm650675, hq650676, hdc, hds⟩ := hp650665
        have hm650677 : q650168 ∈ P650669 := hsb650671 q650168 hm650655
        have hm650678 : q650169 ∈ P650669 := hsb650671 q650169 hm650656
        have hm650679 : q650606 ∈ P650669 := hsb650671 q650606 hm650657
        have hm650680 : q650607 ∈ P650669 := hsb650671 q650607 hm650658
        have hm650681 : q650643 ∈ P650669 := hsb650671 q650643 hm650659
        have hq650682 : q650668 ∉ P650166 := fun z => hq650676 (hsb650662 q650668 z)
        have hsb650683 : rSub P650166 P650669 := rSub_tr hsb650662 hsb650671
        have he650684 : F650670 q650168 = .inr (19, [.ref q650169, .int p650171, .int p650172, .int p650173, .int p650174, .int p650175, .int p650176, .ref qo650177, .int p650178, .int p650179, .int p650180, .ref qo650181, .ref qo650182, .int p650183]) := (hfr650672 q650168 hm650655 (nm_c (fun h => hq650660 (h ▸ hmq650168)) nm_n)).trans he650650
        have he650685 : F650670 q650169 = .inl (I .byte, 8192, .inl f650184) := (hfr650672 q650169 hm650656 (nm_c (fun h => hq650660 (h ▸ hmq650169)) nm_n)).trans he650651
        have he650686 : F650670 q650606 = .inr (0, [.ref q650607, .int 0, .int 0, .int 0]) := (hfr650672 q650606 hm650657 (nm_c (rn_oo he650652 he650654 (by decide)) nm_n)).trans he650652
        have he650687 : F650670 q650607 = .inl (I .byte, n650608, .inl f650609) := (hfr650672 q650607 hm650658 (nm_c (rn_ao he650653 he650654) nm_n)).trans he650653
        have hfr650688 : rFr [] P650166 F650167 F650670 := rFr_call hsb650662 hfr650661 hfr650672 (fun b hb hn => ⟨nm_n, (nm_c (fun e => hq650660 (e ▸ hb)) nm_n)⟩)
        have hne650689 : q650607 ≠ q650668 := fun h => hq650676 (h ▸ hm650658)
        change G _ _ _ _ _ _ _ _ _ _ _
        refine G_widen (cs' := 6) (sl' := 20 + (o650590.toInt.toNat + 4) + 0 + 4 + 16) (Nat.add_le_add_left hdc 5) (by omega) ?_
        refine G_ldcK (a := D.2 1000 35) dr_cX14_symbol_93 (fun _ _ _ h => gx_vk 35 rfl rfl h) ?_
        have hl35_650689 : (sb_35.length : Int) = 1 := rfl
        refine Gw_callV (As := [.ref (D.2 1000 35)]) (gV_ok D I) (cp_640822_StringBuilder_append l hl0 D I P650669 F650670 q650643 q650668 (D.2 1000 35) (D.2 1001 35) sb_35 0 0 (fun _ => 0) 16 hm650681 hm650675 he650673 he650674 (gx_sc 35 rfl rfl) (by omega) (by decide +kernel) (gB_w (gBl (show Int32.toInt 0 = 0 by decide)) (by decide) (by decide)) (gB_w (gBl (show Int32.toInt 0 = 0 by decide)) (by decide) (by decide)) (gF_w gF_0 (by decide) (by decide)) (by have qa0 : Int32.toInt 0 = 0 := (by decide); omega) (by have qa0 : Int32.toInt 0 = 0 := (by decide); omega)) dr_cX14_symbol_95 ⟨wr_8_195, wr_1_20, wr_8_143, by decide, rfl, (Nat.le_of_ble_eq_true rfl), (Nat.le_of_ble_eq_true rfl)⟩ wr_8_141 wr_8_142 hm650681 he650673 rfl (Nat.le_trans (show 6 + 0 ≤ 16 by decide) hMC) (show 20 + (o650590.toInt.toNat + 4) + 0 + 4 + 16 + 0 ≤ ((256 * (p650171.toInt - p650172.toInt)).toNat) by first | omega | decide) (Nat.le_of_ble_eq_true rfl) (fun r650694 w650695 dc650691 ds650692 hp650693 => ?_) (fun _ _ _ _ _ z => z.elim)
        obtain ⟨F650701, o650696, f650697, rfl, rfl, hfr650703, he650704, he650705, hdc, hds, bo650696, bf650697, x650698, x650699, x650700⟩ := hp650693
        have he650706 : F650701 q650168 = .inr (19, [.ref q650169, .int p650171, .int p650172, .int p650173, .int p650174, .int p650175, .int p650176, .ref qo650177, .int p650178, .int p650179, .int p650180, .ref qo650181, .ref qo650182, .int p650183]) := (hfr650703 q650168 hm650677 (nm_c (fun h => hq650660 (h ▸ hmq650168)) (nm_c (fun h => hq650682 (h ▸ hmq650168)) nm_n))).trans he650684
        have he650707 : F650701 q650169 = .inl (I .byte, 8192, .inl f650184) := (hfr650703 q650169 hm650678 (nm_c (fun h => hq650660 (h ▸ hmq650169)) (nm_c (fun h => hq650682 (h ▸ hmq650169)) nm_n))).trans he650685
        have he650708 : F650701 q650606 = .inr (0, [.ref q650607, .int 0, .int 0, .int 0]) := (hfr650703 q650606 hm650679 (nm_c (rn_oo he650686 he650673 (by decide)) (nm_c (rn_oa he650686 he650674) nm_n))).trans he650686
        have he650709 : F650701 q650607 = .inl (I .byte, n650608, .inl f650609) := (hfr650703 q650607 hm650680 (nm_c (rn_ao he650687 he650673) (nm_c hne650689 nm_n))).trans he650687
        have hfr650710 : rFr [] P650166 F650167 F650701 := rFr_call hsb650683 hfr650688 hfr650703 (fun b hb hn => ⟨nm_n, (nm_c (fun e => hq650660 (e ▸ hb)) (nm_c (fun e => hq650682 (e ▸ hb)) nm_n))⟩)
        rw [show Int32.toInt 0 = 0 from by decide] at x650698
        have bo650696' : gB o650696 1 1 := ⟨by omega, by omega⟩
        rw [show Int32.toInt 0 = 0 from by decide] at x650699
        rw [show Int32.toInt 0 = 0 from by decide] at x650700
        change G _ _ _ _ _ _ _ (.ref q650643 :: _) _ _ _
        refine G_widen (cs' := 6) (sl' := 20 + (o650590.toInt.toNat + 4) + 0 + 4 + 16 + 0) (Nat.add_le_add_left hdc 6) (by omega) ?_
        refine G_aload_n 0 dr_cX14_symbol_98 rfl ?_
        refine Gw_callV (As := [.ref q650606]) (gV_ok D I) (cp_640599_StringBuilder_append l hl0 D I P650669 F650701 q650643 q650606 q650668 q650607 0 o650696 0 0 f650697 16 f650609 n650608 hm650681 hm650679 hm650675 hm650680 he650704 he650708 he650705 he650709 (Ne.symm hne650689) (gB_w (gBl (show Int32.toInt 0 = 0 by decide)) (by decide) (by decide)) (gB_w bo650696' (by decide) (by decide)) (gB_w (gBl (show Int32.toInt 0 = 0 by decide)) (by decide) (by decide)) bf650697 bf650609 (by have qa0 : Int32.toInt 0 = 0 := (by decide); omega) (by have qa0 : Int32.toInt 0 = 0 := (by decide); omega) (by have qa0 : Int32.toInt 0 = 0 := (by decide); omega)) dr_cX14_symbol_99 ⟨wr_8_195, wr_1_20, wr_8_143, by decide, rfl, (Nat.le_of_ble_eq_true rfl), (Nat.le_of_ble_eq_true rfl)⟩ wr_8_141 wr_8_142 hm650681 he650704 rfl (Nat.le_trans (show 6 + 0 ≤ 16 by decide) hMC) (show 20 + (o650590.toInt.toNat + 4) + 0 + 4 + 16 + 0 + 0 ≤ ((256 * (p650171.toInt - p650172.toInt)).toNat) by first | omega | decide) (Nat.le_of_ble_eq_true rfl) (fun r650714 w650715 dc650711 ds650712 hp650713 => ?_) (fun _ _ _ _ _ z => z.elim)
        obtain ⟨F650721, o650716, f650717, rfl, rfl, hfr650723, he650724, he650725, he650726, he650727, hdc, hds, bo650716, bf650717, x650718, x650719, x650720⟩ := hp650713
        have he650728 : F650721 q650168 = .inr (19, [.ref q650169, .int p650171, .int p650172, .int p650173, .int p650174, .int p650175, .int p650176, .ref qo650177, .int p650178, .int p650179, .int p650180, .ref qo650181, .ref qo650182, .int p650183]) := (hfr650723 q650168 hm650677 (nm_c (fun h => hq650660 (h ▸ hmq650168)) (nm_c (fun h => hq650682 (h ▸ hmq650168)) nm_n))).trans he650706
        have he650729 : F650721 q650169 = .inl (I .byte, 8192, .inl f650184) := (hfr650723 q650169 hm650678 (nm_c (fun h => hq650660 (h ▸ hmq650169)) (nm_c (fun h => hq650682 (h ▸ hmq650169)) nm_n))).trans he650707
        have hfr650730 : rFr [] P650166 F650167 F650721 := rFr_call hsb650683 hfr650710 hfr650723 (fun b hb hn => ⟨nm_n, (nm_c (fun e => hq650660 (e ▸ hb)) (nm_c (fun e => hq650682 (e ▸ hb)) nm_n))⟩)
        have bo650716' : gB o650716 3 3 := ⟨by omega, by omega⟩
        change G _ _ _ _ _ _ _ (.ref q650643 :: _) _ _ _
        refine G_widen (cs' := 6) (sl' := 20 + (o650590.toInt.toNat + 4) + 0 + 4 + 16 + 0 + 0) (Nat.add_le_add_left hdc 6) (by omega) ?_
        refine G_ldcK (a := D.2 1000 35) dr_cX14_symbol_102 (fun _ _ _ h => gx_vk 35 rfl rfl h) ?_
        have hl35_650730 : (sb_35.length : Int) = 1 := rfl
        refine Gw_callV (As := [.ref (D.2 1000 35)]) (gV_ok D I) (cp_640822_StringBuilder_append l hl0 D I P650669 F650721 q650643 q650668 (D.2 1000 35) (D.2 1001 35) sb_35 0 o650716 f650717 16 hm650681 hm650675 he650724 he650726 (gx_sc 35 rfl rfl) (by omega) (by decide +kernel) (gB_w (gBl (show Int32.toInt 0 = 0 by decide)) (by decide) (by decide)) (gB_w bo650716' (by decide) (by decide)) bf650717 (by have qa0 : Int32.toInt 0 = 0 := (by decide); omega) (by have qa0 : Int32.toInt 0 = 0 := (by decide); omega)) dr_cX14_symbol_104 ⟨wr_8_195, wr_1_20, wr_8_143, by decide, rfl, (Nat.le_of_ble_eq_true rfl), (Nat.le_of_ble_eq_true rfl)⟩ wr_8_141 wr_8_142 hm650681 he650724 rfl (Nat.le_trans (show 6 + 0 ≤ 16 by decide) hMC) (show 20 + (o650590.toInt.toNat + 4) + 0 + 4 + 16 + 0 + 0 + 0 ≤ ((256 * (p650171.toInt - p650172.toInt)).toNat) by first | omega | decide) (Nat.le_of_ble_eq_true rfl) (fun r650735 w650736 dc650732 ds650733 hp650734 => ?_) (fun _ _ _ _ _ z => z.elim)
        obtain ⟨F650742, o650737, f650738, rfl, rfl, hfr650744, he650745, he650746, hdc, hds, bo650737, bf650738, x650739, x650740, x650741⟩ := hp650734
        have he650747 : F650742 q650168 = .inr (19, [.ref q650169, .int p650171, .int p650172, .int p650173, .int p650174, .int p650175, .int p650176, .ref qo650177, .int p650178, .int p650179, .int p650180, .ref qo650181, .ref qo650182, .int p650183]) := (hfr650744 q650168 hm650677 (nm_c (fun h => hq650660 (h ▸ hmq650168)) (nm_c (fun h => hq650682 (h ▸ hmq650168)) nm_n))).trans he650728
        have he650748 : F650742 q650169 = .inl (I .byte, 8192, .inl f650184) := (hfr650744 q650169 hm650678 (nm_c (fun h => hq650660 (h ▸ hmq650169)) (nm_c (fun h => hq650682 (h ▸ hmq650169)) nm_n))).trans he650729
        have he650749 : F650742 q650606 = .inr (0, [.ref q650607, .int 0, .int 0, .int 0]) := (hfr650744 q650606 hm650679 (nm_c (rn_oo he650725 he650724 (by decide)) (nm_c (rn_oa he650725 he650726) nm_n))).trans he650725
        have he650750 : F650742 q650607 = .inl (I .byte, n650608, .inl f650609) := (hfr650744 q650607 hm650680 (nm_c (rn_ao he650727 he650724) (nm_c hne650689 nm_n))).trans he650727
        have hfr650751 : rFr [] P650166 F650167 F650742 := rFr_call hsb650683 hfr650730 hfr650744 (fun b hb hn => ⟨nm_n, (nm_c (fun e => hq650660 (e ▸ hb)) (nm_c (fun e => hq650682 (e ▸ hb)) nm_n))⟩)
        have bo650737' : gB o650737 4 4 := ⟨by omega, by omega⟩
        change G _ _ _ _ _ _ _ (.ref q650643 :: _) _ _ _
        refine G_widen (cs' := 6) (sl' := 20 + (o650590.toInt.toNat + 4) + 0 + 4 + 16 + 0 + 0 + 0) (Nat.add_le_add_left hdc 6) (by omega) ?_
        refine Gw_callV (As := []) (gV_ok D I) (cp_641280_StringBuilder_toString l hl0 D I P650669 F650742 q650643 q650668 0 o650737 f650738 16 hm650681 hm650675 he650745 he650746 (gB_w (gBl (show Int32.toInt 0 = 0 by decide)) (by decide) (by decide)) (gB_w bo650737' (by decide) (by decide)) bf650738 (by have qa0 : Int32.toInt 0 = 0 := (by decide); omega) (by have qa0 : Int32.toInt 0 = 0 := (by decide); omega)) dr_cX14_symbol_107 ⟨wr_8_66, wr_1_20, wr_8_69, by decide, rfl, (Nat.le_of_ble_eq_true rfl), (Nat.le_of_ble_eq_true rfl)⟩ wr_8_67 wr_8_68 hm650681 he650745 rfl (Nat.le_trans (show 6 + 2 ≤ 16 by decide) hMC) (show 20 + (o650590.toInt.toNat + 4) + 0 + 4 + 16 + 0 + 0 + 0 + (o650737.toInt.toNat + 4) ≤ ((256 * (p650171.toInt - p650172.toInt)).toNat) by first | omega | decide) (Nat.le_of_ble_eq_true rfl) (fun r650755 w650756 dc650752 ds650753 hp650754 => ?_) (fun _ _ _ _ _ z => z.elim)
        obtain ⟨P650763, F650764, q650757, q650758, n650759, f650760, rfl, rfl, hsb650765, hfr650766, he650767, he650768, he650769, he650770, hm650771, hq650772, hm650773, hq650774, hdc, hds, bf650760, x650761, x650762⟩ := hp650754
        have hm650775 : q650168 ∈ P650763 := hsb650765 q650168 hm650677
        have hm650776 : q650169 ∈ P650763 := hsb650765 q650169 hm650678
        have hm650777 : q650606 ∈ P650763 := hsb650765 q650606 hm650679
        have hm650778 : q650607 ∈ P650763 := hsb650765 q650607 hm650680
        have hm650779 : q650643 ∈ P650763 := hsb650765 q650643 hm650681
        have hm650780 : q650668 ∈ P650763 := hsb650765 q650668 hm650675
        have hq650781 : q650757 ∉ P650166 := fun z => hq650772 (hsb650683 q650757 z)
        have hq650782 : q650758 ∉ P650166 := fun z => hq650774 (hsb650683 q650758 z)
        have hsb650783 : rSub P650166 P650763 := rSub_tr hsb650683 hsb650765
        have he650784 : F650764 q650168 = .inr (19, [.ref q650169, .int p650171, .int p650172, .int p650173, .int p650174, .int p650175, .int p650176, .ref qo650177, .int p650178, .int p650179, .int p650180, .ref qo650181, .ref qo650182, .int p650183]) := (hfr650766 q650168 hm650677 nm_n).trans he650747
        have he650785 : F650764 q650169 = .inl (I .byte, 8192, .inl f650184) := (hfr650766 q650169 hm650678 nm_n).trans he650748
        have he650786 : F650764 q650606 = .inr (0, [.ref q650607, .int 0, .int 0, .int 0]) := (hfr650766 q650606 hm650679 nm_n).trans he650749
        have he650787 : F650764 q650607 = .inl (I .byte, n650608, .inl f650609) := (hfr650766 q650607 hm650680 nm_n).trans he650750
        have hfr650788 : rFr [] P650166 F650167 F650764 := rFr_call hsb650683 hfr650751 hfr650766 (fun b hb hn => ⟨nm_n, nm_n⟩)
        have hne650789 : q650606 ≠ q650757 := fun h => hq650772 (h ▸ hm650679)
        have hne650790 : q650607 ≠ q650758 := fun h => hq650774 (h ▸ hm650680)
        have hne650791 : q650668 ≠ q650758 := fun h => hq650774 (h ▸ hm650675)
        change G _ _ _ _ _ _ _ (.ref q650757 :: _) _ _ _
        refine G_widen (cs' := 8) (sl' := 20 + (o650590.toInt.toNat + 4) + 0 + 4 + 16 + 0 + 0 + 0 + (o650737.toInt.toNat + 4)) (Nat.add_le_add_left hdc 6) (by omega) ?_
        refine Gw_callVk (As := [.ref q650757]) (gV_ok D I) (cp_641729_String_indexOf l hl0 D I P650763 F650764 q650757 q650758 (D.2 1000 36) (D.2 1001 36) sb_36 0 0 f650760 n650759 hm650771 hm650773 he650767 he650770 (gx_sc 36 rfl rfl) (by omega) (by decide +kernel) (gB_w (gBl (show Int32.toInt 0 = 0 by decide)) (by decide) (by decide)) bf650760 (by have qa0 : Int32.toInt 0 = 0 := (by decide); omega) (by have qa0 : Int32.toInt 0 = 0 := (by decide); omega)) dr_cX14_symbol_110 ⟨wr_8_196, wr_1_21, wr_8_199, by decide, rfl, (Nat.le_of_ble_eq_true rfl), (Nat.le_of_ble_eq_true rfl)⟩ wr_8_197 wr_8_198 (fun _ _ _ h => ((gx_sc 36 rfl rfl) _ _ _ h).1) (Nat.le_trans (show 8 + 0 ≤ 16 by decide) hMC) (show 20 + (o650590.toInt.toNat + 4) + 0 + 4 + 16 + 0 + 0 + 0 + (o650737.toInt.toNat + 4) + 0 ≤ ((256 * (p650171.toInt - p650172.toInt)).toNat) by first | omega | decide) (Nat.le_of_ble_eq_true rfl) (fun r650795 w650796 dc650792 ds650793 hp650794 => ?_) (fun _ _ _ _ _ z => z.elim)
        obtain ⟨o650797, rfl, rfl, hdc, hds, bo650797, x650798, x650799⟩ := hp650794
        change G _ _ _ _ _ _ _ (.int o650797 :: _) _ _ _
        refine G_widen (cs' := 8) (sl' := 20 + (o650590.toInt.toNat + 4) + 0 + 4 + 16 + 0 + 0 + 0 + (o650737.toInt.toNat + 4) + 0) (Nat.add_le_add_left hdc 8) (by omega) ?_
        refine G_if_lt 120 dr_cX14_symbol_113 (by decide +kernel) (fun hc650800 => ?_) (fun hc650800 => ?_)
        · have r650801 : o650797.toInt < 0 := gj_lt hc650800 (show Int32.toInt 0 = 0 by decide)
          have bo650797' : gB o650797 (-2147483646) (-1) := ⟨by omega, by omega⟩
          refine G_iconst 0 dr_cX14_symbol_120 (by decide +kernel) ?_
          refine G_istore_n (L' := [(3, .int 0), (2, .ref q650606), (0, .ref q650168), (1, .int p650170)]) dr_cX14_symbol_121 (Nat.le_of_ble_eq_true rfl) rfl ?_
          clear he650616 he650619 hm650620 hm650622 hm650624 hm650625 hsb650630 he650631 he650632 hfr650633 he650650 he650651 he650652 he650653 he650654 hm650655 hm650656 hm650657 hm650658 hm650659 hq650660 hfr650661 hsb650662 hsb650671 hfr650672 he650673 he650674 hm650675 hq650676 hm650677 hm650678 hm650679 hm650680 hm650681 hq650682 hsb650683 he650684 he650685 he650686 he650687 hfr650688 hne650689 hfr650703 he650704 he650705 bo650696 bf650697 he650706 he650707 he650708 he650709 hfr650710 hfr650723 he650724 he650725 he650726 he650727 bo650716 bf650717 he650728 he650729 hfr650730 hfr650744 he650745 he650746 bo650737 bf650738 he650747 he650748 he650749 he650750 hfr650751 hsb650765 hfr650766 he650767 he650768 he650769 he650770 hm650771 hq650772 hm650773 hq650774 bf650760 hm650779 hm650780 hq650781 hq650782 hne650789 hne650790 hne650791 bo650797; try clear r650666; try clear w650667; try clear dc650663; try clear ds650664; try clear hp650665; try clear r650694; try clear w650695; try clear dc650691; try clear ds650692; try clear hp650693; try clear x650699; try clear x650700; try clear r650714; try clear w650715; try clear dc650711; try clear ds650712; try clear hp650713; try clear x650719; try clear x650720; try clear r650735; try clear w650736; try clear dc650732; try clear ds650733; try clear hp650734; try clear x650740; try clear x650741; try clear r650755; try clear w650756; try clear dc650752; try clear ds650753; try clear hp650754; try clear x650762; try clear r650795; try clear w650796; try clear dc650792; try clear ds650793; try clear hp650794; try clear x650799
          refine G_aload_n 2 dr_cX14_symbol_122 rfl ?_
          refine G_iload_n 0 dr_cX14_symbol_123 rfl ?_
          refine G_if_ne 143 dr_cX14_symbol_124 (by decide +kernel) (fun hc => absurd hc (by decide)) (fun _ => ?_)
          refine G_iload_n 3 dr_cX14_symbol_127 rfl ?_
          refine G_bipush 32 dr_cX14_symbol_128 (by decide +kernel) ?_
          refine G_icmp_le 147 dr_cX14_symbol_130 (by decide +kernel) (fun hc => absurd (show False by have := gj_le hc (show Int32.toInt 32 = 32 by decide); omega) not_false) (fun _ => ?_)
          refine G_ldcK (a := D.2 1000 37) dr_cX14_symbol_133 (fun _ _ _ h => gx_vk 37 rfl rfl h) ?_
          have hl37_650801 : (sb_37.length : Int) = 14 := rfl
          refine G_iload_n 3 dr_cX14_symbol_135 rfl ?_
          refine G_i2c dr_cX14_symbol_136 (G_nam fun z650803 hz650803 => ?_)
          have ez650803 : z650803.toInt = p650170.toInt := gI_i2c hz650803 (by omega) (by omega)
          have bz650803 : gB z650803 33 127 := ⟨by omega, by omega⟩
          refine Gw_callVk (As := [.int z650803]) (gV_ok D I) (cp_648787_String_indexOf l hl0 D I P650763 F650764 (D.2 1000 37) (D.2 1001 37) sb_37 z650803 (gx_sc 37 rfl rfl) (by omega) (by decide +kernel) (gB_w bz650803 (by decide) (by decide))) dr_cX14_symbol_137 ⟨wr_8_230, wr_1_21, wr_8_233, by decide, rfl, (Nat.le_of_ble_eq_true rfl), (Nat.le_of_ble_eq_true rfl)⟩ wr_8_231 wr_8_232 (fun _ _ _ h => ((gx_sc 37 rfl rfl) _ _ _ h).1) (Nat.le_trans (show 8 + 0 ≤ 16 by decide) hMC) (show 20 + (o650590.toInt.toNat + 4) + 0 + 4 + 16 + 0 + 0 + 0 + (o650737.toInt.toNat + 4) + 0 + 0 ≤ ((256 * (p650171.toInt - p650172.toInt)).toNat) by first | omega | decide) (Nat.le_of_ble_eq_true rfl) (fun r650807 w650808 dc650804 ds650805 hp650806 => ?_) (fun _ _ _ _ _ z => z.elim)
          obtain ⟨o650809, rfl, rfl, hdc, hds, bo650809⟩ := hp650806
          change G _ _ _ _ _ _ _ (.int o650809 :: _) _ _ _
          refine G_widen (cs' := 8) (sl' := 20 + (o650590.toInt.toNat + 4) + 0 + 4 + 16 + 0 + 0 + 0 + (o650737.toInt.toNat + 4) + 0 + 0) (Nat.add_le_add_left hdc 8) (by omega) ?_
          refine G_if_lt 147 dr_cX14_symbol_140 (by decide +kernel) (fun hc650810 => ?_) (fun hc650810 => ?_)
          · have r650811 : o650809.toInt < 0 := gj_lt hc650810 (show Int32.toInt 0 = 0 by decide)
            have bo650809' : gB o650809 (-1) (-1) := ⟨by omega, by omega⟩
            refine G_bipush 6 dr_cX14_symbol_147 (by decide +kernel) ?_
            refine Gp_put 3 hm650775 he650784 dr_cX14_symbol_149 (gk_X14 D I) (Nat.le_of_ble_eq_true rfl) wr_9_39 rfl rfl rfl (Nat.le_of_ble_eq_true rfl) (fun F650812 e650813 n650814 => ?_)
            have he650815 : F650812 q650169 = .inl (I .byte, 8192, .inl f650184) := (n650814 q650169 (rn_ao he650785 he650784)).trans he650785
            have he650816 : F650812 q650606 = .inr (0, [.ref q650607, .int 0, .int 0, .int 0]) := (n650814 q650606 (fun h => hq650628 (h ▸ hmq650168))).trans he650786
            have he650817 : F650812 q650607 = .inl (I .byte, n650608, .inl f650609) := (n650814 q650607 (fun h => hq650629 (h ▸ hmq650168))).trans he650787
            have he650818 : F650812 q650168 = .inr (19, [.ref q650169, .int p650171, .int p650172, .int 6, .int p650174, .int p650175, .int p650176, .ref qo650177, .int p650178, .int p650179, .int p650180, .ref qo650181, .ref qo650182, .int p650183]) := e650813
            have hfr650819 : rFr [q650168] P650166 F650167 F650812 := rFr_put hfr650788 n650814
            clear he650784 he650785 he650786 he650787 hfr650788 hz650803 ez650803 bz650803 bo650809 bo650809'; try clear r650807; try clear w650808; try clear dc650804; try clear ds650805; try clear hp650806; try clear r650811
            refine G_aload_n 2 dr_cX14_symbol_152 rfl ?_
            refine G_iload_n 0 dr_cX14_symbol_153 rfl ?_
            refine G_if_eq 161 dr_cX14_symbol_154 (by decide +kernel) (fun _ => ?_) (fun hc => absurd hc (by decide))
            refine G_iload_n 3 dr_cX14_symbol_161 rfl ?_
            refine G_bipush 32 dr_cX14_symbol_162 (by decide +kernel) ?_
            refine G_icmp_le 190 dr_cX14_symbol_164 (by decide +kernel) (fun hc => absurd (show False by have := gj_le hc (show Int32.toInt 32 = 32 by decide); omega) not_false) (fun _ => ?_)
            refine G_new [.null, .int 0, .int 0, .int 0] dr_cX14_symbol_167 (gk_J4 D I) wr_7_235 wr_7_44 wr_1_20 (gfs_J4) (Nat.le_trans (show 8 + 1 ≤ 16 by decide) hMC) (show 20 + (o650590.toInt.toNat + 4) + 0 + 4 + 16 + 0 + 0 + 0 + (o650737.toInt.toNat + 4) + 0 + 0 + 4 ≤ ((256 * (p650171.toInt - p650172.toInt)).toNat) by first | omega | decide) (fun q650820 => Gp_in (fun P650821 F650822 hq650823 hP650824 e650825 n650826 => ?_))
            refine G_widen (cs' := 9) (sl' := 20 + (o650590.toInt.toNat + 4) + 0 + 4 + 16 + 0 + 0 + 0 + (o650737.toInt.toNat + 4) + 0 + 0 + 4) (by omega) (by omega) ?_
            have he650827 : F650822 q650168 = .inr (19, [.ref q650169, .int p650171, .int p650172, .int 6, .int p650174, .int p650175, .int p650176, .ref qo650177, .int p650178, .int p650179, .int p650180, .ref qo650181, .ref qo650182, .int p650183]) := (n650826 q650168 (fun h => hq650823 (h ▸ hm650775))).trans he650818
            have he650828 : F650822 q650169 = .inl (I .byte, 8192, .inl f650184) := (n650826 q650169 (fun h => hq650823 (h ▸ hm650776))).trans he650815
            have he650829 : F650822 q650606 = .inr (0, [.ref q650607, .int 0, .int 0, .int 0]) := (n650826 q650606 (fun h => hq650823 (h ▸ hm650777))).trans he650816
            have he650830 : F650822 q650607 = .inl (I .byte, n650608, .inl f650609) := (n650826 q650607 (fun h => hq650823 (h ▸ hm650778))).trans he650817
            have he650831 : F650822 q650820 = .inr (1, [.null, .int 0, .int 0, .int 0]) := e650825
            have hm650832 : q650168 ∈ P650821 := (hP650824 q650168).mpr (Or.inl hm650775)
            have hm650833 : q650169 ∈ P650821 := (hP650824 q650169).mpr (Or.inl hm650776)
            have hm650834 : q650606 ∈ P650821 := (hP650824 q650606).mpr (Or.inl hm650777)
            have hm650835 : q650607 ∈ P650821 := (hP650824 q650607).mpr (Or.inl hm650778)
            have hm650836 : q650820 ∈ P650821 := (hP650824 q650820).mpr (Or.inr rfl)
            have hq650837 : q650820 ∉ P650166 := fun z => hq650823 (hsb650783 q650820 z)
            have hfr650838 : rFr [q650168] P650166 F650167 F650822 := rFr_new hsb650783 hq650823 hfr650819 n650826
            have hsb650839 : rSub P650166 P650821 := rSub_new hsb650783 hP650824
            refine G_dup dr_cX14_symbol_170 rfl ?_
            refine Gw_callI (As := []) (gV_ok D I) (cp_640525_StringBuilder_init l hl0 D I P650821 F650822 q650820 0 0 hm650836 he650831 (gB_w (gBl (show Int32.toInt 0 = 0 by decide)) (by decide) (by decide)) (gB_w (gBl (show Int32.toInt 0 = 0 by decide)) (by decide) (by decide))) dr_cX14_symbol_171 ⟨wr_7_236, wr_1_20, wr_7_47, by decide, rfl, (Nat.le_of_ble_eq_true rfl), (Nat.le_of_ble_eq_true rfl)⟩ wr_7_46 rfl (Nat.le_trans (show 9 + 1 ≤ 16 by decide) hMC) (show 20 + (o650590.toInt.toNat + 4) + 0 + 4 + 16 + 0 + 0 + 0 + (o650737.toInt.toNat + 4) + 0 + 0 + 4 + 16 ≤ ((256 * (p650171.toInt - p650172.toInt)).toNat) by first | omega | decide) (Nat.le_of_ble_eq_true rfl) (fun r650843 w650844 dc650840 ds650841 hp650842 => ?_)
            obtain ⟨P650846, F650847, q650845, rfl, rfl, hsb650848, hfr650849, he650850, he650851, hm650852, hq650853, hdc, hds⟩ := hp650842
            have hm650854 : q650168 ∈ P650846 := hsb650848 q650168 hm650832
            have hm650855 : q650169 ∈ P650846 := hsb650848 q650169 hm650833
            have hm650856 : q650606 ∈ P650846 := hsb650848 q650606 hm650834
            have hm650857 : q650607 ∈ P650846 := hsb650848 q650607 hm650835
            have hm650858 : q650820 ∈ P650846 := hsb650848 q650820 hm650836
            have hq650859 : q650845 ∉ P650166 := fun z => hq650853 (hsb650839 q650845 z)
            have hsb650860 : rSub P650166 P650846 := rSub_tr hsb650839 hsb650848
            have he650861 : F650847 q650168 = .inr (19, [.ref q650169, .int p650171, .int p650172, .int 6, .int p650174, .int p650175, .int p650176, .ref qo650177, .int p650178, .int p650179, .int p650180, .ref qo650181, .ref qo650182, .int p650183]) := (hfr650849 q650168 hm650832 (nm_c (fun h => hq650837 (h ▸ hmq650168)) nm_n)).trans he650827
            have he650862 : F650847 q650169 = .inl (I .byte, 8192, .inl f650184) := (hfr650849 q650169 hm650833 (nm_c (fun h => hq650837 (h ▸ hmq650169)) nm_n)).trans he650828
            have he650863 : F650847 q650606 = .inr (0, [.ref q650607, .int 0, .int 0, .int 0]) := (hfr650849 q650606 hm650834 (nm_c (rn_oo he650829 he650831 (by decide)) nm_n)).trans he650829
            have he650864 : F650847 q650607 = .inl (I .byte, n650608, .inl f650609) := (hfr650849 q650607 hm650835 (nm_c (rn_ao he650830 he650831) nm_n)).trans he650830
            have hfr650865 : rFr [q650168] P650166 F650167 F650847 := rFr_call hsb650839 hfr650838 hfr650849 (fun b hb hn => ⟨(nm_c (fun e => hn (e ▸ List.mem_cons_self)) nm_n), (nm_c (fun e => hq650837 (e ▸ hb)) nm_n)⟩)
            have hne650866 : q650607 ≠ q650845 := fun h => hq650853 (h ▸ hm650835)
            change G _ _ _ _ _ _ _ _ _ _ _
            refine G_widen (cs' := 10) (sl' := 20 + (o650590.toInt.toNat + 4) + 0 + 4 + 16 + 0 + 0 + 0 + (o650737.toInt.toNat + 4) + 0 + 0 + 4 + 16) (Nat.add_le_add_left hdc 9) (by omega) ?_
            refine G_ldcK (a := D.2 1000 32) dr_cX14_symbol_174 (fun _ _ _ h => gx_vk 32 rfl rfl h) ?_
            have hl32_650866 : (sb_32.length : Int) = 0 := rfl
            refine Gw_callV (As := [.ref (D.2 1000 32)]) (gV_ok D I) (cp_640822_StringBuilder_append l hl0 D I P650846 F650847 q650820 q650845 (D.2 1000 32) (D.2 1001 32) sb_32 0 0 (fun _ => 0) 16 hm650858 hm650852 he650850 he650851 (gx_sc 32 rfl rfl) (by omega) (by decide +kernel) (gB_w (gBl (show Int32.toInt 0 = 0 by decide)) (by decide) (by decide)) (gB_w (gBl (show Int32.toInt 0 = 0 by decide)) (by decide) (by decide)) (gF_w gF_0 (by decide) (by decide)) (by have qa0 : Int32.toInt 0 = 0 := (by decide); have qa1 : Int32.toInt 6 = 6 := (by decide); omega) (by have qa0 : Int32.toInt 0 = 0 := (by decide); have qa1 : Int32.toInt 6 = 6 := (by decide); omega)) dr_cX14_symbol_176 ⟨wr_8_195, wr_1_20, wr_8_143, by decide, rfl, (Nat.le_of_ble_eq_true rfl), (Nat.le_of_ble_eq_true rfl)⟩ wr_8_141 wr_8_142 hm650858 he650850 rfl (Nat.le_trans (show 10 + 0 ≤ 16 by decide) hMC) (show 20 + (o650590.toInt.toNat + 4) + 0 + 4 + 16 + 0 + 0 + 0 + (o650737.toInt.toNat + 4) + 0 + 0 + 4 + 16 + 0 ≤ ((256 * (p650171.toInt - p650172.toInt)).toNat) by first | omega | decide) (Nat.le_of_ble_eq_true rfl) (fun r650871 w650872 dc650868 ds650869 hp650870 => ?_) (fun _ _ _ _ _ z => z.elim)
            obtain ⟨F650878, o650873, f650874, rfl, rfl, hfr650880, he650881, he650882, hdc, hds, bo650873, bf650874, x650875, x650876, x650877⟩ := hp650870
            have he650883 : F650878 q650168 = .inr (19, [.ref q650169, .int p650171, .int p650172, .int 6, .int p650174, .int p650175, .int p650176, .ref qo650177, .int p650178, .int p650179, .int p650180, .ref qo650181, .ref qo650182, .int p650183]) := (hfr650880 q650168 hm650854 (nm_c (fun h => hq650837 (h ▸ hmq650168)) (nm_c (fun h => hq650859 (h ▸ hmq650168)) nm_n))).trans he650861
            have he650884 : F650878 q650169 = .inl (I .byte, 8192, .inl f650184) := (hfr650880 q650169 hm650855 (nm_c (fun h => hq650837 (h ▸ hmq650169)) (nm_c (fun h => hq650859 (h ▸ hmq650169)) nm_n))).trans he650862
            have he650885 : F650878 q650606 = .inr (0, [.ref q650607, .int 0, .int 0, .int 0]) := (hfr650880 q650606 hm650856 (nm_c (rn_oo he650863 he650850 (by decide)) (nm_c (rn_oa he650863 he650851) nm_n))).trans he650863
            have he650886 : F650878 q650607 = .inl (I .byte, n650608, .inl f650609) := (hfr650880 q650607 hm650857 (nm_c (rn_ao he650864 he650850) (nm_c hne650866 nm_n))).trans he650864
            have hfr650887 : rFr [q650168] P650166 F650167 F650878 := rFr_call hsb650860 hfr650865 hfr650880 (fun b hb hn => ⟨(nm_c (fun e => hn (e ▸ List.mem_cons_self)) nm_n), (nm_c (fun e => hq650837 (e ▸ hb)) (nm_c (fun e => hq650859 (e ▸ hb)) nm_n))⟩)
            rw [show Int32.toInt 0 = 0 from by decide] at x650875
            have bo650873' : gB o650873 0 0 := ⟨by omega, by omega⟩
            rw [show Int32.toInt 0 = 0 from by decide] at x650876
            rw [show Int32.toInt 0 = 0 from by decide] at x650877
            change G _ _ _ _ _ _ _ (.ref q650820 :: _) _ _ _
            refine G_widen (cs' := 10) (sl' := 20 + (o650590.toInt.toNat + 4) + 0 + 4 + 16 + 0 + 0 + 0 + (o650737.toInt.toNat + 4) + 0 + 0 + 4 + 16 + 0) (Nat.add_le_add_left hdc 10) (by omega) ?_
            refine G_iload_n 3 dr_cX14_symbol_179 rfl ?_
            refine G_i2c dr_cX14_symbol_180 (G_nam fun z650888 hz650888 => ?_)
            have ez650888 : z650888.toInt = p650170.toInt := gI_i2c hz650888 (by omega) (by omega)
            have bz650888 : gB z650888 33 127 := ⟨by omega, by omega⟩
            refine Gw_callV (As := [.int z650888]) (gV_ok D I) (cp_640099_StringBuilder_append l hl0 D I P650846 F650878 q650820 q650845 z650888 0 o650873 f650874 16 hm650858 hm650852 he650881 he650882 (gB_w bz650888 (by decide) (by decide)) (gB_w (gBl (show Int32.toInt 0 = 0 by decide)) (by decide) (by decide)) (gB_w bo650873' (by decide) (by decide)) bf650874 (by have qa0 : Int32.toInt 0 = 0 := (by decide); have qa1 : Int32.toInt 6 = 6 := (by decide); omega) (by have qa0 : Int32.toInt 0 = 0 := (by decide); have qa1 : Int32.toInt 6 = 6 := (by decide); omega)) dr_cX14_symbol_181 ⟨wr_7_237, wr_1_20, wr_8_0, by decide, rfl, (Nat.le_of_ble_eq_true rfl), (Nat.le_of_ble_eq_true rfl)⟩ wr_7_238 wr_7_239 hm650858 he650881 rfl (Nat.le_trans (show 10 + 0 ≤ 16 by decide) hMC) (show 20 + (o650590.toInt.toNat + 4) + 0 + 4 + 16 + 0 + 0 + 0 + (o650737.toInt.toNat + 4) + 0 + 0 + 4 + 16 + 0 + 0 ≤ ((256 * (p650171.toInt - p650172.toInt)).toNat) by first | omega | decide) (Nat.le_of_ble_eq_true rfl) (fun r650892 w650893 dc650889 ds650890 hp650891 => ?_) (fun _ _ _ _ _ z => z.elim)
            obtain ⟨F650897, o650894, f650895, rfl, rfl, hfr650899, he650900, he650901, hdc, hds, bo650894, bf650895, x650896⟩ := hp650891
            have he650902 : F650897 q650168 = .inr (19, [.ref q650169, .int p650171, .int p650172, .int 6, .int p650174, .int p650175, .int p650176, .ref qo650177, .int p650178, .int p650179, .int p650180, .ref qo650181, .ref qo650182, .int p650183]) := (hfr650899 q650168 hm650854 (nm_c (fun h => hq650859 (h ▸ hmq650168)) (nm_c (fun h => hq650837 (h ▸ hmq650168)) nm_n))).trans he650883
            have he650903 : F650897 q650169 = .inl (I .byte, 8192, .inl f650184) := (hfr650899 q650169 hm650855 (nm_c (fun h => hq650859 (h ▸ hmq650169)) (nm_c (fun h => hq650837 (h ▸ hmq650169)) nm_n))).trans he650884
            have he650904 : F650897 q650606 = .inr (0, [.ref q650607, .int 0, .int 0, .int 0]) := (hfr650899 q650606 hm650856 (nm_c (rn_oa he650885 he650882) (nm_c (rn_oo he650885 he650881 (by decide)) nm_n))).trans he650885
            have he650905 : F650897 q650607 = .inl (I .byte, n650608, .inl f650609) := (hfr650899 q650607 hm650857 (nm_c hne650866 (nm_c (rn_ao he650886 he650881) nm_n))).trans he650886
            have hfr650906 : rFr [q650168] P650166 F650167 F650897 := rFr_call hsb650860 hfr650887 hfr650899 (fun b hb hn => ⟨(nm_c (fun e => hn (e ▸ List.mem_cons_self)) nm_n), (nm_c (fun e => hq650859 (e ▸ hb)) (nm_c (fun e => hq650837 (e ▸ hb)) nm_n))⟩)
            have bo650894' : gB o650894 1 1 := ⟨by omega, by omega⟩
            change G _ _ _ _ _ _ _ (.ref q650820 :: _) _ _ _
            refine G_widen (cs' := 10) (sl' := 20 + (o650590.toInt.toNat + 4) + 0 + 4 + 16 + 0 + 0 + 0 + (o650737.toInt.toNat + 4) + 0 + 0 + 4 + 16 + 0 + 0) (Nat.add_le_add_left hdc 10) (by omega) ?_
            refine Gw_callV (As := []) (gV_ok D I) (cp_641280_StringBuilder_toString l hl0 D I P650846 F650897 q650820 q650845 0 o650894 f650895 16 hm650858 hm650852 he650900 he650901 (gB_w (gBl (show Int32.toInt 0 = 0 by decide)) (by decide) (by decide)) (gB_w bo650894' (by decide) (by decide)) bf650895 (by have qa0 : Int32.toInt 0 = 0 := (by decide); have qa1 : Int32.toInt 6 = 6 := (by decide); omega) (by have qa0 : Int32.toInt 0 = 0 := (by decide); have qa1 : Int32.toInt 6 = 6 := (by decide); omega)) dr_cX14_symbol_184 ⟨wr_8_66, wr_1_20, wr_8_69, by decide, rfl, (Nat.le_of_ble_eq_true rfl), (Nat.le_of_ble_eq_true rfl)⟩ wr_8_67 wr_8_68 hm650858 he650900 rfl (Nat.le_trans (show 10 + 2 ≤ 16 by decide) hMC) (show 20 + (o650590.toInt.toNat + 4) + 0 + 4 + 16 + 0 + 0 + 0 + (o650737.toInt.toNat + 4) + 0 + 0 + 4 + 16 + 0 + 0 + (o650894.toInt.toNat + 4) ≤ ((256 * (p650171.toInt - p650172.toInt)).toNat) by first | omega | decide) (Nat.le_of_ble_eq_true rfl) (fun r650910 w650911 dc650907 ds650908 hp650909 => ?_) (fun _ _ _ _ _ z => z.elim)
            obtain ⟨P650918, F650919, q650912, q650913, n650914, f650915, rfl, rfl, hsb650920, hfr650921, he650922, he650923, he650924, he650925, hm650926, hq650927, hm650928, hq650929, hdc, hds, bf650915, x650916, x650917⟩ := hp650909
            have hm650930 : q650168 ∈ P650918 := hsb650920 q650168 hm650854
            have hm650931 : q650169 ∈ P650918 := hsb650920 q650169 hm650855
            have hm650932 : q650606 ∈ P650918 := hsb650920 q650606 hm650856
            have hm650933 : q650607 ∈ P650918 := hsb650920 q650607 hm650857
            have hm650934 : q650820 ∈ P650918 := hsb650920 q650820 hm650858
            have hm650935 : q650845 ∈ P650918 := hsb650920 q650845 hm650852
            have hq650936 : q650912 ∉ P650166 := fun z => hq650927 (hsb650860 q650912 z)
            have hq650937 : q650913 ∉ P650166 := fun z => hq650929 (hsb650860 q650913 z)
            have hsb650938 : rSub P650166 P650918 := rSub_tr hsb650860 hsb650920
            have he650939 : F650919 q650168 = .inr (19, [.ref q650169, .int p650171, .int p650172, .int 6, .int p650174, .int p650175, .int p650176, .ref qo650177, .int p650178, .int p650179, .int p650180, .ref qo650181, .ref qo650182, .int p650183]) := (hfr650921 q650168 hm650854 nm_n).trans he650902
            have he650940 : F650919 q650169 = .inl (I .byte, 8192, .inl f650184) := (hfr650921 q650169 hm650855 nm_n).trans he650903
            have he650941 : F650919 q650606 = .inr (0, [.ref q650607, .int 0, .int 0, .int 0]) := (hfr650921 q650606 hm650856 nm_n).trans he650904
            have he650942 : F650919 q650607 = .inl (I .byte, n650608, .inl f650609) := (hfr650921 q650607 hm650857 nm_n).trans he650905
            have hfr650943 : rFr [q650168] P650166 F650167 F650919 := rFr_call hsb650860 hfr650906 hfr650921 (fun b hb hn => ⟨(nm_c (fun e => hn (e ▸ List.mem_cons_self)) nm_n), nm_n⟩)
            have hne650944 : q650606 ≠ q650912 := fun h => hq650927 (h ▸ hm650856)
            have hne650945 : q650607 ≠ q650913 := fun h => hq650929 (h ▸ hm650857)
            have hne650946 : q650845 ≠ q650913 := fun h => hq650929 (h ▸ hm650852)
            change G _ _ _ _ _ _ _ (.ref q650912 :: _) _ _ _
            refine G_widen (cs' := 12) (sl' := 20 + (o650590.toInt.toNat + 4) + 0 + 4 + 16 + 0 + 0 + 0 + (o650737.toInt.toNat + 4) + 0 + 0 + 4 + 16 + 0 + 0 + (o650894.toInt.toNat + 4)) (Nat.add_le_add_left hdc 10) (by omega) ?_
            refine G_goto 192 dr_cX14_symbol_187 (by decide +kernel) ?_
            refine Gp_put 7 hm650930 he650939 dr_cX14_symbol_192 (gk_X14 D I) (Nat.le_of_ble_eq_true rfl) wr_9_43 rfl rfl rfl (Nat.le_of_ble_eq_true rfl) (fun F650947 e650948 n650949 => ?_)
            have he650950 : F650947 q650169 = .inl (I .byte, 8192, .inl f650184) := (n650949 q650169 (rn_ao he650940 he650939)).trans he650940
            have he650951 : F650947 q650606 = .inr (0, [.ref q650607, .int 0, .int 0, .int 0]) := (n650949 q650606 (fun h => hq650628 (h ▸ hmq650168))).trans he650941
            have he650952 : F650947 q650607 = .inl (I .byte, n650608, .inl f650609) := (n650949 q650607 (fun h => hq650629 (h ▸ hmq650168))).trans he650942
            have he650953 : F650947 q650912 = .inr (0, [.ref q650913, .int 0, .int 0, .int 0]) := (n650949 q650912 (fun h => hq650936 (h ▸ hmq650168))).trans he650922
            have he650954 : F650947 q650820 = .inr (1, [.ref q650845, .int 0, .int 0, .int o650894]) := (n650949 q650820 (fun h => hq650837 (h ▸ hmq650168))).trans he650923
            have he650955 : F650947 q650845 = .inl (I .byte, 16, .inl f650895) := (n650949 q650845 (fun h => hq650859 (h ▸ hmq650168))).trans he650924
            have he650956 : F650947 q650913 = .inl (I .byte, n650914, .inl f650915) := (n650949 q650913 (fun h => hq650937 (h ▸ hmq650168))).trans he650925
            have he650957 : F650947 q650168 = .inr (19, [.ref q650169, .int p650171, .int p650172, .int 6, .int p650174, .int p650175, .int p650176, .ref q650912, .int p650178, .int p650179, .int p650180, .ref qo650181, .ref qo650182, .int p650183]) := e650948
            have hfr650958 : rFr [q650168] P650166 F650167 F650947 := rFr_put' List.mem_cons_self hfr650943 n650949
            clear hm650775 hm650776 hm650777 hm650778 hsb650783 he650815 he650816 he650817 he650818 hfr650819 he650827 he650828 he650829 he650830 he650831 hm650832 hm650833 hm650834 hm650835 hm650836 hq650837 hfr650838 hsb650839 hsb650848 hfr650849 he650850 he650851 hm650852 hq650853 hm650854 hm650855 hm650856 hm650857 hm650858 hq650859 hsb650860 he650861 he650862 he650863 he650864 hfr650865 hne650866 hfr650880 he650881 he650882 bo650873 bf650874 he650883 he650884 he650885 he650886 hfr650887 hz650888 ez650888 bz650888 hfr650899 he650900 he650901 bo650894 bf650895 he650902 he650903 he650904 he650905 hfr650906 hsb650920 hfr650921 he650922 he650923 he650924 he650925 hq650927 hq650929 hm650934 hm650935 he650939 he650940 he650941 he650942 hfr650943 hne650946 he650954 he650955; try clear r650843; try clear w650844; try clear dc650840; try clear ds650841; try clear hp650842; try clear r650871; try clear w650872; try clear dc650868; try clear ds650869; try clear hp650870; try clear x650876; try clear x650877; try clear r650892; try clear w650893; try clear dc650889; try clear ds650890; try clear hp650891; try clear r650910; try clear w650911; try clear dc650907; try clear ds650908; try clear hp650909; try clear x650917
            refine G_aload_n 2 dr_cX14_symbol_195 rfl ?_
            refine G_dup dr_cX14_symbol_196 rfl ?_
            refine Gp_get 2 hm650930 he650957 dr_cX14_symbol_197 (gk_X14 D I) (Nat.le_of_ble_eq_true rfl) wr_9_38 rfl ?_
            refine G_iload_n 0 dr_cX14_symbol_200 rfl ?_
            refine G_if_eq 208 dr_cX14_symbol_201 (by decide +kernel) (fun _ => ?_) (fun hc => absurd hc (by decide))
            refine G_iconst 1 dr_cX14_symbol_208 (by decide +kernel) ?_
            refine G_iadd dr_cX14_symbol_209 (G_eqi (y := z650499) hz650499.symm ?_)
            refine Gp_put 2 hm650930 he650957 dr_cX14_symbol_210 (gk_X14 D I) (Nat.le_of_ble_eq_true rfl) wr_9_38 rfl rfl rfl (Nat.le_of_ble_eq_true rfl) (fun F650959 e650960 n650961 => ?_)
            have he650962 : F650959 q650169 = .inl (I .byte, 8192, .inl f650184) := (n650961 q650169 (rn_ao he650950 he650957)).trans he650950
            have he650963 : F650959 q650606 = .inr (0, [.ref q650607, .int 0, .int 0, .int 0]) := (n650961 q650606 (fun h => hq650628 (h ▸ hmq650168))).trans he650951
            have he650964 : F650959 q650607 = .inl (I .byte, n650608, .inl f650609) := (n650961 q650607 (fun h => hq650629 (h ▸ hmq650168))).trans he650952
            have he650965 : F650959 q650912 = .inr (0, [.ref q650913, .int 0, .int 0, .int 0]) := (n650961 q650912 (fun h => hq650936 (h ▸ hmq650168))).trans he650953
            have he650966 : F650959 q650913 = .inl (I .byte, n650914, .inl f650915) := (n650961 q650913 (fun h => hq650937 (h ▸ hmq650168))).trans he650956
            have he650967 : F650959 q650168 = .inr (19, [.ref q650169, .int p650171, .int z650499, .int 6, .int p650174, .int p650175, .int p650176, .ref q650912, .int p650178, .int p650179, .int p650180, .ref qo650181, .ref qo650182, .int p650183]) := e650960
            have hfr650968 : rFr [q650168] P650166 F650167 F650959 := rFr_put' List.mem_cons_self hfr650958 n650961
            exact G_vretA dr_cX14_symbol_213 rfl (show 12 ≤ ((16 * (p650171.toInt - p650172.toInt)).toNat) by omega) (show 20 + (o650590.toInt.toNat + 4) + 0 + 4 + 16 + 0 + 0 + 0 + (o650737.toInt.toNat + 4) + 0 + 0 + 4 + 16 + 0 + 0 + (o650894.toInt.toNat + 4) ≤ ((256 * (p650171.toInt - p650172.toInt)).toNat) by omega) ⟨P650918, F650959, z650499, 6, q650912, rfl, rfl, hsb650938, hfr650968, he650967, he650962, (by omega), (by omega), (gB_w bz650499' (by decide) (by decide)), (gB_w (gBl (show Int32.toInt 6 = 6 by decide)) (by decide) (by decide)), (by have qa0 : Int32.toInt 0 = 0 := (by decide); have qa1 : Int32.toInt 6 = 6 := (by decide); omega), (by have qa0 : Int32.toInt 0 = 0 := (by decide); have qa1 : Int32.toInt 6 = 6 := (by decide); omega), (tP_no (by decide) (by decide)), (vP_no (by decide) (by decide))⟩
          · have r650969 : 0 ≤ o650809.toInt := gj_nlt hc650810 (show Int32.toInt 0 = 0 by decide)
            have bo650809' : gB o650809 0 65534 := ⟨by omega, by omega⟩
            refine G_iconst 5 dr_cX14_symbol_143 (by decide +kernel) ?_
            refine G_goto 149 dr_cX14_symbol_144 (by decide +kernel) ?_
            refine Gp_put 3 hm650775 he650784 dr_cX14_symbol_149 (gk_X14 D I) (Nat.le_of_ble_eq_true rfl) wr_9_39 rfl rfl rfl (Nat.le_of_ble_eq_true rfl) (fun F650970 e650971 n650972 => ?_)
            have he650973 : F650970 q650169 = .inl (I .byte, 8192, .inl f650184) := (n650972 q650169 (rn_ao he650785 he650784)).trans he650785
            have he650974 : F650970 q650606 = .inr (0, [.ref q650607, .int 0, .int 0, .int 0]) := (n650972 q650606 (fun h => hq650628 (h ▸ hmq650168))).trans he650786
            have he650975 : F650970 q650607 = .inl (I .byte, n650608, .inl f650609) := (n650972 q650607 (fun h => hq650629 (h ▸ hmq650168))).trans he650787
            have he650976 : F650970 q650168 = .inr (19, [.ref q650169, .int p650171, .int p650172, .int 5, .int p650174, .int p650175, .int p650176, .ref qo650177, .int p650178, .int p650179, .int p650180, .ref qo650181, .ref qo650182, .int p650183]) := e650971
            have hfr650977 : rFr [q650168] P650166 F650167 F650970 := rFr_put hfr650788 n650972
            clear he650784 he650785 he650786 he650787 hfr650788 hz650803 ez650803 bz650803 bo650809 bo650809'; try clear r650807; try clear w650808; try clear dc650804; try clear ds650805; try clear hp650806; try clear r650969
            refine G_aload_n 2 dr_cX14_symbol_152 rfl ?_
            refine G_iload_n 0 dr_cX14_symbol_153 rfl ?_
            refine G_if_eq 161 dr_cX14_symbol_154 (by decide +kernel) (fun _ => ?_) (fun hc => absurd hc (by decide))
            refine G_iload_n 3 dr_cX14_symbol_161 rfl ?_
            refine G_bipush 32 dr_cX14_symbol_162 (by decide +kernel) ?_
            refine G_icmp_le 190 dr_cX14_symbol_164 (by decide +kernel) (fun hc => absurd (show False by have := gj_le hc (show Int32.toInt 32 = 32 by decide); omega) not_false) (fun _ => ?_)
            refine G_new [.null, .int 0, .int 0, .int 0] dr_cX14_symbol_167 (gk_J4 D I) wr_7_235 wr_7_44 wr_1_20 (gfs_J4) (Nat.le_trans (show 8 + 1 ≤ 16 by decide) hMC) (show 20 + (o650590.toInt.toNat + 4) + 0 + 4 + 16 + 0 + 0 + 0 + (o650737.toInt.toNat + 4) + 0 + 0 + 4 ≤ ((256 * (p650171.toInt - p650172.toInt)).toNat) by first | omega | decide) (fun q650978 => Gp_in (fun P650979 F650980 hq650981 hP650982 e650983 n650984 => ?_))
            refine G_widen (cs' := 9) (sl' := 20 + (o650590.toInt.toNat + 4) + 0 + 4 + 16 + 0 + 0 + 0 + (o650737.toInt.toNat + 4) + 0 + 0 + 4) (by omega) (by omega) ?_
            have he650985 : F650980 q650168 = .inr (19, [.ref q650169, .int p650171, .int p650172, .int 5, .int p650174, .int p650175, .int p650176, .ref qo650177, .int p650178, .int p650179, .int p650180, .ref qo650181, .ref qo650182, .int p650183]) := (n650984 q650168 (fun h => hq650981 (h ▸ hm650775))).trans he650976
            have he650986 : F650980 q650169 = .inl (I .byte, 8192, .inl f650184) := (n650984 q650169 (fun h => hq650981 (h ▸ hm650776))).trans he650973
            have he650987 : F650980 q650606 = .inr (0, [.ref q650607, .int 0, .int 0, .int 0]) := (n650984 q650606 (fun h => hq650981 (h ▸ hm650777))).trans he650974
            have he650988 : F650980 q650607 = .inl (I .byte, n650608, .inl f650609) := (n650984 q650607 (fun h => hq650981 (h ▸ hm650778))).trans he650975
            have he650989 : F650980 q650978 = .inr (1, [.null, .int 0, .int 0, .int 0]) := e650983
            have hm650990 : q650168 ∈ P650979 := (hP650982 q650168).mpr (Or.inl hm650775)
            have hm650991 : q650169 ∈ P650979 := (hP650982 q650169).mpr (Or.inl hm650776)
            have hm650992 : q650606 ∈ P650979 := (hP650982 q650606).mpr (Or.inl hm650777)
            have hm650993 : q650607 ∈ P650979 := (hP650982 q650607).mpr (Or.inl hm650778)
            have hm650994 : q650978 ∈ P650979 := (hP650982 q650978).mpr (Or.inr rfl)
            have hq650995 : q650978 ∉ P650166 := fun z => hq650981 (hsb650783 q650978 z)
            have hfr650996 : rFr [q650168] P650166 F650167 F650980 := rFr_new hsb650783 hq650981 hfr650977 n650984
            have hsb650997 : rSub P650166 P650979 := rSub_new hsb650783 hP650982
            refine G_dup dr_cX14_symbol_170 rfl ?_
            refine Gw_callI (As := []) (gV_ok D I) (cp_640525_StringBuilder_init l hl0 D I P650979 F650980 q650978 0 0 hm650994 he650989 (gB_w (gBl (show Int32.toInt 0 = 0 by decide)) (by decide) (by decide)) (gB_w (gBl (show Int32.toInt 0 = 0 by decide)) (by decide) (by decide))) dr_cX14_symbol_171 ⟨wr_7_236, wr_1_20, wr_7_47, by decide, rfl, (Nat.le_of_ble_eq_true rfl), (Nat.le_of_ble_eq_true rfl)⟩ wr_7_46 rfl (Nat.le_trans (show 9 + 1 ≤ 16 by decide) hMC) (show 20 + (o650590.toInt.toNat + 4) + 0 + 4 + 16 + 0 + 0 + 0 + (o650737.toInt.toNat + 4) + 0 + 0 + 4 + 16 ≤ ((256 * (p650171.toInt - p650172.toInt)).toNat) by first | omega | decide) (Nat.le_of_ble_eq_true rfl) (fun r651001 w651002 dc650998 ds650999 hp651000 => ?_)
            obtain ⟨P651004, F651005, q651003, rfl, rfl, hsb651006, hfr651007, he651008, he651009, hm651010, hq651011, hdc, hds⟩ := hp651000
            have hm651012 : q650168 ∈ P651004 := hsb651006 q650168 hm650990
            have hm651013 : q650169 ∈ P651004 := hsb651006 q650169 hm650991
            have hm651014 : q650606 ∈ P651004 := hsb651006 q650606 hm650992
            have hm651015 : q650607 ∈ P651004 := hsb651006 q650607 hm650993
            have hm651016 : q650978 ∈ P651004 := hsb651006 q650978 hm650994
            have hq651017 : q651003 ∉ P650166 := fun z => hq651011 (hsb650997 q651003 z)
            have hsb651018 : rSub P650166 P651004 := rSub_tr hsb650997 hsb651006
            have he651019 : F651005 q650168 = .inr (19, [.ref q650169, .int p650171, .int p650172, .int 5, .int p650174, .int p650175, .int p650176, .ref qo650177, .int p650178, .int p650179, .int p650180, .ref qo650181, .ref qo650182, .int p650183]) := (hfr651007 q650168 hm650990 (nm_c (fun h => hq650995 (h ▸ hmq650168)) nm_n)).trans he650985
            have he651020 : F651005 q650169 = .inl (I .byte, 8192, .inl f650184) := (hfr651007 q650169 hm650991 (nm_c (fun h => hq650995 (h ▸ hmq650169)) nm_n)).trans he650986
            have he651021 : F651005 q650606 = .inr (0, [.ref q650607, .int 0, .int 0, .int 0]) := (hfr651007 q650606 hm650992 (nm_c (rn_oo he650987 he650989 (by decide)) nm_n)).trans he650987
            have he651022 : F651005 q650607 = .inl (I .byte, n650608, .inl f650609) := (hfr651007 q650607 hm650993 (nm_c (rn_ao he650988 he650989) nm_n)).trans he650988
            have hfr651023 : rFr [q650168] P650166 F650167 F651005 := rFr_call hsb650997 hfr650996 hfr651007 (fun b hb hn => ⟨(nm_c (fun e => hn (e ▸ List.mem_cons_self)) nm_n), (nm_c (fun e => hq650995 (e ▸ hb)) nm_n)⟩)
            have hne651024 : q650607 ≠ q651003 := fun h => hq651011 (h ▸ hm650993)
            change G _ _ _ _ _ _ _ _ _ _ _
            refine G_widen (cs' := 10) (sl' := 20 + (o650590.toInt.toNat + 4) + 0 + 4 + 16 + 0 + 0 + 0 + (o650737.toInt.toNat + 4) + 0 + 0 + 4 + 16) (Nat.add_le_add_left hdc 9) (by omega) ?_
            refine G_ldcK (a := D.2 1000 32) dr_cX14_symbol_174 (fun _ _ _ h => gx_vk 32 rfl rfl h) ?_
            have hl32_651024 : (sb_32.length : Int) = 0 := rfl
            refine Gw_callV (As := [.ref (D.2 1000 32)]) (gV_ok D I) (cp_640822_StringBuilder_append l hl0 D I P651004 F651005 q650978 q651003 (D.2 1000 32) (D.2 1001 32) sb_32 0 0 (fun _ => 0) 16 hm651016 hm651010 he651008 he651009 (gx_sc 32 rfl rfl) (by omega) (by decide +kernel) (gB_w (gBl (show Int32.toInt 0 = 0 by decide)) (by decide) (by decide)) (gB_w (gBl (show Int32.toInt 0 = 0 by decide)) (by decide) (by decide)) (gF_w gF_0 (by decide) (by decide)) (by have qa0 : Int32.toInt 0 = 0 := (by decide); have qa1 : Int32.toInt 5 = 5 := (by decide); omega) (by have qa0 : Int32.toInt 0 = 0 := (by decide); have qa1 : Int32.toInt 5 = 5 := (by decide); omega)) dr_cX14_symbol_176 ⟨wr_8_195, wr_1_20, wr_8_143, by decide, rfl, (Nat.le_of_ble_eq_true rfl), (Nat.le_of_ble_eq_true rfl)⟩ wr_8_141 wr_8_142 hm651016 he651008 rfl (Nat.le_trans (show 10 + 0 ≤ 16 by decide) hMC) (show 20 + (o650590.toInt.toNat + 4) + 0 + 4 + 16 + 0 + 0 + 0 + (o650737.toInt.toNat + 4) + 0 + 0 + 4 + 16 + 0 ≤ ((256 * (p650171.toInt - p650172.toInt)).toNat) by first | omega | decide) (Nat.le_of_ble_eq_true rfl) (fun r651029 w651030 dc651026 ds651027 hp651028 => ?_) (fun _ _ _ _ _ z => z.elim)
            obtain ⟨F651036, o651031, f651032, rfl, rfl, hfr651038, he651039, he651040, hdc, hds, bo651031, bf651032, x651033, x651034, x651035⟩ := hp651028
            have he651041 : F651036 q650168 = .inr (19, [.ref q650169, .int p650171, .int p650172, .int 5, .int p650174, .int p650175, .int p650176, .ref qo650177, .int p650178, .int p650179, .int p650180, .ref qo650181, .ref qo650182, .int p650183]) := (hfr651038 q650168 hm651012 (nm_c (fun h => hq650995 (h ▸ hmq650168)) (nm_c (fun h => hq651017 (h ▸ hmq650168)) nm_n))).trans he651019
            have he651042 : F651036 q650169 = .inl (I .byte, 8192, .inl f650184) := (hfr651038 q650169 hm651013 (nm_c (fun h => hq650995 (h ▸ hmq650169)) (nm_c (fun h => hq651017 (h ▸ hmq650169)) nm_n))).trans he651020
            have he651043 : F651036 q650606 = .inr (0, [.ref q650607, .int 0, .int 0, .int 0]) := (hfr651038 q650606 hm651014 (nm_c (rn_oo he651021 he651008 (by decide)) (nm_c (rn_oa he651021 he651009) nm_n))).trans he651021
            have he651044 : F651036 q650607 = .inl (I .byte, n650608, .inl f650609) := (hfr651038 q650607 hm651015 (nm_c (rn_ao he651022 he651008) (nm_c hne651024 nm_n))).trans he651022
            have hfr651045 : rFr [q650168] P650166 F650167 F651036 := rFr_call hsb651018 hfr651023 hfr651038 (fun b hb hn => ⟨(nm_c (fun e => hn (e ▸ List.mem_cons_self)) nm_n), (nm_c (fun e => hq650995 (e ▸ hb)) (nm_c (fun e => hq651017 (e ▸ hb)) nm_n))⟩)
            rw [show Int32.toInt 0 = 0 from by decide] at x651033
            have bo651031' : gB o651031 0 0 := ⟨by omega, by omega⟩
            rw [show Int32.toInt 0 = 0 from by decide] at x651034
            rw [show Int32.toInt 0 = 0 from by decide] at x651035
            change G _ _ _ _ _ _ _ (.ref q650978 :: _) _ _ _
            refine G_widen (cs' := 10) (sl' := 20 + (o650590.toInt.toNat + 4) + 0 + 4 + 16 + 0 + 0 + 0 + (o650737.toInt.toNat + 4) + 0 + 0 + 4 + 16 + 0) (Nat.add_le_add_left hdc 10) (by omega) ?_
            refine G_iload_n 3 dr_cX14_symbol_179 rfl ?_
            refine G_i2c dr_cX14_symbol_180 (G_nam fun z651046 hz651046 => ?_)
            have ez651046 : z651046.toInt = p650170.toInt := gI_i2c hz651046 (by omega) (by omega)
            have bz651046 : gB z651046 33 127 := ⟨by omega, by omega⟩
            refine Gw_callV (As := [.int z651046]) (gV_ok D I) (cp_640099_StringBuilder_append l hl0 D I P651004 F651036 q650978 q651003 z651046 0 o651031 f651032 16 hm651016 hm651010 he651039 he651040 (gB_w bz651046 (by decide) (by decide)) (gB_w (gBl (show Int32.toInt 0 = 0 by decide)) (by decide) (by decide)) (gB_w bo651031' (by decide) (by decide)) bf651032 (by have qa0 : Int32.toInt 0 = 0 := (by decide); have qa1 : Int32.toInt 5 = 5 := (by decide); omega) (by have qa0 : Int32.toInt 0 = 0 := (by decide); have qa1 : Int32.toInt 5 = 5 := (by decide); omega)) dr_cX14_symbol_181 ⟨wr_7_237, wr_1_20, wr_8_0, by decide, rfl, (Nat.le_of_ble_eq_true rfl), (Nat.le_of_ble_eq_true rfl)⟩ wr_7_238 wr_7_239 hm651016 he651039 rfl (Nat.le_trans (show 10 + 0 ≤ 16 by decide) hMC) (show 20 + (o650590.toInt.toNat + 4) + 0 + 4 + 16 + 0 + 0 + 0 + (o650737.toInt.toNat + 4) + 0 + 0 + 4 + 16 + 0 + 0 ≤ ((256 * (p650171.toInt - p650172.toInt)).toNat) by first | omega | decide) (Nat.le_of_ble_eq_true rfl) (fun r651050 w651051 dc651047 ds651048 hp651049 => ?_) (fun _ _ _ _ _ z => z.elim)
            obtain ⟨F651055, o651052, f651053, rfl, rfl, hfr651057, he651058, he651059, hdc, hds, bo651052, bf651053, x651054⟩ := hp651049
            have he651060 : F651055 q650168 = .inr (19, [.ref q650169, .int p650171, .int p650172, .int 5, .int p650174, .int p650175, .int p650176, .ref qo650177, .int p650178, .int p650179, .int p650180, .ref qo650181, .ref qo650182, .int p650183]) := (hfr651057 q650168 hm651012 (nm_c (fun h => hq651017 (h ▸ hmq650168)) (nm_c (fun h => hq650995 (h ▸ hmq650168)) nm_n))).trans he651041
            have he651061 : F651055 q650169 = .inl (I .byte, 8192, .inl f650184) := (hfr651057 q650169 hm651013 (nm_c (fun h => hq651017 (h ▸ hmq650169)) (nm_c (fun h => hq650995 (h ▸ hmq650169)) nm_n))).trans he651042
            have he651062 : F651055 q650606 = .inr (0, [.ref q650607, .int 0, .int 0, .int 0]) := (hfr651057 q650606 hm651014 (nm_c (rn_oa he651043 he651040) (nm_c (rn_oo he651043 he651039 (by decide)) nm_n))).trans he651043
            have he651063 : F651055 q650607 = .inl (I .byte, n650608, .inl f650609) := (hfr651057 q650607 hm651015 (nm_c hne651024 (nm_c (rn_ao he651044 he651039) nm_n))).trans he651044
            have hfr651064 : rFr [q650168] P650166 F650167 F651055 := rFr_call hsb651018 hfr651045 hfr651057 (fun b hb hn => ⟨(nm_c (fun e => hn (e ▸ List.mem_cons_self)) nm_n), (nm_c (fun e => hq651017 (e ▸ hb)) (nm_c (fun e => hq650995 (e ▸ hb)) nm_n))⟩)
            have bo651052' : gB o651052 1 1 := ⟨by omega, by omega⟩
            change G _ _ _ _ _ _ _ (.ref q650978 :: _) _ _ _
            refine G_widen (cs' := 10) (sl' := 20 + (o650590.toInt.toNat + 4) + 0 + 4 + 16 + 0 + 0 + 0 + (o650737.toInt.toNat + 4) + 0 + 0 + 4 + 16 + 0 + 0) (Nat.add_le_add_left hdc 10) (by omega) ?_
            refine Gw_callV (As := []) (gV_ok D I) (cp_641280_StringBuilder_toString l hl0 D I P651004 F651055 q650978 q651003 0 o651052 f651053 16 hm651016 hm651010 he651058 he651059 (gB_w (gBl (show Int32.toInt 0 = 0 by decide)) (by decide) (by decide)) (gB_w bo651052' (by decide) (by decide)) bf651053 (by have qa0 : Int32.toInt 0 = 0 := (by decide); have qa1 : Int32.toInt 5 = 5 := (by decide); omega) (by have qa0 : Int32.toInt 0 = 0 := (by decide); have qa1 : Int32.toInt 5 = 5 := (by decide); omega)) dr_cX14_symbol_184 ⟨wr_8_66, wr_1_20, wr_8_69, by decide, rfl, (Nat.le_of_ble_eq_true rfl), (Nat.le_of_ble_eq_true rfl)⟩ wr_8_67 wr_8_68 hm651016 he651058 rfl (Nat.le_trans (show 10 + 2 ≤ 16 by decide) hMC) (show 20 + (o650590.toInt.toNat + 4) + 0 + 4 + 16 + 0 + 0 + 0 + (o650737.toInt.toNat + 4) + 0 + 0 + 4 + 16 + 0 + 0 + (o651052.toInt.toNat + 4) ≤ ((256 * (p650171.toInt - p650172.toInt)).toNat) by first | omega | decide) (Nat.le_of_ble_eq_true rfl) (fun r651068 w651069 dc651065 ds651066 hp651067 => ?_) (fun _ _ _ _ _ z => z.elim)
            obtain ⟨P651076, F651077, q651070, q651071, n651072, f651073, rfl, rfl, hsb651078, hfr651079, he651080, he651081, he651082, he651083, hm651084, hq651085, hm651086, hq651087, hdc, hds, bf651073, x651074, x651075⟩ := hp651067
            have hm651088 : q650168 ∈ P651076 := hsb651078 q650168 hm651012
            have hm651089 : q650169 ∈ P651076 := hsb651078 q650169 hm651013
            have hm651090 : q650606 ∈ P651076 := hsb651078 q650606 hm651014
            have hm651091 : q650607 ∈ P651076 := hsb651078 q650607 hm651015
            have hm651092 : q650978 ∈ P651076 := hsb651078 q650978 hm651016
            have hm651093 : q651003 ∈ P651076 := hsb651078 q651003 hm651010
            have hq651094 : q651070 ∉ P650166 := fun z => hq651085 (hsb651018 q651070 z)
            have hq651095 : q651071 ∉ P650166 := fun z => hq651087 (hsb651018 q651071 z)
            have hsb651096 : rSub P650166 P651076 := rSub_tr hsb651018 hsb651078
            have he651097 : F651077 q650168 = .inr (19, [.ref q650169, .int p650171, .int p650172, .int 5, .int p650174, .int p650175, .int p650176, .ref qo650177, .int p650178, .int p650179, .int p650180, .ref qo650181, .ref qo650182, .int p650183]) := (hfr651079 q650168 hm651012 nm_n).trans he651060
            have he651098 : F651077 q650169 = .inl (I .byte, 8192, .inl f650184) := (hfr651079 q650169 hm651013 nm_n).trans he651061
            have he651099 : F651077 q650606 = .inr (0, [.ref q650607, .int 0, .int 0, .int 0]) := (hfr651079 q650606 hm651014 nm_n).trans he651062
            have he651100 : F651077 q650607 = .inl (I .byte, n650608, .inl f650609) := (hfr651079 q650607 hm651015 nm_n).trans he651063
            have hfr651101 : rFr [q650168] P650166 F650167 F651077 := rFr_call hsb651018 hfr651064 hfr651079 (fun b hb hn => ⟨(nm_c (fun e => hn (e ▸ List.mem_cons_self)) nm_n), nm_n⟩)
            have hne651102 : q650606 ≠ q651070 := fun h => hq651085 (h ▸ hm651014)
            have hne651103 : q650607 ≠ q651071 := fun h => hq651087 (h ▸ hm651015)
            have hne651104 : q651003 ≠ q651071 := fun h => hq651087 (h ▸ hm651010)
            change G _ _ _ _ _ _ _ (.ref q651070 :: _) _ _ _
            refine G_widen (cs' := 12) (sl' := 20 + (o650590.toInt.toNat + 4) + 0 + 4 + 16 + 0 + 0 + 0 + (o650737.toInt.toNat + 4) + 0 + 0 + 4 + 16 + 0 + 0 + (o651052.toInt.toNat + 4)) (Nat.add_le_add_left hdc 10) (by omega) ?_
            refine G_goto 192 dr_cX14_symbol_187 (by decide +kernel) ?_
            refine Gp_put 7 hm651088 he651097 dr_cX14_symbol_192 (gk_X14 D I) (Nat.le_of_ble_eq_true rfl) wr_9_43 rfl rfl rfl (Nat.le_of_ble_eq_true rfl) (fun F651105 e651106 n651107 => ?_)
            have he651108 : F651105 q650169 = .inl (I .byte, 8192, .inl f650184) := (n651107 q650169 (rn_ao he651098 he651097)).trans he651098
            have he651109 : F651105 q650606 = .inr (0, [.ref q650607, .int 0, .int 0, .int 0]) := (n651107 q650606 (fun h => hq650628 (h ▸ hmq650168))).trans he651099
            have he651110 : F651105 q650607 = .inl (I .byte, n650608, .inl f650609) := (n651107 q650607 (fun h => hq650629 (h ▸ hmq650168))).trans he651100
            have he651111 : F651105 q651070 = .inr (0, [.ref q651071, .int 0, .int 0, .int 0]) := (n651107 q651070 (fun h => hq651094 (h ▸ hmq650168))).trans he651080
            have he651112 : F651105 q650978 = .inr (1, [.ref q651003, .int 0, .int 0, .int o651052]) := (n651107 q650978 (fun h => hq650995 (h ▸ hmq650168))).trans he651081
            have he651113 : F651105 q651003 = .inl (I .byte, 16, .inl f651053) := (n651107 q651003 (fun h => hq651017 (h ▸ hmq650168))).trans he651082
            have he651114 : F651105 q651071 = .inl (I .byte, n651072, .inl f651073) := (n651107 q651071 (fun h => hq651095 (h ▸ hmq650168))).trans he651083
            have he651115 : F651105 q650168 = .inr (19, [.ref q650169, .int p650171, .int p650172, .int 5, .int p650174, .int p650175, .int p650176, .ref q651070, .int p650178, .int p650179, .int p650180, .ref qo650181, .ref qo650182, .int p650183]) := e651106
            have hfr651116 : rFr [q650168] P650166 F650167 F651105 := rFr_put' List.mem_cons_self hfr651101 n651107
            clear hm650775 hm650776 hm650777 hm650778 hsb650783 he650973 he650974 he650975 he650976 hfr650977 he650985 he650986 he650987 he650988 he650989 hm650990 hm650991 hm650992 hm650993 hm650994 hq650995 hfr650996 hsb650997 hsb651006 hfr651007 he651008 he651009 hm651010 hq651011 hm651012 hm651013 hm651014 hm651015 hm651016 hq651017 hsb651018 he651019 he651020 he651021 he651022 hfr651023 hne651024 hfr651038 he651039 he651040 bo651031 bf651032 he651041 he651042 he651043 he651044 hfr651045 hz651046 ez651046 bz651046 hfr651057 he651058 he651059 bo651052 bf651053 he651060 he651061 he651062 he651063 hfr651064 hsb651078 hfr651079 he651080 he651081 he651082 he651083 hq651085 hq651087 hm651092 hm651093 he651097 he651098 he651099 he651100 hfr651101 hne651104 he651112 he651113; try clear r651001; try clear w651002; try clear dc650998; try clear ds650999; try clear hp651000; try clear r651029; try clear w651030; try clear dc651026; try clear ds651027; try clear hp651028; try clear x651034; try clear x651035; try clear r651050; try clear w651051; try clear dc651047; try clear ds651048; try clear hp651049; try clear r651068; try clear w651069; try clear dc651065; try clear ds651066; try clear hp651067; try clear x651075
            refine G_aload_n 2 dr_cX14_symbol_195 rfl ?_
            refine G_dup dr_cX14_symbol_196 rfl ?_
            refine Gp_get 2 hm651088 he651115 dr_cX14_symbol_197 (gk_X14 D I) (Nat.le_of_ble_eq_true rfl) wr_9_38 rfl ?_
            refine G_iload_n 0 dr_cX14_symbol_200 rfl ?_
            refine G_if_eq 208 dr_cX14_symbol_201 (by decide +kernel) (fun _ => ?_) (fun hc => absurd hc (by decide))
            refine G_iconst 1 dr_cX14_symbol_208 (by decide +kernel) ?_
            refine G_iadd dr_cX14_symbol_209 (G_eqi (y := z650499) hz650499.symm ?_)
            refine Gp_put 2 hm651088 he651115 dr_cX14_symbol_210 (gk_X14 D I) (Nat.le_of_ble_eq_true rfl) wr_9_38 rfl rfl rfl (Nat.le_of_ble_eq_true rfl) (fun F651117 e651118 n651119 => ?_)
            have he651120 : F651117 q650169 = .inl (I .byte, 8192, .inl f650184) := (n651119 q650169 (rn_ao he651108 he651115)).trans he651108
            have he651121 : F651117 q650606 = .inr (0, [.ref q650607, .int 0, .int 0, .int 0]) := (n651119 q650606 (fun h => hq650628 (h ▸ hmq650168))).trans he651109
            have he651122 : F651117 q650607 = .inl (I .byte, n650608, .inl f650609) := (n651119 q650607 (fun h => hq650629 (h ▸ hmq650168))).trans he651110
            have he651123 : F651117 q651070 = .inr (0, [.ref q651071, .int 0, .int 0, .int 0]) := (n651119 q651070 (fun h => hq651094 (h ▸ hmq650168))).trans he651111
            have he651124 : F651117 q651071 = .inl (I .byte, n651072, .inl f651073) := (n651119 q651071 (fun h => hq651095 (h ▸ hmq650168))).trans he651114
            have he651125 : F651117 q650168 = .inr (19, [.ref q650169, .int p650171, .int z650499, .int 5, .int p650174, .int p650175, .int p650176, .ref q651070, .int p650178, .int p650179, .int p650180, .ref qo650181, .ref qo650182, .int p650183]) := e651118
            have hfr651126 : rFr [q650168] P650166 F650167 F651117 := rFr_put' List.mem_cons_self hfr651116 n651119
            exact G_vretA dr_cX14_symbol_213 rfl (show 12 ≤ ((16 * (p650171.toInt - p650172.toInt)).toNat) by omega) (show 20 + (o650590.toInt.toNat + 4) + 0 + 4 + 16 + 0 + 0 + 0 + (o650737.toInt.toNat + 4) + 0 + 0 + 4 + 16 + 0 + 0 + (o651052.toInt.toNat + 4) ≤ ((256 * (p650171.toInt - p650172.toInt)).toNat) by omega) ⟨P651076, F651117, z650499, 5, q651070, rfl, rfl, hsb651096, hfr651126, he651125, he651120, (by omega), (by omega), (gB_w bz650499' (by decide) (by decide)), (gB_w (gBl (show Int32.toInt 5 = 5 by decide)) (by decide) (by decide)), (by have qa0 : Int32.toInt 0 = 0 := (by decide); have qa1 : Int32.toInt 5 = 5 := (by decide); omega), (by have qa0 : Int32.toInt 0 = 0 := (by decide); have qa1 : Int32.toInt 5 = 5 := (by decide); omega), (tP_5 hm651084 he651123 hm651086 he651124 bf651073 (by omega) (gB_w (gBl (show Int32.toInt 0 = 0 by decide)) (by decide) (by decide)) (fun e => hq651095 (e ▸ x650187)) (fun e => hq651095 (e ▸ x650188))), (vP_no (by decide) (by decide))⟩
        · have r651127 : 0 ≤ o650797.toInt := gj_nlt hc650800 (show Int32.toInt 0 = 0 by decide)
          have bo650797' : gB o650797 0 16777215 := ⟨by omega, by omega⟩
          refine G_iconst 1 dr_cX14_symbol_116 (by decide +kernel) ?_
          refine G_goto 121 dr_cX14_symbol_117 (by decide +kernel) ?_
          refine G_istore_n (L' := [(3, .int 1), (2, .ref q650606), (0, .ref q650168), (1, .int p650170)]) dr_cX14_symbol_121 (Nat.le_of_ble_eq_true rfl) rfl ?_
          clear he650616 he650619 hm650620 hm650622 hm650624 hm650625 hsb650630 he650631 he650632 hfr650633 he650650 he650651 he650652 he650653 he650654 hm650655 hm650656 hm650657 hm650658 hm650659 hq650660 hfr650661 hsb650662 hsb650671 hfr650672 he650673 he650674 hm650675 hq650676 hm650677 hm650678 hm650679 hm650680 hm650681 hq650682 hsb650683 he650684 he650685 he650686 he650687 hfr650688 hne650689 hfr650703 he650704 he650705 bo650696 bf650697 he650706 he650707 he650708 he650709 hfr650710 hfr650723 he650724 he650725 he650726 he650727 bo650716 bf650717 he650728 he650729 hfr650730 hfr650744 he650745 he650746 bo650737 bf650738 he650747 he650748 he650749 he650750 hfr650751 hsb650765 hfr650766 he650767 he650768 he650769 he650770 hm650771 hq650772 hm650773 hq650774 bf650760 hm650779 hm650780 hq650781 hq650782 hne650789 hne650790 hne650791 bo650797; try clear r650666; try clear w650667; try clear dc650663; try clear ds650664; try clear hp650665; try clear r650694; try clear w650695; try clear dc650691; try clear ds650692; try clear hp650693; try clear x650699; try clear x650700; try clear r650714; try clear w650715; try clear dc650711; try clear ds650712; try clear hp650713; try clear x650719; try clear x650720; try clear r650735; try clear w650736; try clear dc650732; try clear ds650733; try clear hp650734; try clear x650740; try clear x650741; try clear r650755; try clear w650756; try clear dc650752; try clear ds650753; try clear hp650754; try clear x650762; try clear r650795; try clear w650796; try clear dc650792; try clear ds650793; try clear hp650794; try clear x650799
          refine G_aload_n 2 dr_cX14_symbol_122 rfl ?_
          refine G_iload_n 0 dr_cX14_symbol_123 rfl ?_
          refine G_if_ne 143 dr_cX14_symbol_124 (by decide +kernel) (fun _ => ?_) (fun hc => absurd hc (by decide))
          refine G_iconst 5 dr_cX14_symbol_143 (by decide +kernel) ?_
          refine G_goto 149 dr_cX14_symbol_144 (by decide +kernel) ?_
          refine Gp_put 3 hm650775 he650784 dr_cX14_symbol_149 (gk_X14 D I) (Nat.le_of_ble_eq_true rfl) wr_9_39 rfl rfl rfl (Nat.le_of_ble_eq_true rfl) (fun F651128 e651129 n651130 => ?_)
          have he651131 : F651128 q650169 = .inl (I .byte, 8192, .inl f650184) := (n651130 q650169 (rn_ao he650785 he650784)).trans he650785
          have he651132 : F651128 q650606 = .inr (0, [.ref q650607, .int 0, .int 0, .int 0]) := (n651130 q650606 (fun h => hq650628 (h ▸ hmq650168))).trans he650786
          have he651133 : F651128 q650607 = .inl (I .byte, n650608, .inl f650609) := (n651130 q650607 (fun h => hq650629 (h ▸ hmq650168))).trans he650787
          have he651134 : F651128 q650168 = .inr (19, [.ref q650169, .int p650171, .int p650172, .int 5, .int p650174, .int p650175, .int p650176, .ref qo650177, .int p650178, .int p650179, .int p650180, .ref qo650181, .ref qo650182, .int p650183]) := e651129
          have hfr651135 : rFr [q650168] P650166 F650167 F651128 := rFr_put hfr650788 n651130
          clear he650784 he650785 he650786 he650787 hfr650788
          refine G_aload_n 2 dr_cX14_symbol_152 rfl ?_
          refine G_iload_n 0 dr_cX14_symbol_153 rfl ?_
          refine G_if_eq 161 dr_cX14_symbol_154 (by decide +kernel) (fun hc => absurd hc (by decide)) (fun _ => ?_)
          refine G_aload_n 1 dr_cX14_symbol_157 rfl ?_
          refine G_goto 192 dr_cX14_symbol_158 (by decide +kernel) ?_
          refine Gp_put 7 hm650775 he651134 dr_cX14_symbol_192 (gk_X14 D I) (Nat.le_of_ble_eq_true rfl) wr_9_43 rfl rfl rfl (Nat.le_of_ble_eq_true rfl) (fun F651136 e651137 n651138 => ?_)
          have he651139 : F651136 q650169 = .inl (I .byte, 8192, .inl f650184) := (n651138 q650169 (rn_ao he651131 he651134)).trans he651131
          have he651140 : F651136 q650606 = .inr (0, [.ref q650607, .int 0, .int 0, .int 0]) := (n651138 q650606 (fun h => hq650628 (h ▸ hmq650168))).trans he651132
          have he651141 : F651136 q650607 = .inl (I .byte, n650608, .inl f650609) := (n651138 q650607 (fun h => hq650629 (h ▸ hmq650168))).trans he651133
          have he651142 : F651136 q650168 = .inr (19, [.ref q650169, .int p650171, .int p650172, .int 5, .int p650174, .int p650175, .int p650176, .ref q650606, .int p650178, .int p650179, .int p650180, .ref qo650181, .ref qo650182, .int p650183]) := e651137
          have hfr651143 : rFr [q650168] P650166 F650167 F651136 := rFr_put' List.mem_cons_self hfr651135 n651138
          clear he651131 he651132 he651133 he651134 hfr651135
          refine G_aload_n 2 dr_cX14_symbol_195 rfl ?_
          refine G_dup dr_cX14_symbol_196 rfl ?_
          refine Gp_get 2 hm650775 he651142 dr_cX14_symbol_197 (gk_X14 D I) (Nat.le_of_ble_eq_true rfl) wr_9_38 rfl ?_
          refine G_iload_n 0 dr_cX14_symbol_200 rfl ?_
          refine G_if_eq 208 dr_cX14_symbol_201 (by decide +kernel) (fun hc => absurd hc (by decide)) (fun _ => ?_)
          refine G_iconst 2 dr_cX14_symbol_204 (by decide +kernel) ?_
          refine G_goto 209 dr_cX14_symbol_205 (by decide +kernel) ?_
          refine G_iadd dr_cX14_symbol_209 (G_nam fun z651144 hz651144 => ?_)
          have ez651144 : z651144.toInt = p650172.toInt + 2 := by rw [gI_add hz651144 bp650172 (gBl (show Int32.toInt 2 = 2 by decide)) (by decide) (by decide), show Int32.toInt 2 = 2 from by decide]
          have bz651144 : gB z651144 2 8194 := gB_add (gI_add hz651144 bp650172 (gBl (show Int32.toInt 2 = 2 by decide)) (by decide) (by decide)) bp650172 (gBl (show Int32.toInt 2 = 2 by decide)) (by decide) (by decide)
          refine Gp_put 2 hm650775 he651142 dr_cX14_symbol_210 (gk_X14 D I) (Nat.le_of_ble_eq_true rfl) wr_9_38 rfl rfl rfl (Nat.le_of_ble_eq_true rfl) (fun F651145 e651146 n651147 => ?_)
          have he651148 : F651145 q650169 = .inl (I .byte, 8192, .inl f650184) := (n651147 q650169 (rn_ao he651139 he651142)).trans he651139
          have he651149 : F651145 q650606 = .inr (0, [.ref q650607, .int 0, .int 0, .int 0]) := (n651147 q650606 (fun h => hq650628 (h ▸ hmq650168))).trans he651140
          have he651150 : F651145 q650607 = .inl (I .byte, n650608, .inl f650609) := (n651147 q650607 (fun h => hq650629 (h ▸ hmq650168))).trans he651141
          have he651151 : F651145 q650168 = .inr (19, [.ref q650169, .int p650171, .int z651144, .int 5, .int p650174, .int p650175, .int p650176, .ref q650606, .int p650178, .int p650179, .int p650180, .ref qo650181, .ref qo650182, .int p650183]) := e651146
          have hfr651152 : rFr [q650168] P650166 F650167 F651145 := rFr_put' List.mem_cons_self hfr651143 n651147
          exact G_vretA dr_cX14_symbol_213 rfl (show 8 ≤ ((16 * (p650171.toInt - p650172.toInt)).toNat) by omega) (show 20 + (o650590.toInt.toNat + 4) + 0 + 4 + 16 + 0 + 0 + 0 + (o650737.toInt.toNat + 4) + 0 ≤ ((256 * (p650171.toInt - p650172.toInt)).toNat) by omega) ⟨P650763, F651145, z651144, 5, q650606, rfl, rfl, hsb650783, hfr651152, he651151, he651148, (by omega), (by omega), ⟨by omega, by omega⟩, (gB_w (gBl (show Int32.toInt 5 = 5 by decide)) (by decide) (by decide)), (by have qa0 : Int32.toInt 0 = 0 := (by decide); have qa1 : Int32.toInt 1 = 1 := (by decide); have qa2 : Int32.toInt 5 = 5 := (by decide); omega), (by have qa0 : Int32.toInt 0 = 0 := (by decide); have qa1 : Int32.toInt 1 = 1 := (by decide); have qa2 : Int32.toInt 5 = 5 := (by decide); omega), (tP_5 hm650777 he651149 hm650778 he651150 bf650609 (by omega) (gB_w (gBl (show Int32.toInt 0 = 0 by decide)) (by decide) (by decide)) (fun e => hq650629 (e ▸ x650187)) (fun e => hq650629 (e ▸ x650188))), (vP_no (by decide) (by decide))⟩
