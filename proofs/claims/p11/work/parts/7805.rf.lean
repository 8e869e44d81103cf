theorem dr_cX17_step_0 : decode cX17_step 0 = .ok (.aload_n 1, 1) := by decide +kernel
theorem dr_cX17_step_1 : decode cX17_step 1 = .ok (.getfield 39, 3) := by decide +kernel
theorem dr_cX17_step_4 : decode cX17_step 4 = .ok (.lookupswitch 217 #[(0, 194), (20, 52), (21, 151), (22, 106), (23, 171)], 52) := by decide +kernel
theorem dr_cX17_step_198 : decode cX17_step 198 = .ok (.aload_n 0, 1) := by decide +kernel
theorem dr_cX17_step_199 : decode cX17_step 199 = .ok (.getfield 271, 3) := by decide +kernel
theorem dr_cX17_step_202 : decode cX17_step 202 = .ok (.aload_n 1, 1) := by decide +kernel
theorem dr_cX17_step_203 : decode cX17_step 203 = .ok (.getfield 52, 3) := by decide +kernel
theorem dr_cX17_step_206 : decode cX17_step 206 = .ok (.aload_n 0, 1) := by decide +kernel
theorem dr_cX17_step_207 : decode cX17_step 207 = .ok (.aload_n 1, 1) := by decide +kernel
theorem dr_cX17_step_208 : decode cX17_step 208 = .ok (.getfield 141, 3) := by decide +kernel
theorem wr_9_197 : (Jvm.Cond.fieldLink "SpillForgeModel" (141 : Nat) "SpillForgeModel$Row" "regA" "Z") ∈ gw := gw_9 197 rfl rfl
theorem dr_cX17_step_211 : decode cX17_step 211 = .ok (.aload_n 1, 1) := by decide +kernel
theorem dr_cX17_step_212 : decode cX17_step 212 = .ok (.getfield 73, 3) := by decide +kernel
theorem dr_cX17_step_215 : decode cX17_step 215 = .ok (.invokevirtual 293, 3) := by decide +kernel
theorem wr_11_100 : (Jvm.Cond.methodLink "SpillForgeModel" (293 : Nat) ({ cls := "SpillForgeModel", name := "value", desc := "(ZI)I" } : Jvm.MethodName)) ∈ gw := gw_11 100 rfl rfl
theorem wr_11_103 : (Jvm.Cond.code ({ cls := "SpillForgeModel", name := "value", desc := "(ZI)I" } : Jvm.MethodName) prog_14_method_28_code (3 : Nat) (Option.some Jvm.ClassFile.FieldType.int)) ∈ gw := gw_11 103 rfl rfl
theorem wr_11_102 : (Jvm.Cond.instanceMethod ({ cls := "SpillForgeModel", name := "value", desc := "(ZI)I" } : Jvm.MethodName)) ∈ gw := gw_11 102 rfl rfl
theorem wr_p_115 : Cond.selects "SpillForgeModel" ⟨"SpillForgeModel", "value", "(ZI)I"⟩ ⟨"SpillForgeModel", "value", "(ZI)I"⟩ ∈ gw := gw_p _ 115 rfl rfl rfl
theorem dr_cX17_step_218 : decode cX17_step 218 = .ok (.iastore, 1) := by decide +kernel
theorem dr_cX17_step_219 : decode cX17_step 219 = .ok (.iconst (-1), 1) := by decide +kernel
theorem dr_cX17_step_220 : decode cX17_step 220 = .ok (.ireturn, 1) := by decide +kernel
theorem dr_cX17_step_56 : decode cX17_step 56 = .ok (.aload_n 0, 1) := by decide +kernel
theorem dr_cX17_step_57 : decode cX17_step 57 = .ok (.getfield 271, 3) := by decide +kernel
theorem dr_cX17_step_60 : decode cX17_step 60 = .ok (.aload_n 1, 1) := by decide +kernel
theorem dr_cX17_step_61 : decode cX17_step 61 = .ok (.getfield 52, 3) := by decide +kernel
theorem dr_cX17_step_64 : decode cX17_step 64 = .ok (.aload_n 0, 1) := by decide +kernel
theorem dr_cX17_step_65 : decode cX17_step 65 = .ok (.getfield 286, 3) := by decide +kernel
theorem wr_7_101 : (Jvm.Cond.fieldLink "SpillForgeModel" (286 : Nat) "SpillForgeModel" "read" "I") ∈ gw := gw_7 101 rfl rfl
theorem dr_cX17_step_68 : decode cX17_step 68 = .ok (.aload_n 0, 1) := by decide +kernel
theorem dr_cX17_step_69 : decode cX17_step 69 = .ok (.getfield 303, 3) := by decide +kernel
theorem wr_7_102 : (Jvm.Cond.fieldLink "SpillForgeModel" (303 : Nat) "SpillForgeModel" "input" "[I") ∈ gw := gw_7 102 rfl rfl
theorem dr_cX17_step_72 : decode cX17_step 72 = .ok (.arraylength, 1) := by decide +kernel
theorem dr_cX17_step_73 : decode cX17_step 73 = .ok (.if_icmp .ge 15, 3) := by decide +kernel
theorem dr_cX17_step_88 : decode cX17_step 88 = .ok (.iconst 0, 1) := by decide +kernel
theorem dr_cX17_step_89 : decode cX17_step 89 = .ok (.iastore, 1) := by decide +kernel
theorem dr_cX17_step_90 : decode cX17_step 90 = .ok (.aload_n 0, 1) := by decide +kernel
theorem dr_cX17_step_91 : decode cX17_step 91 = .ok (.aload_n 0, 1) := by decide +kernel
theorem dr_cX17_step_92 : decode cX17_step 92 = .ok (.getfield 286, 3) := by decide +kernel
theorem dr_cX17_step_95 : decode cX17_step 95 = .ok (.iconst 1, 1) := by decide +kernel
theorem dr_cX17_step_96 : decode cX17_step 96 = .ok (.iadd, 1) := by decide +kernel
theorem dr_cX17_step_97 : decode cX17_step 97 = .ok (.aload_n 0, 1) := by decide +kernel
theorem dr_cX17_step_98 : decode cX17_step 98 = .ok (.getfield 303, 3) := by decide +kernel
theorem dr_cX17_step_101 : decode cX17_step 101 = .ok (.arraylength, 1) := by decide +kernel
theorem dr_cX17_step_102 : decode cX17_step 102 = .ok (.invokestatic 164, 3) := by decide +kernel
theorem dr_cX17_step_105 : decode cX17_step 105 = .ok (.putfield 286, 3) := by decide +kernel
theorem dr_cX17_step_108 : decode cX17_step 108 = .ok (.iconst (-1), 1) := by decide +kernel
theorem dr_cX17_step_109 : decode cX17_step 109 = .ok (.ireturn, 1) := by decide +kernel
theorem dr_cX17_step_76 : decode cX17_step 76 = .ok (.aload_n 0, 1) := by decide +kernel
theorem dr_cX17_step_77 : decode cX17_step 77 = .ok (.getfield 303, 3) := by decide +kernel
theorem dr_cX17_step_80 : decode cX17_step 80 = .ok (.aload_n 0, 1) := by decide +kernel
theorem dr_cX17_step_81 : decode cX17_step 81 = .ok (.getfield 286, 3) := by decide +kernel
theorem dr_cX17_step_84 : decode cX17_step 84 = .ok (.iaload, 1) := by decide +kernel
theorem dr_cX17_step_85 : decode cX17_step 85 = .ok (.goto 4, 3) := by decide +kernel
theorem dr_cX17_step_155 : decode cX17_step 155 = .ok (.aload_n 0, 1) := by decide +kernel
theorem dr_cX17_step_156 : decode cX17_step 156 = .ok (.getfield 271, 3) := by decide +kernel
theorem dr_cX17_step_159 : decode cX17_step 159 = .ok (.aload_n 1, 1) := by decide +kernel
theorem dr_cX17_step_160 : decode cX17_step 160 = .ok (.getfield 52, 3) := by decide +kernel
theorem dr_cX17_step_163 : decode cX17_step 163 = .ok (.aload_n 0, 1) := by decide +kernel
theorem dr_cX17_step_164 : decode cX17_step 164 = .ok (.getfield 274, 3) := by decide +kernel
theorem wr_7_95 : (Jvm.Cond.fieldLink "SpillForgeModel" (274 : Nat) "SpillForgeModel" "slotNow" "[I") ∈ gw := gw_7 95 rfl rfl
theorem dr_cX17_step_167 : decode cX17_step 167 = .ok (.aload_n 1, 1) := by decide +kernel
theorem dr_cX17_step_168 : decode cX17_step 168 = .ok (.getfield 45, 3) := by decide +kernel
theorem dr_cX17_step_171 : decode cX17_step 171 = .ok (.iaload, 1) := by decide +kernel
theorem dr_cX17_step_172 : decode cX17_step 172 = .ok (.iastore, 1) := by decide +kernel
theorem dr_cX17_step_173 : decode cX17_step 173 = .ok (.iconst (-1), 1) := by decide +kernel
theorem dr_cX17_step_174 : decode cX17_step 174 = .ok (.ireturn, 1) := by decide +kernel
theorem dr_cX17_step_110 : decode cX17_step 110 = .ok (.aload_n 0, 1) := by decide +kernel
theorem dr_cX17_step_111 : decode cX17_step 111 = .ok (.getfield 280, 3) := by decide +kernel
theorem wr_7_99 : (Jvm.Cond.fieldLink "SpillForgeModel" (280 : Nat) "SpillForgeModel" "shown" "I") ∈ gw := gw_7 99 rfl rfl
theorem dr_cX17_step_114 : decode cX17_step 114 = .ok (.sipush 512, 3) := by decide +kernel
theorem dr_cX17_step_117 : decode cX17_step 117 = .ok (.if_icmp .ne 5, 3) := by decide +kernel
theorem dr_cX17_step_122 : decode cX17_step 122 = .ok (.aload_n 0, 1) := by decide +kernel
theorem dr_cX17_step_123 : decode cX17_step 123 = .ok (.getfield 306, 3) := by decide +kernel
theorem wr_7_96 : (Jvm.Cond.fieldLink "SpillForgeModel" (306 : Nat) "SpillForgeModel" "shows" "[I") ∈ gw := gw_7 96 rfl rfl
theorem dr_cX17_step_126 : decode cX17_step 126 = .ok (.aload_n 0, 1) := by decide +kernel
theorem dr_cX17_step_127 : decode cX17_step 127 = .ok (.getfield 280, 3) := by decide +kernel
theorem dr_cX17_step_130 : decode cX17_step 130 = .ok (.aload_n 0, 1) := by decide +kernel
theorem dr_cX17_step_131 : decode cX17_step 131 = .ok (.aload_n 1, 1) := by decide +kernel
theorem dr_cX17_step_132 : decode cX17_step 132 = .ok (.getfield 141, 3) := by decide +kernel
theorem dr_cX17_step_135 : decode cX17_step 135 = .ok (.aload_n 1, 1) := by decide +kernel
theorem dr_cX17_step_136 : decode cX17_step 136 = .ok (.getfield 73, 3) := by decide +kernel
theorem dr_cX17_step_139 : decode cX17_step 139 = .ok (.invokevirtual 293, 3) := by decide +kernel
theorem dr_cX17_step_142 : decode cX17_step 142 = .ok (.iastore, 1) := by decide +kernel
theorem dr_cX17_step_143 : decode cX17_step 143 = .ok (.aload_n 0, 1) := by decide +kernel
theorem dr_cX17_step_144 : decode cX17_step 144 = .ok (.dup, 1) := by decide +kernel
theorem dr_cX17_step_145 : decode cX17_step 145 = .ok (.getfield 280, 3) := by decide +kernel
theorem dr_cX17_step_148 : decode cX17_step 148 = .ok (.iconst 1, 1) := by decide +kernel
theorem dr_cX17_step_149 : decode cX17_step 149 = .ok (.iadd, 1) := by decide +kernel
theorem dr_cX17_step_150 : decode cX17_step 150 = .ok (.putfield 280, 3) := by decide +kernel
theorem dr_cX17_step_153 : decode cX17_step 153 = .ok (.iconst (-1), 1) := by decide +kernel
theorem dr_cX17_step_154 : decode cX17_step 154 = .ok (.ireturn, 1) := by decide +kernel
theorem dr_cX17_step_120 : decode cX17_step 120 = .ok (.iconst 5, 1) := by decide +kernel
theorem dr_cX17_step_121 : decode cX17_step 121 = .ok (.ireturn, 1) := by decide +kernel
theorem dr_cX17_step_175 : decode cX17_step 175 = .ok (.aload_n 0, 1) := by decide +kernel
theorem dr_cX17_step_176 : decode cX17_step 176 = .ok (.getfield 274, 3) := by decide +kernel
theorem dr_cX17_step_179 : decode cX17_step 179 = .ok (.aload_n 1, 1) := by decide +kernel
theorem dr_cX17_step_180 : decode cX17_step 180 = .ok (.getfield 45, 3) := by decide +kernel
theorem dr_cX17_step_183 : decode cX17_step 183 = .ok (.aload_n 0, 1) := by decide +kernel
theorem dr_cX17_step_184 : decode cX17_step 184 = .ok (.aload_n 1, 1) := by decide +kernel
theorem dr_cX17_step_185 : decode cX17_step 185 = .ok (.getfield 141, 3) := by decide +kernel
theorem dr_cX17_step_188 : decode cX17_step 188 = .ok (.aload_n 1, 1) := by decide +kernel
theorem dr_cX17_step_189 : decode cX17_step 189 = .ok (.getfield 73, 3) := by decide +kernel
theorem dr_cX17_step_192 : decode cX17_step 192 = .ok (.invokevirtual 293, 3) := by decide +kernel
theorem dr_cX17_step_195 : decode cX17_step 195 = .ok (.iastore, 1) := by decide +kernel
theorem dr_cX17_step_196 : decode cX17_step 196 = .ok (.iconst (-1), 1) := by decide +kernel
theorem dr_cX17_step_197 : decode cX17_step 197 = .ok (.ireturn, 1) := by decide +kernel
theorem dr_cX17_step_221 : decode cX17_step 221 = .ok (.aload_n 1, 1) := by decide +kernel
theorem dr_cX17_step_222 : decode cX17_step 222 = .ok (.getfield 39, 3) := by decide +kernel
theorem dr_cX17_step_225 : decode cX17_step 225 = .ok (.aload_n 0, 1) := by decide +kernel
theorem dr_cX17_step_226 : decode cX17_step 226 = .ok (.aload_n 1, 1) := by decide +kernel
theorem dr_cX17_step_227 : decode cX17_step 227 = .ok (.getfield 141, 3) := by decide +kernel
theorem dr_cX17_step_230 : decode cX17_step 230 = .ok (.aload_n 1, 1) := by decide +kernel
theorem dr_cX17_step_231 : decode cX17_step 231 = .ok (.getfield 73, 3) := by decide +kernel
theorem dr_cX17_step_234 : decode cX17_step 234 = .ok (.invokevirtual 293, 3) := by decide +kernel
theorem dr_cX17_step_237 : decode cX17_step 237 = .ok (.aload_n 0, 1) := by decide +kernel
theorem dr_cX17_step_238 : decode cX17_step 238 = .ok (.aload_n 1, 1) := by decide +kernel
theorem dr_cX17_step_239 : decode cX17_step 239 = .ok (.getfield 309, 3) := by decide +kernel
theorem wr_9_202 : (Jvm.Cond.fieldLink "SpillForgeModel" (309 : Nat) "SpillForgeModel$Row" "regB" "Z") ∈ gw := gw_9 202 rfl rfl
theorem dr_cX17_step_242 : decode cX17_step 242 = .ok (.aload_n 1, 1) := by decide +kernel
theorem dr_cX17_step_243 : decode cX17_step 243 = .ok (.getfield 79, 3) := by decide +kernel
theorem dr_cX17_step_246 : decode cX17_step 246 = .ok (.invokevirtual 293, 3) := by decide +kernel
theorem dr_cX17_step_249 : decode cX17_step 249 = .ok (.invokestatic 312, 3) := by decide +kernel
theorem wr_11_104 : (Jvm.Cond.methodLink "SpillForgeModel" (312 : Nat) ({ cls := "SpillForgeModel", name := "result", desc := "(III)J" } : Jvm.MethodName)) ∈ gw := gw_11 104 rfl rfl
theorem wr_11_106 : (Jvm.Cond.code ({ cls := "SpillForgeModel", name := "result", desc := "(III)J" } : Jvm.MethodName) prog_14_method_27_code (4 : Nat) (Option.some Jvm.ClassFile.FieldType.long)) ∈ gw := gw_11 106 rfl rfl
theorem wr_11_105 : (Jvm.Cond.static ({ cls := "SpillForgeModel", name := "result", desc := "(III)J" } : Jvm.MethodName)) ∈ gw := gw_11 105 rfl rfl
theorem dr_cX17_step_252 : decode cX17_step 252 = .ok (.lstore_n 2, 1) := by decide +kernel
theorem dr_cX17_step_253 : decode cX17_step 253 = .ok (.lload_n 2, 1) := by decide +kernel
theorem dr_cX17_step_254 : decode cX17_step 254 = .ok (.ldc2_w 267, 3) := by decide +kernel
theorem dr_cX17_step_257 : decode cX17_step 257 = .ok (.lcmp, 1) := by decide +kernel
theorem dr_cX17_step_258 : decode cX17_step 258 = .ok (.ifCond .ne 5, 3) := by decide +kernel
theorem dr_cX17_step_263 : decode cX17_step 263 = .ok (.aload_n 0, 1) := by decide +kernel
theorem dr_cX17_step_264 : decode cX17_step 264 = .ok (.getfield 271, 3) := by decide +kernel
theorem dr_cX17_step_267 : decode cX17_step 267 = .ok (.aload_n 1, 1) := by decide +kernel
theorem dr_cX17_step_268 : decode cX17_step 268 = .ok (.getfield 52, 3) := by decide +kernel
theorem dr_cX17_step_271 : decode cX17_step 271 = .ok (.lload_n 2, 1) := by decide +kernel
theorem dr_cX17_step_272 : decode cX17_step 272 = .ok (.l2i, 1) := by decide +kernel
theorem dr_cX17_step_273 : decode cX17_step 273 = .ok (.iastore, 1) := by decide +kernel
theorem dr_cX17_step_274 : decode cX17_step 274 = .ok (.iconst (-1), 1) := by decide +kernel
theorem dr_cX17_step_275 : decode cX17_step 275 = .ok (.ireturn, 1) := by decide +kernel
theorem dr_cX17_step_261 : decode cX17_step 261 = .ok (.iconst 1, 1) := by decide +kernel
theorem dr_cX17_step_262 : decode cX17_step 262 = .ok (.ireturn, 1) := by decide +kernel
theorem dr_cX17_no_0 : decode cX17_no 0 = .ok (.aload_n 0, 1) := by decide +kernel
theorem dr_cX17_no_1 : decode cX17_no 1 = .ok (.iload_n 1, 1) := by decide +kernel
theorem dr_cX17_no_2 : decode cX17_no 2 = .ok (.putfield 380, 3) := by decide +kernel
theorem wr_7_104 : (Jvm.Cond.fieldLink "SpillForgeModel" (380 : Nat) "SpillForgeModel" "thrown" "I") ∈ gw := gw_7 104 rfl rfl
theorem dr_cX17_no_5 : decode cX17_no 5 = .ok (.iconst 0, 1) := by decide +kernel
theorem dr_cX17_no_6 : decode cX17_no 6 = .ok (.ireturn, 1) := by decide +kernel
theorem dr_cX17_told_0 : decode cX17_told 0 = .ok (.aload_n 0, 1) := by decide +kernel
theorem dr_cX17_told_1 : decode cX17_told 1 = .ok (.iconst 0, 1) := by decide +kernel
theorem dr_cX17_told_2 : decode cX17_told 2 = .ok (.putfield 380, 3) := by decide +kernel
theorem dr_cX17_told_5 : decode cX17_told 5 = .ok (.iload_n 1, 1) := by decide +kernel
theorem dr_cX17_told_6 : decode cX17_told 6 = .ok (.tableswitch 70 0 4 #[34, 50, 55, 60, 65], 34) := by decide +kernel
theorem dr_cX17_told_40 : decode cX17_told 40 = .ok (.aload_n 0, 1) := by decide +kernel
theorem dr_cX17_told_41 : decode cX17_told 41 = .ok (.getfield 371, 3) := by decide +kernel
theorem wr_7_97 : (Jvm.Cond.fieldLink "SpillForgeModel" (371 : Nat) "SpillForgeModel" "ended" "I") ∈ gw := gw_7 97 rfl rfl
theorem dr_cX17_told_44 : decode cX17_told 44 = .ok (.ifCond .ne 10, 3) := by decide +kernel
theorem dr_cX17_told_54 : decode cX17_told 54 = .ok (.iconst 0, 1) := by decide +kernel
theorem dr_cX17_told_55 : decode cX17_told 55 = .ok (.ireturn, 1) := by decide +kernel
theorem dr_cX17_told_47 : decode cX17_told 47 = .ok (.aload_n 0, 1) := by decide +kernel
theorem dr_cX17_told_48 : decode cX17_told 48 = .ok (.getfield 277, 3) := by decide +kernel
theorem wr_7_98 : (Jvm.Cond.fieldLink "SpillForgeModel" (277 : Nat) "SpillForgeModel" "answer" "I") ∈ gw := gw_7 98 rfl rfl
theorem dr_cX17_told_51 : decode cX17_told 51 = .ok (.goto 4, 3) := by decide +kernel
theorem dr_cX17_told_56 : decode cX17_told 56 = .ok (.aload_n 0, 1) := by decide +kernel
theorem dr_cX17_told_57 : decode cX17_told 57 = .ok (.getfield 280, 3) := by decide +kernel
theorem dr_cX17_told_60 : decode cX17_told 60 = .ok (.ireturn, 1) := by decide +kernel
theorem dr_cX17_told_61 : decode cX17_told 61 = .ok (.aload_n 0, 1) := by decide +kernel
theorem dr_cX17_told_62 : decode cX17_told 62 = .ok (.getfield 283, 3) := by decide +kernel
theorem wr_7_100 : (Jvm.Cond.fieldLink "SpillForgeModel" (283 : Nat) "SpillForgeModel" "steps" "I") ∈ gw := gw_7 100 rfl rfl
theorem dr_cX17_told_65 : decode cX17_told 65 = .ok (.ireturn, 1) := by decide +kernel
theorem dr_cX17_told_66 : decode cX17_told 66 = .ok (.aload_n 0, 1) := by decide +kernel
theorem dr_cX17_told_67 : decode cX17_told 67 = .ok (.getfield 286, 3) := by decide +kernel
theorem dr_cX17_told_70 : decode cX17_told 70 = .ok (.ireturn, 1) := by decide +kernel
theorem dr_cX17_told_71 : decode cX17_told 71 = .ok (.aload_n 0, 1) := by decide +kernel
theorem dr_cX17_told_72 : decode cX17_told 72 = .ok (.getfield 371, 3) := by decide +kernel
theorem dr_cX17_told_75 : decode cX17_told 75 = .ok (.ireturn, 1) := by decide +kernel
theorem dr_cX17_told_76 : decode cX17_told 76 = .ok (.aload_n 0, 1) := by decide +kernel
theorem dr_cX17_told_77 : decode cX17_told 77 = .ok (.iconst 1, 1) := by decide +kernel
theorem dr_cX17_told_78 : decode cX17_told 78 = .ok (.invokevirtual 385, 3) := by decide +kernel
theorem wr_7_191 : (Jvm.Cond.methodLink "SpillForgeModel" (385 : Nat) ({ cls := "SpillForgeModel", name := "no", desc := "(I)I" } : Jvm.MethodName)) ∈ gw := gw_7 191 rfl rfl
theorem wr_7_194 : (Jvm.Cond.code ({ cls := "SpillForgeModel", name := "no", desc := "(I)I" } : Jvm.MethodName) prog_14_method_37_code (2 : Nat) (Option.some Jvm.ClassFile.FieldType.int)) ∈ gw := gw_7 194 rfl rfl
theorem wr_7_193 : (Jvm.Cond.instanceMethod ({ cls := "SpillForgeModel", name := "no", desc := "(I)I" } : Jvm.MethodName)) ∈ gw := gw_7 193 rfl rfl
theorem wr_p_73 : Cond.selects "SpillForgeModel" ⟨"SpillForgeModel", "no", "(I)I"⟩ ⟨"SpillForgeModel", "no", "(I)I"⟩ ∈ gw := gw_p _ 73 rfl rfl rfl
theorem dr_cX17_told_81 : decode cX17_told 81 = .ok (.ireturn, 1) := by decide +kernel