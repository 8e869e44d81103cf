theorem dr_cX17_step_0 : decode cX17_step 0 = .ok (.aload_n 1, 1) := by decide +kernel
theorem dr_cX17_step_1 : decode cX17_step 1 = .ok (.getfield 39, 3) := by decide +kernel
theorem dr_cX17_step_4 : decode cX17_step 4 = .ok (.lookupswitch 217 #[(0, 194), (20, 52), (21, 151), (22, 106), (23, 171)], 52) := by decide +kernel
theorem dr_cX17_step_198 : decode cX17_step 198 = .ok (.aload_n 0, 1) := by decide +kernel
theorem dr_cX17_step_199 : decode cX17_step 199 = .ok (.getfield 271, 3) := by decide +kernel
theorem dr_cX17_step_202 : decode cX17_step 202 = .ok (.aload_n 1, 1) := by decide +kernel
theorem dr_cX17_step_203 : decode cX17_step 203 = .ok (.getfield 52, 3) := by decide +kernel
theorem dr_cX17_step_206 : decode cX17_step 206 = .ok (.aload_n 0, 1) := by decide +kernel
theorem dr_cX17_step_207 : decode cX17_step 207 = .ok (.aload_n 1, 1) := by decide +kernel
theorem dr_cX17_step_208 : decode cX17_step 208 = .ok (.getfield 141, 3) := by decide +kernel
theorem wr_9_197 : (Jvm.Cond.fieldLink "SpillForgeModel" (141 : Nat) "SpillForgeModel$Row" "regA" "Z") ∈ gw := gw_9 197 rfl rfl
theorem dr_cX17_step_211 : decode cX17_step 211 = .ok (.aload_n 1, 1) := by decide +kernel
theorem dr_cX17_step_212 : decode cX17_step 212 = .ok (.getfield 73, 3) := by decide +kernel
theorem dr_cX17_step_215 : decode cX17_step 215 = .ok (.invokevirtual 293, 3) := by decide +kernel
theorem wr_11_100 : (Jvm.Cond.methodLink "SpillForgeModel" (293 : Nat) ({ cls := "SpillForgeModel", name := "value", desc := "(ZI)I" } : Jvm.MethodName)) ∈ gw := gw_11 100 rfl rfl
theorem wr_11_103 : (Jvm.Cond.code ({ cls := "SpillForgeModel", name := "value", desc := "(ZI)I" } : Jvm.MethodName) prog_14_method_28_code (3 : Nat) (Option.some Jvm.ClassFile.FieldType.int)) ∈ gw := gw_11 103 rfl rfl
theorem wr_11_102 : (Jvm.Cond.instanceMethod ({ cls := "SpillForgeModel", name := "value", desc := "(ZI)I" } : Jvm.MethodName)) ∈ gw := gw_11 102 rfl rfl
theorem wr_p_115 : Cond.selects "SpillForgeModel" ⟨"SpillForgeModel", "value", "(ZI)I"⟩ ⟨"SpillForgeModel", "value", "(ZI)I"⟩ ∈ gw := gw_p _ 115 rfl rfl rfl
theorem dr_cX17_step_218 : decode cX17_step 218 = .ok (.iastore, 1) := by decide +kernel
theorem dr_cX17_step_219 : decode cX17_step 219 = .ok (.iconst (-1), 1) := by decide +kernel
theorem dr_cX17_step_220 : decode cX17_step 220 = .ok (.ireturn, 1) := by decide +kernel
theorem dr_cX17_step_56 : decode cX17_step 56 = .ok (.aload_n 0, 1) := by decide +kernel
theorem dr_cX17_step_57 : decode cX17_step 57 = .ok (.getfield 271, 3) := by decide +kernel
theorem dr_cX17_step_60 : decode cX17_step 60 = .ok (.aload_n 1, 1) := by decide +kernel
theorem dr_cX17_step_61 : decode cX17_step 61 = .ok (.getfield 52, 3) := by decide +kernel
theorem dr_cX17_step_64 : decode cX17_step 64 = .ok (.aload_n 0, 1) := by decide +kernel
theorem dr_cX17_step_65 : decode cX17_step 65 = .ok (.getfield 286, 3) := by decide +kernel
theorem wr_7_101 : (Jvm.Cond.fieldLink "SpillForgeModel" (286 : Nat) "SpillForgeModel" "read" "I") ∈ gw := gw_7 101 rfl rfl
theorem dr_cX17_step_68 : decode cX17_step 68 = .ok (.aload_n 0, 1) := by decide +kernel
theorem dr_cX17_step_69 : decode cX17_step 69 = .ok (.getfield 303, 3) := by decide +kernel
theorem wr_7_102 : (Jvm.Cond.fieldLink "SpillForgeModel" (303 : Nat) "SpillForgeModel" "input" "[I") ∈ gw := gw_7 102 rfl rfl
theorem dr_cX17_step_72 : decode cX17_step 72 = .ok (.arraylength, 1) := by decide +kernel
theorem dr_cX17_step_73 : decode cX17_step 73 = .ok (.if_icmp .ge 15, 3) := by decide +kernel
theorem dr_cX17_step_88 : decode cX17_step 88 = .ok (.iconst 0, 1) := by decide +kernel
theorem dr_cX17_step_89 : decode cX17_step 89 = .ok (.iastore, 1) := by decide +kernel
theorem dr_cX17_step_90 : decode cX17_step 90 = .ok (.aload_n 0, 1) := by decide +kernel
theorem dr_cX17_step_91 : decode cX17_step 91 = .ok (.aload_n 0, 1) := by decide +kernel
theorem dr_cX17_step_92 : decode cX17_step 92 = .ok (.getfield 286, 3) := by decide +kernel
theorem dr_cX17_step_95 : decode cX17_step 95 = .ok (.iconst 1, 1) := by decide +kernel
theorem dr_cX17_step_96 : decode cX17_step 96 = .ok (.iadd, 1) := by decide +kernel
theorem dr_cX17_step_97 : decode cX17_step 97 = .ok (.aload_n 0, 1) := by decide +kernel
theorem dr_cX17_step_98 : decode cX17_step 98 = .ok (.getfield 303, 3) := by decide +kernel
theorem dr_cX17_step_101 : decode cX17_step 101 = .ok (.arraylength, 1) := by decide +kernel
theorem dr_cX17_step_102 : decode cX17_step 102 = .ok (.invokestatic 164, 3) := by decide +kernel
theorem dr_cX17_step_105 : decode cX17_step 105 = .ok (.putfield 286, 3) := by decide +kernel
theorem dr_cX17_step_108 : decode cX17_step 108 = .ok (.iconst (-1), 1) := by decide +kernel
theorem dr_cX17_step_109 : decode cX17_step 109 = .ok (.ireturn, 1) := by decide +kernel
theorem dr_cX17_step_76 : decode cX17_step 76 = .ok (.aload_n 0, 1) := by decide +kernel
theorem dr_cX17_step_77 : decode cX17_step 77 = .ok (.getfield 303, 3) := by decide +kernel
theorem dr_cX17_step_80 : decode cX17_step 80 = .ok (.aload_n 0, 1) := by decide +kernel
theorem dr_cX17_step_81 : decode cX17_step 81 = .ok (.getfield 286, 3) := by decide +kernel
theorem dr_cX17_step_84 : decode cX17_step 84 = .ok (.iaload, 1) := by decide +kernel
theorem dr_cX17_step_85 : decode cX17_step 85 = .ok (.goto 4, 3) := by decide +kernel
theorem dr_cX17_step_155 : decode cX17_step 155 = .ok (.aload_n 0, 1) := by decide +kernel
theorem dr_cX17_step_156 : decode cX17_step 156 = .ok (.getfield 271, 3) := by decide +kernel
theorem dr_cX17_step_159 : decode cX17_step 159 = .ok (.aload_n 1, 1) := by decide +kernel
theorem dr_cX17_step_160 : decode cX17_step 160 = .ok (.getfield 52, 3) := by decide +kernel
theorem dr_cX17_step_163 : decode cX17_step 163 = .ok (.aload_n 0, 1) := by decide +kernel
theorem dr_cX17_step_164 : decode cX17_step 164 = .ok (.getfield 274, 3) := by decide +kernel
theorem wr_7_95 : (Jvm.Cond.fieldLink "SpillForgeModel" (274 : Nat) "SpillForgeModel" "slotNow" "[I") ∈ gw := gw_7 95 rfl rfl
theorem dr_cX17_step_167 : decode cX17_step 167 = .ok (.aload_n 1, 1) := by decide +kernel
theorem dr_cX17_step_168 : decode cX17_step 168 = .ok (.getfield 45, 3) := by decide +kernel
theorem dr_cX17_step_171 : decode cX17_step 171 = .ok (.iaload, 1) := by decide +kernel
theorem dr_cX17_step_172 : decode cX17_step 172 = .ok (.iastore, 1) := by decide +kernel
theorem dr_cX17_step_173 : decode cX17_step 173 = .ok (.iconst (-1), 1) := by decide +kernel
theorem dr_cX17_step_174 : decode cX17_step 174 = .ok (.ireturn, 1) := by decide +kernel
theorem dr_cX17_step_110 : decode cX17_step 110 = .ok (.aload_n 0, 1) := by decide +kernel
theorem dr_cX17_step_111 : decode cX17_step 111 = .ok (.getfield 280, 3) := by decide +kernel
theorem wr_7_99 : (Jvm.Cond.fieldLink "SpillForgeModel" (280 : Nat) "SpillForgeModel" "shown" "I") ∈ gw := gw_7 99 rfl rfl
theorem dr_cX17_step_114 : decode cX17_step 114 = .ok (.sipush 512, 3) := by decide +kernel
theorem dr_cX17_step_117 : decode cX17_step 117 = .ok (.if_icmp .ne 5, 3) := by decide +kernel
theorem dr_cX17_step_122 : decode cX17_step 122 = .ok (.aload_n 0, 1) := by decide +kernel
theorem dr_cX17_step_123 : decode cX17_step 123 = .ok (.getfield 306, 3) := by decide +kernel
theorem wr_7_96 : (Jvm.Cond.fieldLink "SpillForgeModel" (306 : Nat) "SpillForgeModel" "shows" "[I") ∈ gw := gw_7 96 rfl rfl
theorem dr_cX17_step_126 : decode cX17_step 126 = .ok (.aload_n 0, 1) := by decide +kernel
theorem dr_cX17_step_127 : decode cX17_step 127 = .ok (.getfield 280, 3) := by decide +kernel
theorem dr_cX17_step_130 : decode cX17_step 130 = .ok (.aload_n 0, 1) := by decide +kernel
theorem dr_cX17_step_131 : decode cX17_step 131 = .ok (.aload_n 1, 1) := by decide +kernel
theorem dr_cX17_step_132 : decode cX17_step 132 = .ok (.getfield 141, 3) := by decide +kernel
theorem dr_cX17_step_135 : decode cX17_step 135 = .ok (.aload_n 1, 1) := by decide +kernel
theorem dr_cX17_step_136 : decode cX17_step 136 = .ok (.getfield 73, 3) := by decide +kernel
theorem dr_cX17_step_139 : decode cX17_step 139 = .ok (.invokevirtual 293, 3) := by decide +kernel
theorem dr_cX17_step_142 : decode cX17_step 142 = .ok (.iastore, 1) := by decide +kernel
theorem dr_cX17_step_143 : decode cX17_step 143 = .ok (.aload_n 0, 1) := by decide +kernel
theorem dr_cX17_step_144 : decode cX17_step 144 = .ok (.dup, 1) := by decide +kernel
theorem dr_cX17_step_145 : decode cX17_step 145 = .ok (.getfield 280, 3) := by decide +kernel
theorem dr_cX17_step_148 : decode cX17_step 148 = .ok (.iconst 1, 1) := by decide +kernel
theorem dr_cX17_step_149 : decode cX17_step 149 = .ok (.iadd, 1) := by decide +kernel
theorem dr_cX17_step_150 : decode cX17_step 150 = .ok (.putfield 280, 3) := by decide +kernel
theorem dr_cX17_step_153 : decode cX17_step 153 = .ok (.iconst (-1), 1) := by decide +kernel
theorem dr_cX17_step_154 : decode cX17_step 154 = .ok (.ireturn, 1) := by decide +kernel
theorem dr_cX17_step_120 : decode cX17_step 120 = .ok (.iconst 5, 1) := by decide +kernel
theorem dr_cX17_step_121 : decode cX17_step 121 = .ok (.ireturn, 1) := by decide +kernel
theorem dr_cX17_step_175 : decode cX17_step 175 = .ok (.aload_n 0, 1) := by decide +kernel
theorem dr_cX17_step_176 : decode cX17_step 176 = .ok (.getfield 274, 3) := by decide +kernel
theorem dr_cX17_step_179 : decode cX17_step 179 = .ok (.aload_n 1, 1) := by decide +kernel
theorem dr_cX17_step_180 : decode cX17_step 180 = .ok (.getfield 45, 3) := by decide +kernel
theorem dr_cX17_step_183 : decode cX17_step 183 = .ok (.aload_n 0, 1) := by decide +kernel
theorem dr_cX17_step_184 : decode cX17_step 184 = .ok (.aload_n 1, 1) := by decide +kernel
theorem dr_cX17_step_185 : decode cX17_step 185 = .ok (.getfield 141, 3) := by decide +kernel
theorem dr_cX17_step_188 : decode cX17_step 188 = .ok (.aload_n 1, 1) := by decide +kernel
theorem dr_cX17_step_189 : decode cX17_step 189 = .ok (.getfield 73, 3) := by decide +kernel
theorem dr_cX17_step_192 : decode cX17_step 192 = .ok (.invokevirtual 293, 3) := by decide +kernel
theorem dr_cX17_step_195 : decode cX17_step 195 = .ok (.iastore, 1) := by decide +kernel
theorem dr_cX17_step_196 : decode cX17_step 196 = .ok (.iconst (-1), 1) := by decide +kernel
theorem dr_cX17_step_197 : decode cX17_step 197 = .ok (.ireturn, 1) := by decide +kernel
theorem dr_cX17_step_221 : decode cX17_step 221 = .ok (.aload_n 1, 1) := by decide +kernel
theorem dr_cX17_step_222 : decode cX17_step 222 = .ok (.getfield 39, 3) := by decide +kernel
theorem dr_cX17_step_225 : decode cX17_step 225 = .ok (.aload_n 0, 1) := by decide +kernel
theorem dr_cX17_step_226 : decode cX17_step 226 = .ok (.aload_n 1, 1) := by decide +kernel
theorem dr_cX17_step_227 : decode cX17_step 227 = .ok (.getfield 141, 3) := by decide +kernel
theorem dr_cX17_step_230 : decode cX17_step 230 = .ok (.aload_n 1, 1) := by decide +kernel
theorem dr_cX17_step_231 : decode cX17_step 231 = .ok (.getfield 73, 3) := by decide +kernel
theorem dr_cX17_step_234 : decode cX17_step 234 = .ok (.invokevirtual 293, 3) := by decide +kernel
theorem dr_cX17_step_237 : decode cX17_step 237 = .ok (.aload_n 0, 1) := by decide +kernel
theorem dr_cX17_step_238 : decode cX17_step 238 = .ok (.aload_n 1, 1) := by decide +kernel
theorem dr_cX17_step_239 : decode cX17_step 239 = .ok (.getfield 309, 3) := by decide +kernel
theorem wr_9_202 : (Jvm.Cond.fieldLink "SpillForgeModel" (309 : Nat) "SpillForgeModel$Row" "regB" "Z") ∈ gw := gw_9 202 rfl rfl
theorem dr_cX17_step_242 : decode cX17_step 242 = .ok (.aload_n 1, 1) := by decide +kernel
theorem dr_cX17_step_243 : decode cX17_step 243 = .ok (.getfield 79, 3) := by decide +kernel
theorem dr_cX17_step_246 : decode cX17_step 246 = .ok (.invokevirtual 293, 3) := by decide +kernel
theorem dr_cX17_step_249 : decode cX17_step 249 = .ok (.invokestatic 312, 3) := by decide +kernel
theorem wr_11_104 : (Jvm.Cond.methodLink "SpillForgeModel" (312 : Nat) ({ cls := "SpillForgeModel", name := "result", desc := "(III)J" } : Jvm.MethodName)) ∈ gw := gw_11 104 rfl rfl
theorem wr_11_106 : (Jvm.Cond.code ({ cls := "SpillForgeModel", name := "result", desc := "(III)J" } : Jvm.MethodName) prog_14_method_27_code (4 : Nat) (Option.some Jvm.ClassFile.FieldType.long)) ∈ gw := gw_11 106 rfl rfl
theorem wr_11_105 : (Jvm.Cond.static ({ cls := "SpillForgeModel", name := "result", desc := "(III)J" } : Jvm.MethodName)) ∈ gw := gw_11 105 rfl rfl
theorem dr_cX17_step_252 : decode cX17_step 252 = .ok (.lstore_n 2, 1) := by decide +kernel
theorem dr_cX17_step_253 : decode cX17_step 253 = .ok (.lload_n 2, 1) := by decide +kernel
theorem dr_cX17_step_254 : decode cX17_step 254 = .ok (.ldc2_w 267, 3) := by decide +kernel
theorem dr_cX17_step_257 : decode cX17_step 257 = .ok (.lcmp, 1) := by decide +kernel
theorem dr_cX17_step_258 : decode cX17_step 258 = .ok (.ifCond .ne 5, 3) := by decide +kernel
theorem dr_cX17_step_263 : decode cX17_step 263 = .ok (.aload_n 0, 1) := by decide +kernel
theorem dr_cX17_step_264 : decode cX17_step 264 = .ok (.getfield 271, 3) := by decide +kernel
theorem dr_cX17_step_267 : decode cX17_step 267 = .ok (.aload_n 1, 1) := by decide +kernel
theorem dr_cX17_step_268 : decode cX17_step 268 = .ok (.getfield 52, 3) := by decide +kernel
theorem dr_cX17_step_271 : decode cX17_step 271 = .ok (.lload_n 2, 1) := by decide +kernel
theorem dr_cX17_step_272 : decode cX17_step 272 = .ok (.l2i, 1) := by decide +kernel
theorem dr_cX17_step_273 : decode cX17_step 273 = .ok (.iastore, 1) := by decide +kernel
theorem dr_cX17_step_274 : decode cX17_step 274 = .ok (.iconst (-1), 1) := by decide +kernel
theorem dr_cX17_step_275 : decode cX17_step 275 = .ok (.ireturn, 1) := by decide +kernel
theorem dr_cX17_step_261 : decode cX17_step 261 = .ok (.iconst 1, 1) := by decide +kernel
theorem dr_cX17_step_262 : decode cX17_step 262 = .ok (.ireturn, 1) := by decide +kernel
theorem dr_cX17_no_0 : decode cX17_no 0 = .ok (.aload_n 0, 1) := by decide +kernel
theorem dr_cX17_no_1 : decode cX17_no 1 = .ok (.iload_n 1, 1) := by decide +kernel
theorem dr_cX17_no_2 : decode cX17_no 2 = .ok (.putfield 380, 3) := by decide +kernel
theorem wr_7_104 : (Jvm.Cond.fieldLink "SpillForgeModel" (380 : Nat) "SpillForgeModel" "thrown" "I") ∈ gw := gw_7 104 rfl rfl
theorem dr_cX17_no_5 : decode cX17_no 5 = .ok (.iconst 0, 1) := by decide +kernel
theorem dr_cX17_no_6 : decode cX17_no 6 = .ok (.ireturn, 1) := by decide +kernel
theorem dr_cX17_told_0 : decode cX17_told 0 = .ok (.aload_n 0, 1) := by decide +kernel
theorem dr_cX17_told_1 : decode cX17_told 1 = .ok (.iconst 0, 1) := by decide +kernel
theorem dr_cX17_told_2 : decode cX17_told 2 = .ok (.putfield 380, 3) := by decide +kernel
theorem dr_cX17_told_5 : decode cX17_told 5 = .ok (.iload_n 1, 1) := by decide +kernel
theorem dr_cX17_told_6 : decode cX17_told 6 = .ok (.tableswitch 70 0 4 #[34, 50, 55, 60, 65], 34) := by decide +kernel
theorem dr_cX17_told_40 : decode cX17_told 40 = .ok (.aload_n 0, 1) := by decide +kernel
theorem dr_cX17_told_41 : decode cX17_told 41 = .ok (.getfield 371, 3) := by decide +kernel
theorem wr_7_97 : (Jvm.Cond.fieldLink "SpillForgeModel" (371 : Nat) "SpillForgeModel" "ended" "I") ∈ gw := gw_7 97 rfl rfl
theorem dr_cX17_told_44 : decode cX17_told 44 = .ok (.ifCond .ne 10, 3) := by decide +kernel
theorem dr_cX17_told_54 : decode cX17_told 54 = .ok (.iconst 0, 1) := by decide +kernel
theorem dr_cX17_told_55 : decode cX17_told 55 = .ok (.ireturn, 1) := by decide +kernel
theorem dr_cX17_told_47 : decode cX17_told 47 = .ok (.aload_n 0, 1) := by decide +kernel
theorem dr_cX17_told_48 : decode cX17_told 48 = .ok (.getfield 277, 3) := by decide +kernel
theorem wr_7_98 : (Jvm.Cond.fieldLink "SpillForgeModel" (277 : Nat) "SpillForgeModel" "answer" "I") ∈ gw := gw_7 98 rfl rfl
theorem dr_cX17_told_51 : decode cX17_told 51 = .ok (.goto 4, 3) := by decide +kernel
theorem dr_cX17_told_56 : decode cX17_told 56 = .ok (.aload_n 0, 1) := by decide +kernel
theorem dr_cX17_told_57 : decode cX17_told 57 = .ok (.getfield 280, 3) := by decide +kernel
theorem dr_cX17_told_60 : decode cX17_told 60 = .ok (.ireturn, 1) := by decide +kernel
theorem dr_cX17_told_61 : decode cX17_told 61 = .ok (.aload_n 0, 1) := by decide +kernel
theorem dr_cX17_told_62 : decode cX17_told 62 = .ok (.getfield 283, 3) := by decide +kernel
theorem wr_7_100 : (Jvm.Cond.fieldLink "SpillForgeModel" (283 : Nat) "SpillForgeModel" "steps" "I") ∈ gw := gw_7 100 rfl rfl
theorem dr_cX17_told_65 : decode cX17_told 65 = .ok (.ireturn, 1) := by decide +kernel
theorem dr_cX17_told_66 : decode cX17_told 66 = .ok (.aload_n 0, 1) := by decide +kernel
theorem dr_cX17_told_67 : decode cX17_told 67 = .ok (.getfield 286, 3) := by decide +kernel
theorem dr_cX17_told_70 : decode cX17_told 70 = .ok (.ireturn, 1) := by decide +kernel
theorem dr_cX17_told_71 : decode cX17_told 71 = .ok (.aload_n 0, 1) := by decide +kernel
theorem dr_cX17_told_72 : decode cX17_told 72 = .ok (.getfield 371, 3) := by decide +kernel
theorem dr_cX17_told_75 : decode cX17_told 75 = .ok (.ireturn, 1) := by decide +kernel
theorem dr_cX17_told_76 : decode cX17_told 76 = .ok (.aload_n 0, 1) := by decide +kernel
theorem dr_cX17_told_77 : decode cX17_told 77 = .ok (.iconst 1, 1) := by decide +kernel
theorem dr_cX17_told_78 : decode cX17_told 78 = .ok (.invokevirtual 385, 3) := by decide +kernel
theorem wr_7_191 : (Jvm.Cond.methodLink "SpillForgeModel" (385 : Nat) ({ cls := "SpillForgeModel", name := "no", desc := "(I)I" } : Jvm.MethodName)) ∈ gw := gw_7 191 rfl rfl
theorem wr_7_194 : (Jvm.Cond.code ({ cls := "SpillForgeModel", name := "no", desc := "(I)I" } : Jvm.MethodName) prog_14_method_37_code (2 : Nat) (Option.some Jvm.ClassFile.FieldType.int)) ∈ gw := gw_7 194 rfl rfl
theorem wr_7_193 : (Jvm.Cond.instanceMethod ({ cls := "SpillForgeModel", name := "no", desc := "(I)I" } : Jvm.MethodName)) ∈ gw := gw_7 193 rfl rfl
theorem wr_p_73 : Cond.selects "SpillForgeModel" ⟨"SpillForgeModel", "no", "(I)I"⟩ ⟨"SpillForgeModel", "no", "(I)I"⟩ ∈ gw := gw_p _ 73 rfl rfl rfl
theorem dr_cX17_told_81 : decode cX17_told 81 = .ok (.ireturn, 1) := by decide +kernel
abbrev ky_153177_SpillForgeModel_step : gKey := (cX17_step, 4, "SpillForgeModel", (some FieldType.int), [], "step", fun _ _ => True)
def pt_153177_SpillForgeModel_step (D : va_G) (I : FieldType → ClassId) (γ el : Nat → Nat → Nat) (P153173 : List Nat) (F153174 : Nat → va_E) (q153175 : Nat) (q153176 : Nat) : Option Value → va_W → Nat → Nat → Prop := fun r w dc ds => ∃ (F153421 : Nat → va_E) (o153420 : Int32), r = some (.int o153420) ∧ w = va_pl P153173 F153421 ∧ RS D I P153173 F153421 γ el ∧ rStr γ F153174 F153421 ∧ dc ≤ 0 ∧ ds ≤ 0 ∧ gB o153420 (-1) 5 ∧ (fI (F153421 q153175) 26).toInt = (fI (F153174 q153175) 26).toInt ∧ (fI (F153421 q153175) 32).toInt = (fI (F153174 q153175) 32).toInt
set_option maxRecDepth 100000 in
set_option maxHeartbeats 4000000 in
theorem ct_153177_SpillForgeModel_step (l : Launch) (hl0 : l.stackTraces = false) (D : va_G) (I : FieldType → ClassId) (γ el : Nat → Nat → Nat) (P153173 : List Nat) (F153174 : Nat → va_E) (q153175 : Nat) (q153176 : Nat) (hT : RS D I P153173 F153174 γ el) (htq153175 : rKd γ q153175 10) (htq153176 : rKd γ q153176 1) : CtA (gV D I) l yX17_step cX17_step 4 (some FieldType.int) 1 23 0 0 [.ref q153175, .ref q153176] (va_pl P153173 F153174) (pt_153177_SpillForgeModel_step D I γ el P153173 F153174 q153175 q153176) gNA := by
  refine CtA_of hl0 (by decide) (Nat.le_of_ble_eq_true rfl) ?_
  have hm153178 : q153175 ∈ P153173 := RS_m hT htq153175 (by decide)
  obtain ⟨q153180, q153181, p153182, p153183, p153184, p153185, p153186, p153187, p153188, p153189, p153190, p153191, p153192, p153193, p153194, p153195, p153196, he153179, hB153223, ht153197, ht153198, ht153199, ht153200, ht153201, ht153202, ht153203, ht153204, ht153205, ht153206, ht153207, ht153208, ht153209, ht153210, ht153211, ht153212, ht153213, ht153214, ht153215, ht153216, ht153217, ht153218, ht153219, ht153220, hB153224⟩ := show rk_10 γ (F153174 q153175) from RS_o hT htq153175
  refine G_aload_n 1 dr_cX17_step_0 rfl ?_
  have hm153225 : q153176 ∈ P153173 := RS_m hT htq153176 (by decide)
  obtain ⟨p153227, p153228, p153229, p153230, p153231, p153232, p153233, he153226, bp153227, bp153228, bp153231, bp153232, bp153233, r153234, r153235, r153236, r153237⟩ := show rk_1 γ q153176 (F153174 q153176) from RS_o hT htq153176
  have bp153229 := gB_any p153229
  have bp153230 := gB_any p153230
  refine Gp_get 0 hm153225 he153226 dr_cX17_step_1 (gk_X15 D I) (Nat.le_of_ble_eq_true rfl) wr_9_177 rfl ?_
  by_cases hs153238 : p153227 = 0
  · have ehs153238 : p153227.toInt = 0 := gj_eq hs153238 (show Int32.toInt 0 = 0 by decide)
    have bp153227' : gB p153227 0 0 := ⟨by omega, by omega⟩
    refine G_eqi (y := 0) hs153238 ?_
    refine G_lookup 198 dr_cX17_step_4 (by decide) (by first | rfl | decide) (by decide) ?_
    refine G_aload_n 0 dr_cX17_step_198 rfl ?_
    refine Gp_get 20 hm153178 he153179 dr_cX17_step_199 (gk_X17 D I) (Nat.le_of_ble_eq_true rfl) wr_7_94 rfl ?_
    refine G_aload_n 1 dr_cX17_step_202 rfl ?_
    refine Gp_get 1 hm153225 he153226 dr_cX17_step_203 (gk_X15 D I) (Nat.le_of_ble_eq_true rfl) wr_9_182 rfl ?_
    refine G_aload_n 0 dr_cX17_step_206 rfl ?_
    refine G_aload_n 1 dr_cX17_step_207 rfl ?_
    refine Gp_get 5 hm153225 he153226 dr_cX17_step_208 (gk_X15 D I) (Nat.le_of_ble_eq_true rfl) wr_9_197 rfl ?_
    refine G_aload_n 1 dr_cX17_step_211 rfl ?_
    refine Gp_get 2 hm153225 he153226 dr_cX17_step_212 (gk_X15 D I) (Nat.le_of_ble_eq_true rfl) wr_9_186 rfl ?_
    refine Gw_callV (As := [.int p153232, .int p153229]) (gV_ok D I) (ct_5682_SpillForgeModel_value l hl0 D I γ el P153173 F153174 q153175 p153232 p153229 hT htq153175 bp153232 (by omega)) dr_cX17_step_215 ⟨wr_11_100, wr_1_14, wr_11_103, by decide, rfl, (Nat.le_of_ble_eq_true rfl), (Nat.le_of_ble_eq_true rfl)⟩ wr_11_102 wr_p_115 hm153178 he153179 rfl (show 0 + 0 ≤ 0 by first | omega | decide) (show 0 + 0 ≤ 0 by first | omega | decide) (Nat.le_of_ble_eq_true rfl) (fun r153242 w153243 dc153239 ds153240 hp153241 => ?_) (fun _ _ _ _ _ z => z.elim)
    obtain ⟨o153244, rfl, rfl, hdc, hds⟩ := hp153241
    have bo153244 := gB_any o153244
    change G _ _ _ _ _ _ _ (.int o153244 :: _) _ _ _
    refine G_widen (cs' := 0) (sl' := 0) (by omega) (by omega) ?_
    have hm153245 : (γ 9 20) ∈ P153173 := RS_m hT ht153213 (by decide)
    obtain ⟨f153247, he153246⟩ := show rk_22 I (F153174 (γ 9 20)) from RS_o hT ht153213
    refine Gp_iast 0 hm153245 he153246 dr_cX17_step_218 rfl (gB_in bp153228 (by decide) (by decide)) (fun F153248 e153249 n153250 => ?_)
    obtain ⟨f153251, hf153251⟩ : ∃ z, z = upd f153247 p153228.toNatClampNeg o153244 := ⟨_, rfl⟩
    rw [← hf153251] at e153249
    have he153252 : F153248 q153175 = .inr (22, [.ref (γ 9 0), .ref (γ 9 1), .ref (γ 9 2), .ref (γ 9 3), .ref (γ 9 4), .ref (γ 9 5), .ref (γ 9 6), .ref (γ 9 7), .ref (γ 9 8), .int p153182, .int p153183, .int p153184, .int p153185, .int p153186, .int p153187, .ref (γ 9 15), .ref (γ 9 16), .ref (γ 9 17), .ref (γ 9 18), .ref (γ 9 19), .ref (γ 9 20), .ref (γ 9 21), .ref (γ 9 22), .int p153188, .int p153189, .int p153190, .int p153191, .int p153192, .ref q153180, .ref (γ 9 29), .int p153193, .ref (γ 9 31), .int p153194, .int p153195, .int p153196, .ref q153181]) := (n153250 q153175 (rn_oa he153179 he153246)).trans he153179
    have he153253 : F153248 q153176 = .inr (20, [.int p153227, .int p153228, .int p153229, .int p153230, .int p153231, .int p153232, .int p153233]) := (n153250 q153176 (rn_oa he153226 he153246)).trans he153226
    have he153254 : F153248 (γ 9 20) = .inl (I .int, 2000, .inl f153251) := e153249
    have hs153255 : rStr γ F153174 F153248 := rStr_put (rStr_rf (γ := γ) (F := F153174)) n153250 ht153213 (by decide)
    refine G_iconst (-1) dr_cX17_step_219 (by decide +kernel) ?_
    have hT153256 : RS D I P153173 F153248 γ el := RS_set hT n153250 ht153213 (by decide) ⟨f153251, he153254⟩
    exact G_iretA dr_cX17_step_220 rfl (Nat.le_of_ble_eq_true rfl) (Nat.le_of_ble_eq_true rfl) ⟨F153248, (-1), rfl, rfl, hT153256, hs153255, (Nat.le_of_ble_eq_true rfl), (Nat.le_of_ble_eq_true rfl), (gB_w (gBl (show Int32.toInt (-1) = (-1) by decide)) (by decide) (by decide)), (by rw [show fI (F153248 q153175) 26 = p153191 from by rw [he153252]; rfl, show fI (F153174 q153175) 26 = p153191 from by rw [he153179]; rfl] <;> (have qa0 : Int32.toInt (-1) = (-1) := (by decide); omega)), (by rw [show fI (F153248 q153175) 32 = p153194 from by rw [he153252]; rfl, show fI (F153174 q153175) 32 = p153194 from by rw [he153179]; rfl] <;> (have qa0 : Int32.toInt (-1) = (-1) := (by decide); omega))⟩
  by_cases hs153257 : p153227 = 20
  · have ehs153257 : p153227.toInt = 20 := gj_eq hs153257 (show Int32.toInt 20 = 20 by decide)
    have bp153227' : gB p153227 20 20 := ⟨by omega, by omega⟩
    refine G_eqi (y := 20) hs153257 ?_
    refine G_lookup 56 dr_cX17_step_4 (by decide) (by first | rfl | decide) (by decide) ?_
    refine G_aload_n 0 dr_cX17_step_56 rfl ?_
    refine Gp_get 20 hm153178 he153179 dr_cX17_step_57 (gk_X17 D I) (Nat.le_of_ble_eq_true rfl) wr_7_94 rfl ?_
    refine G_aload_n 1 dr_cX17_step_60 rfl ?_
    refine Gp_get 1 hm153225 he153226 dr_cX17_step_61 (gk_X15 D I) (Nat.le_of_ble_eq_true rfl) wr_9_182 rfl ?_
    refine G_aload_n 0 dr_cX17_step_64 rfl ?_
    refine Gp_get 27 hm153178 he153179 dr_cX17_step_65 (gk_X17 D I) (Nat.le_of_ble_eq_true rfl) wr_7_101 rfl ?_
    have bp153192 : gB p153192 0 2048 := (hB153223.2.2.2.2.2.2.1)
    refine G_aload_n 0 dr_cX17_step_68 rfl ?_
    refine Gp_get 28 hm153178 he153179 dr_cX17_step_69 (gk_X17 D I) (Nat.le_of_ble_eq_true rfl) wr_7_102 rfl ?_
    have hm153258 : q153180 ∈ P153173 := RS_m hT ht153197 (by decide)
    obtain ⟨n153261, f153260, he153259, hn153261⟩ := show rk_26 I (F153174 q153180) from RS_o hT ht153197
    refine Gp_alen (Int32.ofNat n153261) 0 hm153258 he153259 dr_cX17_step_72 rfl rfl (G_nam fun z153262 hz153262 => ?_)
    have ez153262 : z153262.toInt = (n153261 : Nat) := gI_ofM hz153262 (by omega)
    have bz153262 : gB z153262 0 16777216 := ⟨by omega, by omega⟩
    refine G_icmp_ge 88 dr_cX17_step_73 (by decide +kernel) (fun hc153263 => ?_) (fun hc153263 => ?_)
    · have r153264 : z153262.toInt ≤ p153192.toInt := gC_le hc153263
      have bz153262' : gB z153262 0 2048 := ⟨by omega, by omega⟩
      refine G_iconst 0 dr_cX17_step_88 (by decide +kernel) ?_
      have hm153265 : (γ 9 20) ∈ P153173 := RS_m hT ht153213 (by decide)
      obtain ⟨f153267, he153266⟩ := show rk_22 I (F153174 (γ 9 20)) from RS_o hT ht153213
      refine Gp_iast 0 hm153265 he153266 dr_cX17_step_89 rfl (gB_in bp153228 (by decide) (by decide)) (fun F153268 e153269 n153270 => ?_)
      obtain ⟨f153271, hf153271⟩ : ∃ z, z = upd f153267 p153228.toNatClampNeg 0 := ⟨_, rfl⟩
      rw [← hf153271] at e153269
      have he153272 : F153268 q153175 = .inr (22, [.ref (γ 9 0), .ref (γ 9 1), .ref (γ 9 2), .ref (γ 9 3), .ref (γ 9 4), .ref (γ 9 5), .ref (γ 9 6), .ref (γ 9 7), .ref (γ 9 8), .int p153182, .int p153183, .int p153184, .int p153185, .int p153186, .int p153187, .ref (γ 9 15), .ref (γ 9 16), .ref (γ 9 17), .ref (γ 9 18), .ref (γ 9 19), .ref (γ 9 20), .ref (γ 9 21), .ref (γ 9 22), .int p153188, .int p153189, .int p153190, .int p153191, .int p153192, .ref q153180, .ref (γ 9 29), .int p153193, .ref (γ 9 31), .int p153194, .int p153195, .int p153196, .ref q153181]) := (n153270 q153175 (rn_oa he153179 he153266)).trans he153179
      have he153273 : F153268 q153176 = .inr (20, [.int p153227, .int p153228, .int p153229, .int p153230, .int p153231, .int p153232, .int p153233]) := (n153270 q153176 (rn_oa he153226 he153266)).trans he153226
      have he153274 : F153268 q153180 = .inl (I .int, n153261, .inl f153260) := (n153270 q153180 (rn_ty ht153197 ht153213 (by decide))).trans he153259
      have he153275 : F153268 (γ 9 20) = .inl (I .int, 2000, .inl f153271) := e153269
      have hs153276 : rStr γ F153174 F153268 := rStr_put (rStr_rf (γ := γ) (F := F153174)) n153270 ht153213 (by decide)
      refine G_aload_n 0 dr_cX17_step_90 rfl ?_
      refine G_aload_n 0 dr_cX17_step_91 rfl ?_
      refine Gp_get 27 hm153178 he153272 dr_cX17_step_92 (gk_X17 D I) (Nat.le_of_ble_eq_true rfl) wr_7_101 rfl ?_
      refine G_iconst 1 dr_cX17_step_95 (by decide +kernel) ?_
      refine G_iadd dr_cX17_step_96 (G_nam fun z153277 hz153277 => ?_)
      have ez153277 : z153277.toInt = p153192.toInt + 1 := by rw [gI_add hz153277 bp153192 (gBl (show Int32.toInt 1 = 1 by decide)) (by decide) (by decide), show Int32.toInt 1 = 1 from by decide]
      have bz153277 : gB z153277 1 2049 := gB_add (gI_add hz153277 bp153192 (gBl (show Int32.toInt 1 = 1 by decide)) (by decide) (by decide)) bp153192 (gBl (show Int32.toInt 1 = 1 by decide)) (by decide) (by decide)
      refine G_aload_n 0 dr_cX17_step_97 rfl ?_
      refine Gp_get 28 hm153178 he153272 dr_cX17_step_98 (gk_X17 D I) (Nat.le_of_ble_eq_true rfl) wr_7_102 rfl ?_
      refine Gp_alen (Int32.ofNat n153261) 0 hm153258 he153274 dr_cX17_step_101 rfl rfl (G_nam fun z153278 hz153278 => ?_)
      have ez153278 : z153278.toInt = (n153261 : Nat) := gI_ofM hz153278 (by omega)
      have bz153278 : gB z153278 0 16777216 := ⟨by omega, by omega⟩
      refine G_mmin dr_cX17_step_102 wr_11_20 wr_3_227 wr_1_6 wr_3_228 (Nat.le_of_ble_eq_true rfl) (Nat.le_of_ble_eq_true rfl) (show 0 ≤ 0 by first | omega | decide) (show 0 ≤ 0 by first | omega | decide) (G_nam fun z153279 hz153279 => ?_)
      have ez153279 : z153277.toInt ≥ z153279.toInt ∧ z153278.toInt ≥ z153279.toInt ∧ (z153279.toInt = z153277.toInt ∨ z153279.toInt = z153278.toInt) := by have := gI_min hz153279; omega
      have bz153279 : gB z153279 0 2049 := ⟨by omega, by omega⟩
      have hT153280 : RS D I P153173 F153268 γ el := RS_set hT n153270 ht153213 (by decide) ⟨f153271, he153275⟩
      refine Gp_put 27 hm153178 he153272 dr_cX17_step_105 (gk_X17 D I) (Nat.le_of_ble_eq_true rfl) wr_7_101 rfl rfl rfl (Nat.le_of_ble_eq_true rfl) (fun F153281 e153282 n153283 => ?_)
      have he153284 : F153281 q153176 = .inr (20, [.int p153227, .int p153228, .int p153229, .int p153230, .int p153231, .int p153232, .int p153233]) := (n153283 q153176 (rn_oo he153273 he153272 (by decide))).trans he153273
      have he153285 : F153281 q153180 = .inl (I .int, n153261, .inl f153260) := (n153283 q153180 (rn_ao he153274 he153272)).trans he153274
      have he153286 : F153281 (γ 9 20) = .inl (I .int, 2000, .inl f153271) := (n153283 (γ 9 20) (rn_ao he153275 he153272)).trans he153275
      have he153287 : F153281 q153175 = .inr (22, [.ref (γ 9 0), .ref (γ 9 1), .ref (γ 9 2), .ref (γ 9 3), .ref (γ 9 4), .ref (γ 9 5), .ref (γ 9 6), .ref (γ 9 7), .ref (γ 9 8), .int p153182, .int p153183, .int p153184, .int p153185, .int p153186, .int p153187, .ref (γ 9 15), .ref (γ 9 16), .ref (γ 9 17), .ref (γ 9 18), .ref (γ 9 19), .ref (γ 9 20), .ref (γ 9 21), .ref (γ 9 22), .int p153188, .int p153189, .int p153190, .int p153191, .int z153279, .ref q153180, .ref (γ 9 29), .int p153193, .ref (γ 9 31), .int p153194, .int p153195, .int p153196, .ref q153181]) := e153282
      have hs153288 : rStr γ F153174 F153281 := rStr_put hs153276 n153283 htq153175 (by decide)
      refine G_iconst (-1) dr_cX17_step_108 (by decide +kernel) ?_
      have hT153289 : RS D I P153173 F153281 γ el := RS_set hT153280 n153283 htq153175 (by decide) ⟨q153180, q153181, p153182, p153183, p153184, p153185, p153186, p153187, p153188, p153189, p153190, p153191, z153279, p153193, p153194, p153195, p153196, he153287, ⟨(hB153223.1), (hB153223.2.1), (hB153223.2.2.1), (hB153223.2.2.2.1), (hB153223.2.2.2.2.1), (hB153223.2.2.2.2.2.1), ⟨by omega, by omega⟩, (hB153223.2.2.2.2.2.2.2.1), (hB153223.2.2.2.2.2.2.2.2)⟩, ht153197, ht153198, ht153199, ht153200, ht153201, ht153202, ht153203, ht153204, ht153205, ht153206, ht153207, ht153208, ht153209, ht153210, ht153211, ht153212, ht153213, ht153214, ht153215, ht153216, ht153217, ht153218, ht153219, ht153220, hB153224⟩
      exact G_iretA dr_cX17_step_109 rfl (Nat.le_of_ble_eq_true rfl) (Nat.le_of_ble_eq_true rfl) ⟨F153281, (-1), rfl, rfl, hT153289, hs153288, (Nat.le_of_ble_eq_true rfl), (Nat.le_of_ble_eq_true rfl), (gB_w (gBl (show Int32.toInt (-1) = (-1) by decide)) (by decide) (by decide)), (by rw [show fI (F153281 q153175) 26 = p153191 from by rw [he153287]; rfl, show fI (F153174 q153175) 26 = p153191 from by rw [he153179]; rfl] <;> (have qa0 : Int32.toInt (-1) = (-1) := (by decide); omega)), (by rw [show fI (F153281 q153175) 32 = p153194 from by rw [he153287]; rfl, show fI (F153174 q153175) 32 = p153194 from by rw [he153179]; rfl] <;> (have qa0 : Int32.toInt (-1) = (-1) := (by decide); omega))⟩
    · have r153290 : p153192.toInt < z153262.toInt := gC_nle hc153263
      have bz153262' : gB z153262 1 16777216 := ⟨by omega, by omega⟩
      refine G_aload_n 0 dr_cX17_step_76 rfl ?_
      refine Gp_get 28 hm153178 he153179 dr_cX17_step_77 (gk_X17 D I) (Nat.le_of_ble_eq_true rfl) wr_7_102 rfl ?_
      refine G_aload_n 0 dr_cX17_step_80 rfl ?_
      refine Gp_get 27 hm153178 he153179 dr_cX17_step_81 (gk_X17 D I) (Nat.le_of_ble_eq_true rfl) wr_7_101 rfl ?_
      refine Gp_iald 0 hm153258 he153259 dr_cX17_step_84 rfl (gB_inr (by omega) (by omega)) (G_nam fun z153291 hz153291 => ?_)
      have bz153291 : gB z153291 (-2147483648) 2147483647 := gB_any z153291
      refine G_goto 89 dr_cX17_step_85 (by decide +kernel) ?_
      have hm153292 : (γ 9 20) ∈ P153173 := RS_m hT ht153213 (by decide)
      obtain ⟨f153294, he153293⟩ := show rk_22 I (F153174 (γ 9 20)) from RS_o hT ht153213
      refine Gp_iast 0 hm153292 he153293 dr_cX17_step_89 rfl (gB_in bp153228 (by decide) (by decide)) (fun F153295 e153296 n153297 => ?_)
      obtain ⟨f153298, hf153298⟩ : ∃ z, z = upd f153294 p153228.toNatClampNeg z153291 := ⟨_, rfl⟩
      rw [← hf153298] at e153296
      have he153299 : F153295 q153175 = .inr (22, [.ref (γ 9 0), .ref (γ 9 1), .ref (γ 9 2), .ref (γ 9 3), .ref (γ 9 4), .ref (γ 9 5), .ref (γ 9 6), .ref (γ 9 7), .ref (γ 9 8), .int p153182, .int p153183, .int p153184, .int p153185, .int p153186, .int p153187, .ref (γ 9 15), .ref (γ 9 16), .ref (γ 9 17), .ref (γ 9 18), .ref (γ 9 19), .ref (γ 9 20), .ref (γ 9 21), .ref (γ 9 22), .int p153188, .int p153189, .int p153190, .int p153191, .int p153192, .ref q153180, .ref (γ 9 29), .int p153193, .ref (γ 9 31), .int p153194, .int p153195, .int p153196, .ref q153181]) := (n153297 q153175 (rn_oa he153179 he153293)).trans he153179
      have he153300 : F153295 q153176 = .inr (20, [.int p153227, .int p153228, .int p153229, .int p153230, .int p153231, .int p153232, .int p153233]) := (n153297 q153176 (rn_oa he153226 he153293)).trans he153226
      have he153301 : F153295 q153180 = .inl (I .int, n153261, .inl f153260) := (n153297 q153180 (rn_ty ht153197 ht153213 (by decide))).trans he153259
      have he153302 : F153295 (γ 9 20) = .inl (I .int, 2000, .inl f153298) := e153296
      have hs153303 : rStr γ F153174 F153295 := rStr_put (rStr_rf (γ := γ) (F := F153174)) n153297 ht153213 (by decide)
      refine G_aload_n 0 dr_cX17_step_90 rfl ?_
      refine G_aload_n 0 dr_cX17_step_91 rfl ?_
      refine Gp_get 27 hm153178 he153299 dr_cX17_step_92 (gk_X17 D I) (Nat.le_of_ble_eq_true rfl) wr_7_101 rfl ?_
      refine G_iconst 1 dr_cX17_step_95 (by decide +kernel) ?_
      refine G_iadd dr_cX17_step_96 (G_nam fun z153304 hz153304 => ?_)
      have ez153304 : z153304.toInt = p153192.toInt + 1 := by rw [gI_add hz153304 bp153192 (gBl (show Int32.toInt 1 = 1 by decide)) (by decide) (by decide), show Int32.toInt 1 = 1 from by decide]
      have bz153304 : gB z153304 1 2049 := gB_add (gI_add hz153304 bp153192 (gBl (show Int32.toInt 1 = 1 by decide)) (by decide) (by decide)) bp153192 (gBl (show Int32.toInt 1 = 1 by decide)) (by decide) (by decide)
      refine G_aload_n 0 dr_cX17_step_97 rfl ?_
      refine Gp_get 28 hm153178 he153299 dr_cX17_step_98 (gk_X17 D I) (Nat.le_of_ble_eq_true rfl) wr_7_102 rfl ?_
      refine Gp_alen (Int32.ofNat n153261) 0 hm153258 he153301 dr_cX17_step_101 rfl rfl (G_nam fun z153305 hz153305 => ?_)
      have ez153305 : z153305.toInt = (n153261 : Nat) := gI_ofM hz153305 (by omega)
      have bz153305 : gB z153305 0 16777216 := ⟨by omega, by omega⟩
      refine G_mmin dr_cX17_step_102 wr_11_20 wr_3_227 wr_1_6 wr_3_228 (Nat.le_of_ble_eq_true rfl) (Nat.le_of_ble_eq_true rfl) (show 0 ≤ 0 by first | omega | decide) (show 0 ≤ 0 by first | omega | decide) (G_nam fun z153306 hz153306 => ?_)
      have ez153306 : z153304.toInt ≥ z153306.toInt ∧ z153305.toInt ≥ z153306.toInt ∧ (z153306.toInt = z153304.toInt ∨ z153306.toInt = z153305.toInt) := by have := gI_min hz153306; omega
      have bz153306 : gB z153306 0 2049 := ⟨by omega, by omega⟩
      have hT153307 : RS D I P153173 F153295 γ el := RS_set hT n153297 ht153213 (by decide) ⟨f153298, he153302⟩
      refine Gp_put 27 hm153178 he153299 dr_cX17_step_105 (gk_X17 D I) (Nat.le_of_ble_eq_true rfl) wr_7_101 rfl rfl rfl (Nat.le_of_ble_eq_true rfl) (fun F153308 e153309 n153310 => ?_)
      have he153311 : F153308 q153176 = .inr (20, [.int p153227, .int p153228, .int p153229, .int p153230, .int p153231, .int p153232, .int p153233]) := (n153310 q153176 (rn_oo he153300 he153299 (by decide))).trans he153300
      have he153312 : F153308 q153180 = .inl (I .int, n153261, .inl f153260) := (n153310 q153180 (rn_ao he153301 he153299)).trans he153301
      have he153313 : F153308 (γ 9 20) = .inl (I .int, 2000, .inl f153298) := (n153310 (γ 9 20) (rn_ao he153302 he153299)).trans he153302
      have he153314 : F153308 q153175 = .inr (22, [.ref (γ 9 0), .ref (γ 9 1), .ref (γ 9 2), .ref (γ 9 3), .ref (γ 9 4), .ref (γ 9 5), .ref (γ 9 6), .ref (γ 9 7), .ref (γ 9 8), .int p153182, .int p153183, .int p153184, .int p153185, .int p153186, .int p153187, .ref (γ 9 15), .ref (γ 9 16), .ref (γ 9 17), .ref (γ 9 18), .ref (γ 9 19), .ref (γ 9 20), .ref (γ 9 21), .ref (γ 9 22), .int p153188, .int p153189, .int p153190, .int p153191, .int z153306, .ref q153180, .ref (γ 9 29), .int p153193, .ref (γ 9 31), .int p153194, .int p153195, .int p153196, .ref q153181]) := e153309
      have hs153315 : rStr γ F153174 F153308 := rStr_put hs153303 n153310 htq153175 (by decide)
      refine G_iconst (-1) dr_cX17_step_108 (by decide +kernel) ?_
      have hT153316 : RS D I P153173 F153308 γ el := RS_set hT153307 n153310 htq153175 (by decide) ⟨q153180, q153181, p153182, p153183, p153184, p153185, p153186, p153187, p153188, p153189, p153190, p153191, z153306, p153193, p153194, p153195, p153196, he153314, ⟨(hB153223.1), (hB153223.2.1), (hB153223.2.2.1), (hB153223.2.2.2.1), (hB153223.2.2.2.2.1), (hB153223.2.2.2.2.2.1), ⟨by omega, by omega⟩, (hB153223.2.2.2.2.2.2.2.1), (hB153223.2.2.2.2.2.2.2.2)⟩, ht153197, ht153198, ht153199, ht153200, ht153201, ht153202, ht153203, ht153204, ht153205, ht153206, ht153207, ht153208, ht153209, ht153210, ht153211, ht153212, ht153213, ht153214, ht153215, ht153216, ht153217, ht153218, ht153219, ht153220, hB153224⟩
      exact G_iretA dr_cX17_step_109 rfl (Nat.le_of_ble_eq_true rfl) (Nat.le_of_ble_eq_true rfl) ⟨F153308, (-1), rfl, rfl, hT153316, hs153315, (Nat.le_of_ble_eq_true rfl), (Nat.le_of_ble_eq_true rfl), (gB_w (gBl (show Int32.toInt (-1) = (-1) by decide)) (by decide) (by decide)), (by rw [show fI (F153308 q153175) 26 = p153191 from by rw [he153314]; rfl, show fI (F153174 q153175) 26 = p153191 from by rw [he153179]; rfl] <;> (have qa0 : Int32.toInt (-1) = (-1) := (by decide); omega)), (by rw [show fI (F153308 q153175) 32 = p153194 from by rw [he153314]; rfl, show fI (F153174 q153175) 32 = p153194 from by rw [he153179]; rfl] <;> (have qa0 : Int32.toInt (-1) = (-1) := (by decide); omega))⟩
  by_cases hs153317 : p153227 = 21
  · have ehs153317 : p153227.toInt = 21 := gj_eq hs153317 (show Int32.toInt 21 = 21 by decide)
    have bp153227' : gB p153227 21 21 := ⟨by omega, by omega⟩
    refine G_eqi (y := 21) hs153317 ?_
    refine G_lookup 155 dr_cX17_step_4 (by decide) (by first | rfl | decide) (by decide) ?_
    refine G_aload_n 0 dr_cX17_step_155 rfl ?_
    refine Gp_get 20 hm153178 he153179 dr_cX17_step_156 (gk_X17 D I) (Nat.le_of_ble_eq_true rfl) wr_7_94 rfl ?_
    refine G_aload_n 1 dr_cX17_step_159 rfl ?_
    refine Gp_get 1 hm153225 he153226 dr_cX17_step_160 (gk_X15 D I) (Nat.le_of_ble_eq_true rfl) wr_9_182 rfl ?_
    refine G_aload_n 0 dr_cX17_step_163 rfl ?_
    refine Gp_get 21 hm153178 he153179 dr_cX17_step_164 (gk_X17 D I) (Nat.le_of_ble_eq_true rfl) wr_7_95 rfl ?_
    refine G_aload_n 1 dr_cX17_step_167 rfl ?_
    refine Gp_get 4 hm153225 he153226 dr_cX17_step_168 (gk_X15 D I) (Nat.le_of_ble_eq_true rfl) wr_9_193 rfl ?_
    have hm153318 : (γ 9 21) ∈ P153173 := RS_m hT ht153214 (by decide)
    obtain ⟨f153320, he153319⟩ := show rk_23 I (F153174 (γ 9 21)) from RS_o hT ht153214
    refine Gp_iald 0 hm153318 he153319 dr_cX17_step_171 rfl (gB_in bp153231 (by decide) (by decide)) (G_nam fun z153321 hz153321 => ?_)
    have bz153321 : gB z153321 (-2147483648) 2147483647 := gB_any z153321
    have hm153322 : (γ 9 20) ∈ P153173 := RS_m hT ht153213 (by decide)
    obtain ⟨f153324, he153323⟩ := show rk_22 I (F153174 (γ 9 20)) from RS_o hT ht153213
    refine Gp_iast 0 hm153322 he153323 dr_cX17_step_172 rfl (gB_in bp153228 (by decide) (by decide)) (fun F153325 e153326 n153327 => ?_)
    obtain ⟨f153328, hf153328⟩ : ∃ z, z = upd f153324 p153228.toNatClampNeg z153321 := ⟨_, rfl⟩
    rw [← hf153328] at e153326
    have he153329 : F153325 q153175 = .inr (22, [.ref (γ 9 0), .ref (γ 9 1), .ref (γ 9 2), .ref (γ 9 3), .ref (γ 9 4), .ref (γ 9 5), .ref (γ 9 6), .ref (γ 9 7), .ref (γ 9 8), .int p153182, .int p153183, .int p153184, .int p153185, .int p153186, .int p153187, .ref (γ 9 15), .ref (γ 9 16), .ref (γ 9 17), .ref (γ 9 18), .ref (γ 9 19), .ref (γ 9 20), .ref (γ 9 21), .ref (γ 9 22), .int p153188, .int p153189, .int p153190, .int p153191, .int p153192, .ref q153180, .ref (γ 9 29), .int p153193, .ref (γ 9 31), .int p153194, .int p153195, .int p153196, .ref q153181]) := (n153327 q153175 (rn_oa he153179 he153323)).trans he153179
    have he153330 : F153325 q153176 = .inr (20, [.int p153227, .int p153228, .int p153229, .int p153230, .int p153231, .int p153232, .int p153233]) := (n153327 q153176 (rn_oa he153226 he153323)).trans he153226
    have he153331 : F153325 (γ 9 21) = .inl (I .int, 2000, .inl f153320) := (n153327 (γ 9 21) (rn_ty ht153214 ht153213 (by decide))).trans he153319
    have he153332 : F153325 (γ 9 20) = .inl (I .int, 2000, .inl f153328) := e153326
    have hs153333 : rStr γ F153174 F153325 := rStr_put (rStr_rf (γ := γ) (F := F153174)) n153327 ht153213 (by decide)
    refine G_iconst (-1) dr_cX17_step_173 (by decide +kernel) ?_
    have hT153334 : RS D I P153173 F153325 γ el := RS_set hT n153327 ht153213 (by decide) ⟨f153328, he153332⟩
    exact G_iretA dr_cX17_step_174 rfl (Nat.le_of_ble_eq_true rfl) (Nat.le_of_ble_eq_true rfl) ⟨F153325, (-1), rfl, rfl, hT153334, hs153333, (Nat.le_of_ble_eq_true rfl), (Nat.le_of_ble_eq_true rfl), (gB_w (gBl (show Int32.toInt (-1) = (-1) by decide)) (by decide) (by decide)), (by rw [show fI (F153325 q153175) 26 = p153191 from by rw [he153329]; rfl, show fI (F153174 q153175) 26 = p153191 from by rw [he153179]; rfl] <;> (have qa0 : Int32.toInt (-1) = (-1) := (by decide); omega)), (by rw [show fI (F153325 q153175) 32 = p153194 from by rw [he153329]; rfl, show fI (F153174 q153175) 32 = p153194 from by rw [he153179]; rfl] <;> (have qa0 : Int32.toInt (-1) = (-1) := (by decide); omega))⟩
  by_cases hs153335 : p153227 = 22
  · have ehs153335 : p153227.toInt = 22 := gj_eq hs153335 (show Int32.toInt 22 = 22 by decide)
    have bp153227' : gB p153227 22 22 := ⟨by omega, by omega⟩
    refine G_eqi (y := 22) hs153335 ?_
    refine G_lookup 110 dr_cX17_step_4 (by decide) (by first | rfl | decide) (by decide) ?_
    refine G_aload_n 0 dr_cX17_step_110 rfl ?_
    refine Gp_get 25 hm153178 he153179 dr_cX17_step_111 (gk_X17 D I) (Nat.le_of_ble_eq_true rfl) wr_7_99 rfl ?_
    have bp153190 : gB p153190 0 512 := (hB153223.2.2.2.2.1)
    refine G_sipush 512 dr_cX17_step_114 (by decide +kernel) ?_
    refine G_icmp_ne 122 dr_cX17_step_117 (by decide +kernel) (fun hc153336 => ?_) (fun hc153336 => ?_)
    · have r153337 : p153190.toInt ≠ 512 := gj_neq hc153336 (show Int32.toInt 512 = 512 by decide)
      have bp153190' : gB p153190 0 511 := ⟨by omega, by omega⟩
      refine G_aload_n 0 dr_cX17_step_122 rfl ?_
      refine Gp_get 22 hm153178 he153179 dr_cX17_step_123 (gk_X17 D I) (Nat.le_of_ble_eq_true rfl) wr_7_96 rfl ?_
      refine G_aload_n 0 dr_cX17_step_126 rfl ?_
      refine Gp_get 25 hm153178 he153179 dr_cX17_step_127 (gk_X17 D I) (Nat.le_of_ble_eq_true rfl) wr_7_99 rfl ?_
      refine G_aload_n 0 dr_cX17_step_130 rfl ?_
      refine G_aload_n 1 dr_cX17_step_131 rfl ?_
      refine Gp_get 5 hm153225 he153226 dr_cX17_step_132 (gk_X15 D I) (Nat.le_of_ble_eq_true rfl) wr_9_197 rfl ?_
      refine G_aload_n 1 dr_cX17_step_135 rfl ?_
      refine Gp_get 2 hm153225 he153226 dr_cX17_step_136 (gk_X15 D I) (Nat.le_of_ble_eq_true rfl) wr_9_186 rfl ?_
      refine Gw_callV (As := [.int p153232, .int p153229]) (gV_ok D I) (ct_5682_SpillForgeModel_value l hl0 D I γ el P153173 F153174 q153175 p153232 p153229 hT htq153175 bp153232 (by omega)) dr_cX17_step_139 ⟨wr_11_100, wr_1_14, wr_11_103, by decide, rfl, (Nat.le_of_ble_eq_true rfl), (Nat.le_of_ble_eq_true rfl)⟩ wr_11_102 wr_p_115 hm153178 he153179 rfl (show 0 + 0 ≤ 0 by first | omega | decide) (show 0 + 0 ≤ 0 by first | omega | decide) (Nat.le_of_ble_eq_true rfl) (fun r153341 w153342 dc153338 ds153339 hp153340 => ?_) (fun _ _ _ _ _ z => z.elim)
      obtain ⟨o153343, rfl, rfl, hdc, hds⟩ := hp153340
      have bo153343 := gB_any o153343
      change G _ _ _ _ _ _ _ (.int o153343 :: _) _ _ _
      refine G_widen (cs' := 0) (sl' := 0) (by omega) (by omega) ?_
      have hm153344 : (γ 9 22) ∈ P153173 := RS_m hT ht153215 (by decide)
      obtain ⟨f153346, he153345⟩ := show rk_24 I (F153174 (γ 9 22)) from RS_o hT ht153215
      refine Gp_iast 0 hm153344 he153345 dr_cX17_step_142 rfl (gB_in bp153190' (by decide) (by decide)) (fun F153347 e153348 n153349 => ?_)
      obtain ⟨f153350, hf153350⟩ : ∃ z, z = upd f153346 p153190.toNatClampNeg o153343 := ⟨_, rfl⟩
      rw [← hf153350] at e153348
      have he153351 : F153347 q153175 = .inr (22, [.ref (γ 9 0), .ref (γ 9 1), .ref (γ 9 2), .ref (γ 9 3), .ref (γ 9 4), .ref (γ 9 5), .ref (γ 9 6), .ref (γ 9 7), .ref (γ 9 8), .int p153182, .int p153183, .int p153184, .int p153185, .int p153186, .int p153187, .ref (γ 9 15), .ref (γ 9 16), .ref (γ 9 17), .ref (γ 9 18), .ref (γ 9 19), .ref (γ 9 20), .ref (γ 9 21), .ref (γ 9 22), .int p153188, .int p153189, .int p153190, .int p153191, .int p153192, .ref q153180, .ref (γ 9 29), .int p153193, .ref (γ 9 31), .int p153194, .int p153195, .int p153196, .ref q153181]) := (n153349 q153175 (rn_oa he153179 he153345)).trans he153179
      have he153352 : F153347 q153176 = .inr (20, [.int p153227, .int p153228, .int p153229, .int p153230, .int p153231, .int p153232, .int p153233]) := (n153349 q153176 (rn_oa he153226 he153345)).trans he153226
      have he153353 : F153347 (γ 9 22) = .inl (I .int, 512, .inl f153350) := e153348
      have hs153354 : rStr γ F153174 F153347 := rStr_put (rStr_rf (γ := γ) (F := F153174)) n153349 ht153215 (by decide)
      refine G_aload_n 0 dr_cX17_step_143 rfl ?_
      refine G_dup dr_cX17_step_144 rfl ?_
      refine Gp_get 25 hm153178 he153351 dr_cX17_step_145 (gk_X17 D I) (Nat.le_of_ble_eq_true rfl) wr_7_99 rfl ?_
      refine G_iconst 1 dr_cX17_step_148 (by decide +kernel) ?_
      refine G_iadd dr_cX17_step_149 (G_nam fun z153355 hz153355 => ?_)
      have ez153355 : z153355.toInt = p153190.toInt + 1 := by rw [gI_add hz153355 bp153190' (gBl (show Int32.toInt 1 = 1 by decide)) (by decide) (by decide), show Int32.toInt 1 = 1 from by decide]
      have bz153355 : gB z153355 1 512 := gB_add (gI_add hz153355 bp153190' (gBl (show Int32.toInt 1 = 1 by decide)) (by decide) (by decide)) bp153190' (gBl (show Int32.toInt 1 = 1 by decide)) (by decide) (by decide)
      have hT153356 : RS D I P153173 F153347 γ el := RS_set hT n153349 ht153215 (by decide) ⟨f153350, he153353⟩
      refine Gp_put 25 hm153178 he153351 dr_cX17_step_150 (gk_X17 D I) (Nat.le_of_ble_eq_true rfl) wr_7_99 rfl rfl rfl (Nat.le_of_ble_eq_true rfl) (fun F153357 e153358 n153359 => ?_)
      have he153360 : F153357 q153176 = .inr (20, [.int p153227, .int p153228, .int p153229, .int p153230, .int p153231, .int p153232, .int p153233]) := (n153359 q153176 (rn_oo he153352 he153351 (by decide))).trans he153352
      have he153361 : F153357 (γ 9 22) = .inl (I .int, 512, .inl f153350) := (n153359 (γ 9 22) (rn_ao he153353 he153351)).trans he153353
      have he153362 : F153357 q153175 = .inr (22, [.ref (γ 9 0), .ref (γ 9 1), .ref (γ 9 2), .ref (γ 9 3), .ref (γ 9 4), .ref (γ 9 5), .ref (γ 9 6), .ref (γ 9 7), .ref (γ 9 8), .int p153182, .int p153183, .int p153184, .int p153185, .int p153186, .int p153187, .ref (γ 9 15), .ref (γ 9 16), .ref (γ 9 17), .ref (γ 9 18), .ref (γ 9 19), .ref (γ 9 20), .ref (γ 9 21), .ref (γ 9 22), .int p153188, .int p153189, .int z153355, .int p153191, .int p153192, .ref q153180, .ref (γ 9 29), .int p153193, .ref (γ 9 31), .int p153194, .int p153195, .int p153196, .ref q153181]) := e153358
      have hs153363 : rStr γ F153174 F153357 := rStr_put hs153354 n153359 htq153175 (by decide)
      refine G_iconst (-1) dr_cX17_step_153 (by decide +kernel) ?_
      have hT153364 : RS D I P153173 F153357 γ el := RS_set hT153356 n153359 htq153175 (by decide) ⟨q153180, q153181, p153182, p153183, p153184, p153185, p153186, p153187, p153188, p153189, z153355, p153191, p153192, p153193, p153194, p153195, p153196, he153362, ⟨(hB153223.1), (hB153223.2.1), (hB153223.2.2.1), (hB153223.2.2.2.1), (gB_w bz153355 (by decide) (by decide)), (hB153223.2.2.2.2.2.1), (hB153223.2.2.2.2.2.2.1), (hB153223.2.2.2.2.2.2.2.1), (hB153223.2.2.2.2.2.2.2.2)⟩, ht153197, ht153198, ht153199, ht153200, ht153201, ht153202, ht153203, ht153204, ht153205, ht153206, ht153207, ht153208, ht153209, ht153210, ht153211, ht153212, ht153213, ht153214, ht153215, ht153216, ht153217, ht153218, ht153219, ht153220, hB153224⟩
      exact G_iretA dr_cX17_step_154 rfl (Nat.le_of_ble_eq_true rfl) (Nat.le_of_ble_eq_true rfl) ⟨F153357, (-1), rfl, rfl, hT153364, hs153363, (Nat.le_of_ble_eq_true rfl), (Nat.le_of_ble_eq_true rfl), (gB_w (gBl (show Int32.toInt (-1) = (-1) by decide)) (by decide) (by decide)), (by rw [show fI (F153357 q153175) 26 = p153191 from by rw [he153362]; rfl, show fI (F153174 q153175) 26 = p153191 from by rw [he153179]; rfl] <;> (have qa0 : Int32.toInt (-1) = (-1) := (by decide); omega)), (by rw [show fI (F153357 q153175) 32 = p153194 from by rw [he153362]; rfl, show fI (F153174 q153175) 32 = p153194 from by rw [he153179]; rfl] <;> (have qa0 : Int32.toInt (-1) = (-1) := (by decide); omega))⟩
    · have r153365 : p153190.toInt = 512 := gj_eq hc153336 (show Int32.toInt 512 = 512 by decide)
      have bp153190' : gB p153190 512 512 := ⟨by omega, by omega⟩
      refine G_iconst 5 dr_cX17_step_120 (by decide +kernel) ?_
      exact G_iretA dr_cX17_step_121 rfl (Nat.le_of_ble_eq_true rfl) (Nat.le_of_ble_eq_true rfl) ⟨F153174, 5, rfl, rfl, hT, (rStr_rf (γ := γ) (F := F153174)), (Nat.le_of_ble_eq_true rfl), (Nat.le_of_ble_eq_true rfl), (gB_w (gBl (show Int32.toInt 5 = 5 by decide)) (by decide) (by decide)), (by rw [show fI (F153174 q153175) 26 = p153191 from by rw [he153179]; rfl] <;> (have qa0 : Int32.toInt 5 = 5 := (by decide); omega)), (by rw [show fI (F153174 q153175) 32 = p153194 from by rw [he153179]; rfl] <;> (have qa0 : Int32.toInt 5 = 5 := (by decide); omega))⟩
  by_cases hs153366 : p153227 = 23
  · have ehs153366 : p153227.toInt = 23 := gj_eq hs153366 (show Int32.toInt 23 = 23 by decide)
    have bp153227' : gB p153227 23 23 := ⟨by omega, by omega⟩
    refine G_eqi (y := 23) hs153366 ?_
    refine G_lookup 175 dr_cX17_step_4 (by decide) (by first | rfl | decide) (by decide) ?_
    refine G_aload_n 0 dr_cX17_step_175 rfl ?_
    refine Gp_get 21 hm153178 he153179 dr_cX17_step_176 (gk_X17 D I) (Nat.le_of_ble_eq_true rfl) wr_7_95 rfl ?_
    refine G_aload_n 1 dr_cX17_step_179 rfl ?_
    refine Gp_get 4 hm153225 he153226 dr_cX17_step_180 (gk_X15 D I) (Nat.le_of_ble_eq_true rfl) wr_9_193 rfl ?_
    refine G_aload_n 0 dr_cX17_step_183 rfl ?_
    refine G_aload_n 1 dr_cX17_step_184 rfl ?_
    refine Gp_get 5 hm153225 he153226 dr_cX17_step_185 (gk_X15 D I) (Nat.le_of_ble_eq_true rfl) wr_9_197 rfl ?_
    refine G_aload_n 1 dr_cX17_step_188 rfl ?_
    refine Gp_get 2 hm153225 he153226 dr_cX17_step_189 (gk_X15 D I) (Nat.le_of_ble_eq_true rfl) wr_9_186 rfl ?_
    refine Gw_callV (As := [.int p153232, .int p153229]) (gV_ok D I) (ct_5682_SpillForgeModel_value l hl0 D I γ el P153173 F153174 q153175 p153232 p153229 hT htq153175 bp153232 (by omega)) dr_cX17_step_192 ⟨wr_11_100, wr_1_14, wr_11_103, by decide, rfl, (Nat.le_of_ble_eq_true rfl), (Nat.le_of_ble_eq_true rfl)⟩ wr_11_102 wr_p_115 hm153178 he153179 rfl (show 0 + 0 ≤ 0 by first | omega | decide) (show 0 + 0 ≤ 0 by first | omega | decide) (Nat.le_of_ble_eq_true rfl) (fun r153370 w153371 dc153367 ds153368 hp153369 => ?_) (fun _ _ _ _ _ z => z.elim)
    obtain ⟨o153372, rfl, rfl, hdc, hds⟩ := hp153369
    have bo153372 := gB_any o153372
    change G _ _ _ _ _ _ _ (.int o153372 :: _) _ _ _
    refine G_widen (cs' := 0) (sl' := 0) (by omega) (by omega) ?_
    have hm153373 : (γ 9 21) ∈ P153173 := RS_m hT ht153214 (by decide)
    obtain ⟨f153375, he153374⟩ := show rk_23 I (F153174 (γ 9 21)) from RS_o hT ht153214
    refine Gp_iast 0 hm153373 he153374 dr_cX17_step_195 rfl (gB_in bp153231 (by decide) (by decide)) (fun F153376 e153377 n153378 => ?_)
    obtain ⟨f153379, hf153379⟩ : ∃ z, z = upd f153375 p153231.toNatClampNeg o153372 := ⟨_, rfl⟩
    rw [← hf153379] at e153377
    have he153380 : F153376 q153175 = .inr (22, [.ref (γ 9 0), .ref (γ 9 1), .ref (γ 9 2), .ref (γ 9 3), .ref (γ 9 4), .ref (γ 9 5), .ref (γ 9 6), .ref (γ 9 7), .ref (γ 9 8), .int p153182, .int p153183, .int p153184, .int p153185, .int p153186, .int p153187, .ref (γ 9 15), .ref (γ 9 16), .ref (γ 9 17), .ref (γ 9 18), .ref (γ 9 19), .ref (γ 9 20), .ref (γ 9 21), .ref (γ 9 22), .int p153188, .int p153189, .int p153190, .int p153191, .int p153192, .ref q153180, .ref (γ 9 29), .int p153193, .ref (γ 9 31), .int p153194, .int p153195, .int p153196, .ref q153181]) := (n153378 q153175 (rn_oa he153179 he153374)).trans he153179
    have he153381 : F153376 q153176 = .inr (20, [.int p153227, .int p153228, .int p153229, .int p153230, .int p153231, .int p153232, .int p153233]) := (n153378 q153176 (rn_oa he153226 he153374)).trans he153226
    have he153382 : F153376 (γ 9 21) = .inl (I .int, 2000, .inl f153379) := e153377
    have hs153383 : rStr γ F153174 F153376 := rStr_put (rStr_rf (γ := γ) (F := F153174)) n153378 ht153214 (by decide)
    refine G_iconst (-1) dr_cX17_step_196 (by decide +kernel) ?_
    have hT153384 : RS D I P153173 F153376 γ el := RS_set hT n153378 ht153214 (by decide) ⟨f153379, he153382⟩
    exact G_iretA dr_cX17_step_197 rfl (Nat.le_of_ble_eq_true rfl) (Nat.le_of_ble_eq_true rfl) ⟨F153376, (-1), rfl, rfl, hT153384, hs153383, (Nat.le_of_ble_eq_true rfl), (Nat.le_of_ble_eq_true rfl), (gB_w (gBl (show Int32.toInt (-1) = (-1) by decide)) (by decide) (by decide)), (by rw [show fI (F153376 q153175) 26 = p153191 from by rw [he153380]; rfl, show fI (F153174 q153175) 26 = p153191 from by rw [he153179]; rfl] <;> (have qa0 : Int32.toInt (-1) = (-1) := (by decide); omega)), (by rw [show fI (F153376 q153175) 32 = p153194 from by rw [he153380]; rfl, show fI (F153174 q153175) 32 = p153194 from by rw [he153179]; rfl] <;> (have qa0 : Int32.toInt (-1) = (-1) := (by decide); omega))⟩
  have ehs153238 := lv_neT hs153238 (show Int32.toInt 0 = 0 by decide)
  have ehs153257 := lv_neT hs153257 (show Int32.toInt 20 = 20 by decide)
  have ehs153317 := lv_neT hs153317 (show Int32.toInt 21 = 21 by decide)
  have ehs153335 := lv_neT hs153335 (show Int32.toInt 22 = 22 by decide)
  have ehs153366 := lv_neT hs153366 (show Int32.toInt 23 = 23 by decide)
  refine G_lookup 221 dr_cX17_step_4 (by decide) (by show Op.lookupswitch.offset [(0, 194), (20, 52), (21, 151), (22, 106), (23, 171)] _ _ = 217; rw [lv_osw hs153238 (show Int32.toInt 0 = 0 by decide), lv_osw hs153257 (show Int32.toInt 20 = 20 by decide), lv_osw hs153317 (show Int32.toInt 21 = 21 by decide), lv_osw hs153335 (show Int32.toInt 22 = 22 by decide), lv_osw hs153366 (show Int32.toInt 23 = 23 by decide)]; first | done | rfl) (by decide) ?_
  refine G_aload_n 1 dr_cX17_step_221 rfl ?_
  refine Gp_get 0 hm153225 he153226 dr_cX17_step_222 (gk_X15 D I) (Nat.le_of_ble_eq_true rfl) wr_9_177 rfl ?_
  refine G_aload_n 0 dr_cX17_step_225 rfl ?_
  refine G_aload_n 1 dr_cX17_step_226 rfl ?_
  refine Gp_get 5 hm153225 he153226 dr_cX17_step_227 (gk_X15 D I) (Nat.le_of_ble_eq_true rfl) wr_9_197 rfl ?_
  refine G_aload_n 1 dr_cX17_step_230 rfl ?_
  refine Gp_get 2 hm153225 he153226 dr_cX17_step_231 (gk_X15 D I) (Nat.le_of_ble_eq_true rfl) wr_9_186 rfl ?_
  refine Gw_callV (As := [.int p153232, .int p153229]) (gV_ok D I) (ct_5682_SpillForgeModel_value l hl0 D I γ el P153173 F153174 q153175 p153232 p153229 hT htq153175 bp153232 (by omega)) dr_cX17_step_234 ⟨wr_11_100, wr_1_14, wr_11_103, by decide, rfl, (Nat.le_of_ble_eq_true rfl), (Nat.le_of_ble_eq_true rfl)⟩ wr_11_102 wr_p_115 hm153178 he153179 rfl (show 0 + 0 ≤ 0 by first | omega | decide) (show 0 + 0 ≤ 0 by first | omega | decide) (Nat.le_of_ble_eq_true rfl) (fun r153388 w153389 dc153385 ds153386 hp153387 => ?_) (fun _ _ _ _ _ z => z.elim)
  obtain ⟨o153390, rfl, rfl, hdc, hds⟩ := hp153387
  have bo153390 := gB_any o153390
  change G _ _ _ _ _ _ _ (.int o153390 :: _) _ _ _
  refine G_widen (cs' := 0) (sl' := 0) (by omega) (by omega) ?_
  refine G_aload_n 0 dr_cX17_step_237 rfl ?_
  refine G_aload_n 1 dr_cX17_step_238 rfl ?_
  refine Gp_get 6 hm153225 he153226 dr_cX17_step_239 (gk_X15 D I) (Nat.le_of_ble_eq_true rfl) wr_9_202 rfl ?_
  refine G_aload_n 1 dr_cX17_step_242 rfl ?_
  refine Gp_get 3 hm153225 he153226 dr_cX17_step_243 (gk_X15 D I) (Nat.le_of_ble_eq_true rfl) wr_9_190 rfl ?_
  refine Gw_callV (As := [.int p153233, .int p153230]) (gV_ok D I) (ct_5682_SpillForgeModel_value l hl0 D I γ el P153173 F153174 q153175 p153233 p153230 hT htq153175 bp153233 (by omega)) dr_cX17_step_246 ⟨wr_11_100, wr_1_14, wr_11_103, by decide, rfl, (Nat.le_of_ble_eq_true rfl), (Nat.le_of_ble_eq_true rfl)⟩ wr_11_102 wr_p_115 hm153178 he153179 rfl (show 0 + 0 ≤ 0 by first | omega | decide) (show 0 + 0 ≤ 0 by first | omega | decide) (Nat.le_of_ble_eq_true rfl) (fun r153394 w153395 dc153391 ds153392 hp153393 => ?_) (fun _ _ _ _ _ z => z.elim)
  obtain ⟨o153396, rfl, rfl, hdc, hds⟩ := hp153393
  have bo153396 := gB_any o153396
  change G _ _ _ _ _ _ _ (.int o153396 :: _) _ _ _
  refine G_widen (cs' := 0) (sl' := 0) (by omega) (by omega) ?_
  refine Gw_callS (As := [.int p153227, .int o153390, .int o153396]) (gV_ok D I) (cp_2019_SpillForgeModel_result l hl0 D I P153173 F153174 p153227 o153390 o153396 ) dr_cX17_step_249 ⟨wr_11_104, wr_1_14, wr_11_106, by decide, rfl, (Nat.le_of_ble_eq_true rfl), (Nat.le_of_ble_eq_true rfl)⟩ wr_11_105 (show 0 + 0 ≤ 0 by first | omega | decide) (show 0 + 0 ≤ 0 by first | omega | decide) (Nat.le_of_ble_eq_true rfl) (fun r153400 w153401 dc153397 ds153398 hp153399 => ?_) (fun _ _ _ _ _ z => z.elim)
  obtain ⟨ol153402, rfl, rfl, hdc, hds⟩ := hp153399
  change G _ _ _ _ _ _ _ (.long ol153402 :: _) _ _ _
  refine G_widen (cs' := 0) (sl' := 0) (by omega) (by omega) ?_
  refine G_lstore_n (L' := [(2, .long ol153402), (0, .ref q153175), (1, .ref q153176)]) dr_cX17_step_252 (Nat.le_of_ble_eq_true rfl) rfl ?_
  refine G_lload_n 0 dr_cX17_step_253 rfl ?_
  refine G_ldc2 4294967296 dr_cX17_step_254 wr_11_107 ?_
  refine G_lcmp dr_cX17_step_257 (G_nam fun z153403 hz153403 => ?_)
  have bz153403 : gB z153403 (-1) 1 := gB_cmp hz153403
  refine G_if_ne 263 dr_cX17_step_258 (by decide +kernel) (fun hc153404 => ?_) (fun hc153404 => ?_)
  · have r153405 : z153403.toInt ≠ 0 := gj_neq hc153404 (show Int32.toInt 0 = 0 by decide)
    have lhc153404 := gC_cmpN hz153403 hc153404
    refine G_aload_n 1 dr_cX17_step_263 rfl ?_
    refine Gp_get 20 hm153178 he153179 dr_cX17_step_264 (gk_X17 D I) (Nat.le_of_ble_eq_true rfl) wr_7_94 rfl ?_
    refine G_aload_n 2 dr_cX17_step_267 rfl ?_
    refine Gp_get 1 hm153225 he153226 dr_cX17_step_268 (gk_X15 D I) (Nat.le_of_ble_eq_true rfl) wr_9_182 rfl ?_
    refine G_lload_n 0 dr_cX17_step_271 rfl ?_
    refine G_l2i dr_cX17_step_272 (G_nam fun z153406 hz153406 => ?_)
    have bz153406 : gB z153406 (-2147483648) 2147483647 := gB_any z153406
    have hm153407 : (γ 9 20) ∈ P153173 := RS_m hT ht153213 (by decide)
    obtain ⟨f153409, he153408⟩ := show rk_22 I (F153174 (γ 9 20)) from RS_o hT ht153213
    refine Gp_iast 0 hm153407 he153408 dr_cX17_step_273 rfl (gB_in bp153228 (by decide) (by decide)) (fun F153410 e153411 n153412 => ?_)
    obtain ⟨f153413, hf153413⟩ : ∃ z, z = upd f153409 p153228.toNatClampNeg z153406 := ⟨_, rfl⟩
    rw [← hf153413] at e153411
    have he153414 : F153410 q153175 = .inr (22, [.ref (γ 9 0), .ref (γ 9 1), .ref (γ 9 2), .ref (γ 9 3), .ref (γ 9 4), .ref (γ 9 5), .ref (γ 9 6), .ref (γ 9 7), .ref (γ 9 8), .int p153182, .int p153183, .int p153184, .int p153185, .int p153186, .int p153187, .ref (γ 9 15), .ref (γ 9 16), .ref (γ 9 17), .ref (γ 9 18), .ref (γ 9 19), .ref (γ 9 20), .ref (γ 9 21), .ref (γ 9 22), .int p153188, .int p153189, .int p153190, .int p153191, .int p153192, .ref q153180, .ref (γ 9 29), .int p153193, .ref (γ 9 31), .int p153194, .int p153195, .int p153196, .ref q153181]) := (n153412 q153175 (rn_oa he153179 he153408)).trans he153179
    have he153415 : F153410 q153176 = .inr (20, [.int p153227, .int p153228, .int p153229, .int p153230, .int p153231, .int p153232, .int p153233]) := (n153412 q153176 (rn_oa he153226 he153408)).trans he153226
    have he153416 : F153410 (γ 9 20) = .inl (I .int, 2000, .inl f153413) := e153411
    have hs153417 : rStr γ F153174 F153410 := rStr_put (rStr_rf (γ := γ) (F := F153174)) n153412 ht153213 (by decide)
    refine G_iconst (-1) dr_cX17_step_274 (by decide +kernel) ?_
    have hT153418 : RS D I P153173 F153410 γ el := RS_set hT n153412 ht153213 (by decide) ⟨f153413, he153416⟩
    exact G_iretA dr_cX17_step_275 rfl (Nat.le_of_ble_eq_true rfl) (Nat.le_of_ble_eq_true rfl) ⟨F153410, (-1), rfl, rfl, hT153418, hs153417, (Nat.le_of_ble_eq_true rfl), (Nat.le_of_ble_eq_true rfl), (gB_w (gBl (show Int32.toInt (-1) = (-1) by decide)) (by decide) (by decide)), (by rw [show fI (F153410 q153175) 26 = p153191 from by rw [he153414]; rfl, show fI (F153174 q153175) 26 = p153191 from by rw [he153179]; rfl] <;> (have qa0 : Int32.toInt (-1) = (-1) := (by decide); omega)), (by rw [show fI (F153410 q153175) 32 = p153194 from by rw [he153414]; rfl, show fI (F153174 q153175) 32 = p153194 from by rw [he153179]; rfl] <;> (have qa0 : Int32.toInt (-1) = (-1) := (by decide); omega))⟩
  · have r153419 : z153403.toInt = 0 := gj_eq hc153404 (show Int32.toInt 0 = 0 by decide)
    have bz153403' : gB z153403 0 0 := ⟨by omega, by omega⟩
    have lhc153404 := gC_cmpE hz153403 hc153404
    refine G_iconst 1 dr_cX17_step_261 (by decide +kernel) ?_
    exact G_iretA dr_cX17_step_262 rfl (Nat.le_of_ble_eq_true rfl) (Nat.le_of_ble_eq_true rfl) ⟨F153174, 1, rfl, rfl, hT, (rStr_rf (γ := γ) (F := F153174)), (Nat.le_of_ble_eq_true rfl), (Nat.le_of_ble_eq_true rfl), (gB_w (gBl (show Int32.toInt 1 = 1 by decide)) (by decide) (by decide)), (by rw [show fI (F153174 q153175) 26 = p153191 from by rw [he153179]; rfl] <;> (have qa0 : Int32.toInt 1 = 1 := (by decide); omega)), (by rw [show fI (F153174 q153175) 32 = p153194 from by rw [he153179]; rfl] <;> (have qa0 : Int32.toInt 1 = 1 := (by decide); omega))⟩
abbrev ky_153505_SpillForgeModel_no : gKey := (cX17_no, 2, "SpillForgeModel", (some FieldType.int), [], "no", fun _ _ => True)
def pt_153505_SpillForgeModel_no (D : va_G) (I : FieldType → ClassId) (γ el : Nat → Nat → Nat) (P153501 : List Nat) (F153502 : Nat → va_E) (q153503 : Nat) (p153504 : Int32) : Option Value → va_W → Nat → Nat → Prop := fun r w dc ds => ∃ (F153559 : Nat → va_E), r = some (.int 0) ∧ w = va_pl P153501 F153559 ∧ RS D I P153501 F153559 γ el ∧ rStr γ F153502 F153559 ∧ dc ≤ 0 ∧ ds ≤ 0 ∧ (fI (F153559 q153503) 32).toInt = (fI (F153502 q153503) 32).toInt ∧ (fI (F153559 q153503) 30).toInt = p153504.toInt
set_option maxRecDepth 100000 in
set_option maxHeartbeats 4000000 in
theorem ct_153505_SpillForgeModel_no (l : Launch) (hl0 : l.stackTraces = false) (D : va_G) (I : FieldType → ClassId) (γ el : Nat → Nat → Nat) (P153501 : List Nat) (F153502 : Nat → va_E) (q153503 : Nat) (p153504 : Int32) (hT : RS D I P153501 F153502 γ el) (htq153503 : rKd γ q153503 10) : CtA (gV D I) l yX17_no cX17_no 2 (some FieldType.int) 0 0 0 0 [.ref q153503, .int p153504] (va_pl P153501 F153502) (pt_153505_SpillForgeModel_no D I γ el P153501 F153502 q153503 p153504) gNA := by
  refine CtA_of hl0 (by decide) (Nat.le_of_ble_eq_true rfl) ?_
  have bp153504 := gB_any p153504
  have hm153506 : q153503 ∈ P153501 := RS_m hT htq153503 (by decide)
  obtain ⟨q153508, q153509, p153510, p153511, p153512, p153513, p153514, p153515, p153516, p153517, p153518, p153519, p153520, p153521, p153522, p153523, p153524, he153507, hB153551, ht153525, ht153526, ht153527, ht153528, ht153529, ht153530, ht153531, ht153532, ht153533, ht153534, ht153535, ht153536, ht153537, ht153538, ht153539, ht153540, ht153541, ht153542, ht153543, ht153544, ht153545, ht153546, ht153547, ht153548, hB153552⟩ := show rk_10 γ (F153502 q153503) from RS_o hT htq153503
  refine G_aload_n 0 dr_cX17_no_0 rfl ?_
  refine G_iload_n 1 dr_cX17_no_1 rfl ?_
  refine Gp_put 30 hm153506 he153507 dr_cX17_no_2 (gk_X17 D I) (Nat.le_of_ble_eq_true rfl) wr_7_104 rfl rfl rfl (Nat.le_of_ble_eq_true rfl) (fun F153553 e153554 n153555 => ?_)
  have he153556 : F153553 q153503 = .inr (22, [.ref (γ 9 0), .ref (γ 9 1), .ref (γ 9 2), .ref (γ 9 3), .ref (γ 9 4), .ref (γ 9 5), .ref (γ 9 6), .ref (γ 9 7), .ref (γ 9 8), .int p153510, .int p153511, .int p153512, .int p153513, .int p153514, .int p153515, .ref (γ 9 15), .ref (γ 9 16), .ref (γ 9 17), .ref (γ 9 18), .ref (γ 9 19), .ref (γ 9 20), .ref (γ 9 21), .ref (γ 9 22), .int p153516, .int p153517, .int p153518, .int p153519, .int p153520, .ref q153508, .ref (γ 9 29), .int p153504, .ref (γ 9 31), .int p153522, .int p153523, .int p153524, .ref q153509]) := e153554
  have hs153557 : rStr γ F153502 F153553 := rStr_put (rStr_rf (γ := γ) (F := F153502)) n153555 htq153503 (by decide)
  refine G_iconst 0 dr_cX17_no_5 (by decide +kernel) ?_
  have hT153558 : RS D I P153501 F153553 γ el := RS_set hT n153555 htq153503 (by decide) ⟨q153508, q153509, p153510, p153511, p153512, p153513, p153514, p153515, p153516, p153517, p153518, p153519, p153520, p153504, p153522, p153523, p153524, he153556, ⟨(hB153551.1), (hB153551.2.1), (hB153551.2.2.1), (hB153551.2.2.2.1), (hB153551.2.2.2.2.1), (hB153551.2.2.2.2.2.1), (hB153551.2.2.2.2.2.2.1), (hB153551.2.2.2.2.2.2.2.1), (hB153551.2.2.2.2.2.2.2.2)⟩, ht153525, ht153526, ht153527, ht153528, ht153529, ht153530, ht153531, ht153532, ht153533, ht153534, ht153535, ht153536, ht153537, ht153538, ht153539, ht153540, ht153541, ht153542, ht153543, ht153544, ht153545, ht153546, ht153547, ht153548, hB153552⟩
  exact G_iretA dr_cX17_no_6 rfl (Nat.le_of_ble_eq_true rfl) (Nat.le_of_ble_eq_true rfl) ⟨F153553, rfl, rfl, hT153558, hs153557, (Nat.le_of_ble_eq_true rfl), (Nat.le_of_ble_eq_true rfl), (by rw [show fI (F153553 q153503) 32 = p153522 from by rw [he153556]; rfl, show fI (F153502 q153503) 32 = p153522 from by rw [he153507]; rfl] <;> (have qa0 : Int32.toInt 0 = 0 := (by decide); omega)), (by rw [show fI (F153553 q153503) 30 = p153504 from by rw [he153556]; rfl] <;> (have qa0 : Int32.toInt 0 = 0 := (by decide); omega))⟩
abbrev ky_153426_SpillForgeModel_told : gKey := (cX17_told, 2, "SpillForgeModel", (some FieldType.int), [], "told", fun _ _ => True)
def pt_153426_SpillForgeModel_told (D : va_G) (I : FieldType → ClassId) (γ el : Nat → Nat → Nat) (P153422 : List Nat) (F153423 : Nat → va_E) (q153424 : Nat) (p153425 : Int32) : Option Value → va_W → Nat → Nat → Prop := fun r w dc ds => ∃ (F153622 : Nat → va_E) (o153621 : Int32), r = some (.int o153621) ∧ w = va_pl P153422 F153622 ∧ RS D I P153422 F153622 γ el ∧ rStr γ F153423 F153622 ∧ dc ≤ 0 ∧ ds ≤ 0 ∧ (fI (F153622 q153424) 32).toInt = (fI (F153423 q153424) 32).toInt
set_option maxRecDepth 100000 in
set_option maxHeartbeats 4000000 in
theorem ct_153426_SpillForgeModel_told (l : Launch) (hl0 : l.stackTraces = false) (D : va_G) (I : FieldType → ClassId) (γ el : Nat → Nat → Nat) (P153422 : List Nat) (F153423 : Nat → va_E) (q153424 : Nat) (p153425 : Int32) (hT : RS D I P153422 F153423 γ el) (htq153424 : rKd γ q153424 10) : CtA (gV D I) l yX17_told cX17_told 2 (some FieldType.int) 1 21 0 0 [.ref q153424, .int p153425] (va_pl P153422 F153423) (pt_153426_SpillForgeModel_told D I γ el P153422 F153423 q153424 p153425) gNA := by
  refine CtA_of hl0 (by decide) (Nat.le_of_ble_eq_true rfl) ?_
  have bp153425 := gB_any p153425
  have hm153427 : q153424 ∈ P153422 := RS_m hT htq153424 (by decide)
  obtain ⟨q153429, q153430, p153431, p153432, p153433, p153434, p153435, p153436, p153437, p153438, p153439, p153440, p153441, p153442, p153443, p153444, p153445, he153428, hB153472, ht153446, ht153447, ht153448, ht153449, ht153450, ht153451, ht153452, ht153453, ht153454, ht153455, ht153456, ht153457, ht153458, ht153459, ht153460, ht153461, ht153462, ht153463, ht153464, ht153465, ht153466, ht153467, ht153468, ht153469, hB153473⟩ := show rk_10 γ (F153423 q153424) from RS_o hT htq153424
  have ac153474 : (fI (F153423 q153424) 32).toInt = p153443.toInt := by rw [he153428]; rfl
  have bp153443 : gB p153443 0 8192 := (hB153472.2.2.2.2.2.2.2.1)
  refine G_aload_n 0 dr_cX17_told_0 rfl ?_
  refine G_iconst 0 dr_cX17_told_1 (by decide +kernel) ?_
  refine Gp_put 30 hm153427 he153428 dr_cX17_told_2 (gk_X17 D I) (Nat.le_of_ble_eq_true rfl) wr_7_104 rfl rfl rfl (Nat.le_of_ble_eq_true rfl) (fun F153475 e153476 n153477 => ?_)
  have he153478 : F153475 q153424 = .inr (22, [.ref (γ 9 0), .ref (γ 9 1), .ref (γ 9 2), .ref (γ 9 3), .ref (γ 9 4), .ref (γ 9 5), .ref (γ 9 6), .ref (γ 9 7), .ref (γ 9 8), .int p153431, .int p153432, .int p153433, .int p153434, .int p153435, .int p153436, .ref (γ 9 15), .ref (γ 9 16), .ref (γ 9 17), .ref (γ 9 18), .ref (γ 9 19), .ref (γ 9 20), .ref (γ 9 21), .ref (γ 9 22), .int p153437, .int p153438, .int p153439, .int p153440, .int p153441, .ref q153429, .ref (γ 9 29), .int 0, .ref (γ 9 31), .int p153443, .int p153444, .int p153445, .ref q153430]) := e153476
  have hs153479 : rStr γ F153423 F153475 := rStr_put (rStr_rf (γ := γ) (F := F153423)) n153477 htq153424 (by decide)
  refine G_iload_n 1 dr_cX17_told_5 rfl ?_
  by_cases hs153480 : p153425 = 0
  · have ehs153480 : p153425.toInt = 0 := gj_eq hs153480 (show Int32.toInt 0 = 0 by decide)
    have bp153425' : gB p153425 0 0 := ⟨by omega, by omega⟩
    refine G_eqi (y := 0) hs153480 ?_
    refine G_tableIn 40 dr_cX17_told_6 (by decide) (by decide) (by first | rfl | decide) (by decide) ?_
    refine G_aload_n 0 dr_cX17_told_40 rfl ?_
    refine Gp_get 23 hm153427 he153478 dr_cX17_told_41 (gk_X17 D I) (Nat.le_of_ble_eq_true rfl) wr_7_97 rfl ?_
    have bp153437 : gB p153437 (-2147483648) 2147483647 := (gB_any p153437)
    refine G_if_ne 54 dr_cX17_told_44 (by decide +kernel) (fun hc153481 => ?_) (fun hc153481 => ?_)
    · have r153482 : p153437.toInt ≠ 0 := gj_neq hc153481 (show Int32.toInt 0 = 0 by decide)
      refine G_iconst 0 dr_cX17_told_54 (by decide +kernel) ?_
      have hT153483 : RS D I P153422 F153475 γ el := RS_set hT n153477 htq153424 (by decide) ⟨q153429, q153430, p153431, p153432, p153433, p153434, p153435, p153436, p153437, p153438, p153439, p153440, p153441, 0, p153443, p153444, p153445, he153478, ⟨(hB153472.1), (hB153472.2.1), (hB153472.2.2.1), (hB153472.2.2.2.1), (hB153472.2.2.2.2.1), (hB153472.2.2.2.2.2.1), (hB153472.2.2.2.2.2.2.1), bp153443, (hB153472.2.2.2.2.2.2.2.2)⟩, ht153446, ht153447, ht153448, ht153449, ht153450, ht153451, ht153452, ht153453, ht153454, ht153455, ht153456, ht153457, ht153458, ht153459, ht153460, ht153461, ht153462, ht153463, ht153464, ht153465, ht153466, ht153467, ht153468, ht153469, hB153473⟩
      have ac153484 : (fI (F153475 q153424) 32).toInt = p153443.toInt := by rw [he153478]; rfl
      exact G_iretA dr_cX17_told_55 rfl (Nat.le_of_ble_eq_true rfl) (Nat.le_of_ble_eq_true rfl) ⟨F153475, 0, rfl, rfl, hT153483, hs153479, (Nat.le_of_ble_eq_true rfl), (Nat.le_of_ble_eq_true rfl), (by have qa0 : Int32.toInt 0 = 0 := (by decide); omega)⟩
    · have r153485 : p153437.toInt = 0 := gj_eq hc153481 (show Int32.toInt 0 = 0 by decide)
      have bp153437' : gB p153437 0 0 := ⟨by omega, by omega⟩
      refine G_aload_n 0 dr_cX17_told_47 rfl ?_
      refine Gp_get 24 hm153427 he153478 dr_cX17_told_48 (gk_X17 D I) (Nat.le_of_ble_eq_true rfl) wr_7_98 rfl ?_
      have bp153438 : gB p153438 (-2147483648) 2147483647 := (gB_any p153438)
      refine G_goto 55 dr_cX17_told_51 (by decide +kernel) ?_
      have hT153486 : RS D I P153422 F153475 γ el := RS_set hT n153477 htq153424 (by decide) ⟨q153429, q153430, p153431, p153432, p153433, p153434, p153435, p153436, p153437, p153438, p153439, p153440, p153441, 0, p153443, p153444, p153445, he153478, ⟨(hB153472.1), (hB153472.2.1), (hB153472.2.2.1), (hB153472.2.2.2.1), (hB153472.2.2.2.2.1), (hB153472.2.2.2.2.2.1), (hB153472.2.2.2.2.2.2.1), bp153443, (hB153472.2.2.2.2.2.2.2.2)⟩, ht153446, ht153447, ht153448, ht153449, ht153450, ht153451, ht153452, ht153453, ht153454, ht153455, ht153456, ht153457, ht153458, ht153459, ht153460, ht153461, ht153462, ht153463, ht153464, ht153465, ht153466, ht153467, ht153468, ht153469, hB153473⟩
      have ac153487 : (fI (F153475 q153424) 32).toInt = p153443.toInt := by rw [he153478]; rfl
      exact G_iretA dr_cX17_told_55 rfl (Nat.le_of_ble_eq_true rfl) (Nat.le_of_ble_eq_true rfl) ⟨F153475, p153438, rfl, rfl, hT153486, hs153479, (Nat.le_of_ble_eq_true rfl), (Nat.le_of_ble_eq_true rfl), (by omega)⟩
  by_cases hs153488 : p153425 = 1
  · have ehs153488 : p153425.toInt = 1 := gj_eq hs153488 (show Int32.toInt 1 = 1 by decide)
    have bp153425' : gB p153425 1 1 := ⟨by omega, by omega⟩
    refine G_eqi (y := 1) hs153488 ?_
    refine G_tableIn 56 dr_cX17_told_6 (by decide) (by decide) (by first | rfl | decide) (by decide) ?_
    refine G_aload_n 0 dr_cX17_told_56 rfl ?_
    refine Gp_get 25 hm153427 he153478 dr_cX17_told_57 (gk_X17 D I) (Nat.le_of_ble_eq_true rfl) wr_7_99 rfl ?_
    have bp153439 : gB p153439 0 512 := (hB153472.2.2.2.2.1)
    have hT153489 : RS D I P153422 F153475 γ el := RS_set hT n153477 htq153424 (by decide) ⟨q153429, q153430, p153431, p153432, p153433, p153434, p153435, p153436, p153437, p153438, p153439, p153440, p153441, 0, p153443, p153444, p153445, he153478, ⟨(hB153472.1), (hB153472.2.1), (hB153472.2.2.1), (hB153472.2.2.2.1), bp153439, (hB153472.2.2.2.2.2.1), (hB153472.2.2.2.2.2.2.1), bp153443, (hB153472.2.2.2.2.2.2.2.2)⟩, ht153446, ht153447, ht153448, ht153449, ht153450, ht153451, ht153452, ht153453, ht153454, ht153455, ht153456, ht153457, ht153458, ht153459, ht153460, ht153461, ht153462, ht153463, ht153464, ht153465, ht153466, ht153467, ht153468, ht153469, hB153473⟩
    have ac153490 : (fI (F153475 q153424) 32).toInt = p153443.toInt := by rw [he153478]; rfl
    exact G_iretA dr_cX17_told_60 rfl (Nat.le_of_ble_eq_true rfl) (Nat.le_of_ble_eq_true rfl) ⟨F153475, p153439, rfl, rfl, hT153489, hs153479, (Nat.le_of_ble_eq_true rfl), (Nat.le_of_ble_eq_true rfl), (by omega)⟩
  by_cases hs153491 : p153425 = 2
  · have ehs153491 : p153425.toInt = 2 := gj_eq hs153491 (show Int32.toInt 2 = 2 by decide)
    have bp153425' : gB p153425 2 2 := ⟨by omega, by omega⟩
    refine G_eqi (y := 2) hs153491 ?_
    refine G_tableIn 61 dr_cX17_told_6 (by decide) (by decide) (by first | rfl | decide) (by decide) ?_
    refine G_aload_n 0 dr_cX17_told_61 rfl ?_
    refine Gp_get 26 hm153427 he153478 dr_cX17_told_62 (gk_X17 D I) (Nat.le_of_ble_eq_true rfl) wr_7_100 rfl ?_
    have bp153440 : gB p153440 0 100000 := (hB153472.2.2.2.2.2.1)
    have hT153492 : RS D I P153422 F153475 γ el := RS_set hT n153477 htq153424 (by decide) ⟨q153429, q153430, p153431, p153432, p153433, p153434, p153435, p153436, p153437, p153438, p153439, p153440, p153441, 0, p153443, p153444, p153445, he153478, ⟨(hB153472.1), (hB153472.2.1), (hB153472.2.2.1), (hB153472.2.2.2.1), (hB153472.2.2.2.2.1), bp153440, (hB153472.2.2.2.2.2.2.1), bp153443, (hB153472.2.2.2.2.2.2.2.2)⟩, ht153446, ht153447, ht153448, ht153449, ht153450, ht153451, ht153452, ht153453, ht153454, ht153455, ht153456, ht153457, ht153458, ht153459, ht153460, ht153461, ht153462, ht153463, ht153464, ht153465, ht153466, ht153467, ht153468, ht153469, hB153473⟩
    have ac153493 : (fI (F153475 q153424) 32).toInt = p153443.toInt := by rw [he153478]; rfl
    exact G_iretA dr_cX17_told_65 rfl (Nat.le_of_ble_eq_true rfl) (Nat.le_of_ble_eq_true rfl) ⟨F153475, p153440, rfl, rfl, hT153492, hs153479, (Nat.le_of_ble_eq_true rfl), (Nat.le_of_ble_eq_true rfl), (by omega)⟩
  by_cases hs153494 : p153425 = 3
  · have ehs153494 : p153425.toInt = 3 := gj_eq hs153494 (show Int32.toInt 3 = 3 by decide)
    have bp153425' : gB p153425 3 3 := ⟨by omega, by omega⟩
    refine G_eqi (y := 3) hs153494 ?_
    refine G_tableIn 66 dr_cX17_told_6 (by decide) (by decide) (by first | rfl | decide) (by decide) ?_
    refine G_aload_n 0 dr_cX17_told_66 rfl ?_
    refine Gp_get 27 hm153427 he153478 dr_cX17_told_67 (gk_X17 D I) (Nat.le_of_ble_eq_true rfl) wr_7_101 rfl ?_
    have bp153441 : gB p153441 0 2048 := (hB153472.2.2.2.2.2.2.1)
    have hT153495 : RS D I P153422 F153475 γ el := RS_set hT n153477 htq153424 (by decide) ⟨q153429, q153430, p153431, p153432, p153433, p153434, p153435, p153436, p153437, p153438, p153439, p153440, p153441, 0, p153443, p153444, p153445, he153478, ⟨(hB153472.1), (hB153472.2.1), (hB153472.2.2.1), (hB153472.2.2.2.1), (hB153472.2.2.2.2.1), (hB153472.2.2.2.2.2.1), bp153441, bp153443, (hB153472.2.2.2.2.2.2.2.2)⟩, ht153446, ht153447, ht153448, ht153449, ht153450, ht153451, ht153452, ht153453, ht153454, ht153455, ht153456, ht153457, ht153458, ht153459, ht153460, ht153461, ht153462, ht153463, ht153464, ht153465, ht153466, ht153467, ht153468, ht153469, hB153473⟩
    have ac153496 : (fI (F153475 q153424) 32).toInt = p153443.toInt := by rw [he153478]; rfl
    exact G_iretA dr_cX17_told_70 rfl (Nat.le_of_ble_eq_true rfl) (Nat.le_of_ble_eq_true rfl) ⟨F153475, p153441, rfl, rfl, hT153495, hs153479, (Nat.le_of_ble_eq_true rfl), (Nat.le_of_ble_eq_true rfl), (by omega)⟩
  by_cases hs153497 : p153425 = 4
  · have ehs153497 : p153425.toInt = 4 := gj_eq hs153497 (show Int32.toInt 4 = 4 by decide)
    have bp153425' : gB p153425 4 4 := ⟨by omega, by omega⟩
    refine G_eqi (y := 4) hs153497 ?_
    refine G_tableIn 71 dr_cX17_told_6 (by decide) (by decide) (by first | rfl | decide) (by decide) ?_
    refine G_aload_n 0 dr_cX17_told_71 rfl ?_
    refine Gp_get 23 hm153427 he153478 dr_cX17_told_72 (gk_X17 D I) (Nat.le_of_ble_eq_true rfl) wr_7_97 rfl ?_
    have bp153437 : gB p153437 (-2147483648) 2147483647 := (gB_any p153437)
    have hT153498 : RS D I P153422 F153475 γ el := RS_set hT n153477 htq153424 (by decide) ⟨q153429, q153430, p153431, p153432, p153433, p153434, p153435, p153436, p153437, p153438, p153439, p153440, p153441, 0, p153443, p153444, p153445, he153478, ⟨(hB153472.1), (hB153472.2.1), (hB153472.2.2.1), (hB153472.2.2.2.1), (hB153472.2.2.2.2.1), (hB153472.2.2.2.2.2.1), (hB153472.2.2.2.2.2.2.1), bp153443, (hB153472.2.2.2.2.2.2.2.2)⟩, ht153446, ht153447, ht153448, ht153449, ht153450, ht153451, ht153452, ht153453, ht153454, ht153455, ht153456, ht153457, ht153458, ht153459, ht153460, ht153461, ht153462, ht153463, ht153464, ht153465, ht153466, ht153467, ht153468, ht153469, hB153473⟩
    have ac153499 : (fI (F153475 q153424) 32).toInt = p153443.toInt := by rw [he153478]; rfl
    exact G_iretA dr_cX17_told_75 rfl (Nat.le_of_ble_eq_true rfl) (Nat.le_of_ble_eq_true rfl) ⟨F153475, p153437, rfl, rfl, hT153498, hs153479, (Nat.le_of_ble_eq_true rfl), (Nat.le_of_ble_eq_true rfl), (by omega)⟩
  have ehs153480 := lv_neT hs153480 (show Int32.toInt 0 = 0 by decide)
  have ehs153488 := lv_neT hs153488 (show Int32.toInt 1 = 1 by decide)
  have ehs153491 := lv_neT hs153491 (show Int32.toInt 2 = 2 by decide)
  have ehs153494 := lv_neT hs153494 (show Int32.toInt 3 = 3 by decide)
  have ehs153497 := lv_neT hs153497 (show Int32.toInt 4 = 4 by decide)
  refine G_tableOut 76 dr_cX17_told_6 (by omega) (by decide) ?_
  refine G_aload_n 0 dr_cX17_told_76 rfl ?_
  refine G_iconst 1 dr_cX17_told_77 (by decide +kernel) ?_
  have hT153500 : RS D I P153422 F153475 γ el := RS_set hT n153477 htq153424 (by decide) ⟨q153429, q153430, p153431, p153432, p153433, p153434, p153435, p153436, p153437, p153438, p153439, p153440, p153441, 0, p153443, p153444, p153445, he153478, ⟨(hB153472.1), (hB153472.2.1), (hB153472.2.2.1), (hB153472.2.2.2.1), (hB153472.2.2.2.2.1), (hB153472.2.2.2.2.2.1), (hB153472.2.2.2.2.2.2.1), bp153443, (hB153472.2.2.2.2.2.2.2.2)⟩, ht153446, ht153447, ht153448, ht153449, ht153450, ht153451, ht153452, ht153453, ht153454, ht153455, ht153456, ht153457, ht153458, ht153459, ht153460, ht153461, ht153462, ht153463, ht153464, ht153465, ht153466, ht153467, ht153468, ht153469, hB153473⟩
  have ac153560 : (fI (F153475 q153424) 32).toInt = p153443.toInt := by rw [he153478]; rfl
  refine Gw_callV (As := [.int 1]) (gV_ok D I) (ct_153505_SpillForgeModel_no l hl0 D I γ el P153422 F153475 q153424 1 hT153500 htq153424) dr_cX17_told_78 ⟨wr_7_191, wr_1_14, wr_7_194, by decide, rfl, (Nat.le_of_ble_eq_true rfl), (Nat.le_of_ble_eq_true rfl)⟩ wr_7_193 wr_p_73 hm153427 he153478 rfl (show 0 + 0 ≤ 0 by first | omega | decide) (show 0 + 0 ≤ 0 by first | omega | decide) (Nat.le_of_ble_eq_true rfl) (fun r153564 w153565 dc153561 ds153562 hp153563 => ?_) (fun _ _ _ _ _ z => z.elim)
  obtain ⟨F153568, rfl, rfl, hT153569, hs153570, hdc, hds, x153566, x153567⟩ := hp153563
  have hs153571 : rStr γ F153423 F153568 := rStr_tr hs153479 hs153570
  rw [show Int32.toInt 1 = 1 from by decide] at x153567
  change G _ _ _ _ _ _ _ (.int 0 :: _) _ _ _
  refine G_widen (cs' := 0) (sl' := 0) (by omega) (by omega) ?_
  have hm153572 : q153424 ∈ P153422 := RS_m hT153569 htq153424 (by decide)
  obtain ⟨q153574, q153575, p153576, p153577, p153578, p153579, p153580, p153581, p153582, p153583, p153584, p153585, p153586, p153587, p153588, p153589, p153590, he153573, hB153617, ht153591, ht153592, ht153593, ht153594, ht153595, ht153596, ht153597, ht153598, ht153599, ht153600, ht153601, ht153602, ht153603, ht153604, ht153605, ht153606, ht153607, ht153608, ht153609, ht153610, ht153611, ht153612, ht153613, ht153614, hB153618⟩ := show rk_10 γ (F153568 q153424) from RS_o hT153569 htq153424
  have ac153619 : (fI (F153568 q153424) 32).toInt = p153588.toInt := by rw [he153573]; rfl
  have bp153588 : gB p153588 0 8192 := (hB153617.2.2.2.2.2.2.2.1)
  have ac153620 : (fI (F153568 q153424) 32).toInt = p153588.toInt := by rw [he153573]; rfl
  exact G_iretA dr_cX17_told_81 rfl (Nat.le_of_ble_eq_true rfl) (Nat.le_of_ble_eq_true rfl) ⟨F153568, 0, rfl, rfl, hT153569, hs153571, (Nat.le_of_ble_eq_true rfl), (Nat.le_of_ble_eq_true rfl), (by have qa0 : Int32.toInt 0 = 0 := (by decide); omega)⟩
