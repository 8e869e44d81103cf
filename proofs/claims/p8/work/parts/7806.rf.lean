theorem dr_cX17_step_0 : decode cX17_step 0 = .ok (.aload_n 1, 1) := by decide +kernel
theorem dr_cX17_step_1 : decode cX17_step 1 = .ok (.getfield 39, 3) := by decide +kernel
theorem dr_cX17_step_4 : decode cX17_step 4 = .ok (.lookupswitch 217 #[(0, 194), (20, 52), (21, 151), (22, 106), (23, 171)], 52) := by decide +kernel
theorem dr_cX17_step_198 : decode cX17_step 198 = .ok (.aload_n 0, 1) := by decide +kernel
theorem dr_cX17_step_199 : decode cX17_step 199 = .ok (.getfield 271, 3) := by decide +kernel
theorem dr_cX17_step_202 : decode cX17_step 202 = .ok (.aload_n 1, 1) := by decide +kernel
theorem dr_cX17_step_203 : decode cX17_step 203 = .ok (.getfield 52, 3) := by decide +kernel
theorem dr_cX17_step_206 : decode cX17_step 206 = .ok (.aload_n 0, 1) := by decide +kernel
theorem dr_cX17_step_207 : decode cX17_step 207 = .ok (.aload_n 1, 1) := by decide +kernel
theorem dr_cX17_step_208 : decode cX17_step 208 = .ok (.getfield 141, 3) := by decide +kernel
theorem wr_9_197 : (Jvm.Cond.fieldLink "SpillForgeModel" (141 : Nat) "SpillForgeModel$Row" "regA" "Z") ∈ gw := gw_9 197 rfl rfl
theorem dr_cX17_step_211 : decode cX17_step 211 = .ok (.aload_n 1, 1) := by decide +kernel
theorem dr_cX17_step_212 : decode cX17_step 212 = .ok (.getfield 73, 3) := by decide +kernel
theorem dr_cX17_step_215 : decode cX17_step 215 = .ok (.invokevirtual 293, 3) := by decide +kernel
theorem wr_11_100 : (Jvm.Cond.methodLink "SpillForgeModel" (293 : Nat) ({ cls := "SpillForgeModel", name := "value", desc := "(ZI)I" } : Jvm.MethodName)) ∈ gw := gw_11 100 rfl rfl
theorem wr_11_103 : (Jvm.Cond.code ({ cls := "SpillForgeModel", name := "value", desc := "(ZI)I" } : Jvm.MethodName) prog_14_method_28_code (3 : Nat) (Option.some Jvm.ClassFile.FieldType.int)) ∈ gw := gw_11 103 rfl rfl
theorem wr_11_102 : (Jvm.Cond.instanceMethod ({ cls := "SpillForgeModel", name := "value", desc := "(ZI)I" } : Jvm.MethodName)) ∈ gw := gw_11 102 rfl rfl
theorem wr_p_115 : Cond.selects "SpillForgeModel" ⟨"SpillForgeModel", "value", "(ZI)I"⟩ ⟨"SpillForgeModel", "value", "(ZI)I"⟩ ∈ gw := gw_p _ 115 rfl rfl rfl
theorem dr_cX17_step_218 : decode cX17_step 218 = .ok (.iastore, 1) := by decide +kernel
theorem dr_cX17_step_219 : decode cX17_step 219 = .ok (.iconst (-1), 1) := by decide +kernel
theorem dr_cX17_step_220 : decode cX17_step 220 = .ok (.ireturn, 1) := by decide +kernel
theorem dr_cX17_step_56 : decode cX17_step 56 = .ok (.aload_n 0, 1) := by decide +kernel
theorem dr_cX17_step_57 : decode cX17_step 57 = .ok (.getfield 271, 3) := by decide +kernel
theorem dr_cX17_step_60 : decode cX17_step 60 = .ok (.aload_n 1, 1) := by decide +kernel
theorem dr_cX17_step_61 : decode cX17_step 61 = .ok (.getfield 52, 3) := by decide +kernel
theorem dr_cX17_step_64 : decode cX17_step 64 = .ok (.aload_n 0, 1) := by decide +kernel
theorem dr_cX17_step_65 : decode cX17_step 65 = .ok (.getfield 286, 3) := by decide +kernel
theorem wr_7_101 : (Jvm.Cond.fieldLink "SpillForgeModel" (286 : Nat) "SpillForgeModel" "read" "I") ∈ gw := gw_7 101 rfl rfl
theorem dr_cX17_step_68 : decode cX17_step 68 = .ok (.aload_n 0, 1) := by decide +kernel
theorem dr_cX17_step_69 : decode cX17_step 69 = .ok (.getfield 303, 3) := by decide +kernel
theorem wr_7_102 : (Jvm.Cond.fieldLink "SpillForgeModel" (303 : Nat) "SpillForgeModel" "input" "[I") ∈ gw := gw_7 102 rfl rfl
theorem dr_cX17_step_72 : decode cX17_step 72 = .ok (.arraylength, 1) := by decide +kernel
theorem dr_cX17_step_73 : decode cX17_step 73 = .ok (.if_icmp .ge 15, 3) := by decide +kernel
theorem dr_cX17_step_88 : decode cX17_step 88 = .ok (.iconst 0, 1) := by decide +kernel
theorem dr_cX17_step_89 : decode cX17_step 89 = .ok (.iastore, 1) := by decide +kernel
theorem dr_cX17_step_90 : decode cX17_step 90 = .ok (.aload_n 0, 1) := by decide +kernel
theorem dr_cX17_step_91 : decode cX17_step 91 = .ok (.aload_n 0, 1) := by decide +kernel
theorem dr_cX17_step_92 : decode cX17_step 92 = .ok (.getfield 286, 3) := by decide +kernel
theorem dr_cX17_step_95 : decode cX17_step 95 = .ok (.iconst 1, 1) := by decide +kernel
theorem dr_cX17_step_96 : decode cX17_step 96 = .ok (.iadd, 1) := by decide +kernel
theorem dr_cX17_step_97 : decode cX17_step 97 = .ok (.aload_n 0, 1) := by decide +kernel
theorem dr_cX17_step_98 : decode cX17_step 98 = .ok (.getfield 303, 3) := by decide +kernel
theorem dr_cX17_step_101 : decode cX17_step 101 = .ok (.arraylength, 1) := by decide +kernel
theorem dr_cX17_step_102 : decode cX17_step 102 = .ok (.invokestatic 164, 3) := by decide +kernel
theorem dr_cX17_step_105 : decode cX17_step 105 = .ok (.putfield 286, 3) := by decide +kernel
theorem dr_cX17_step_108 : decode cX17_step 108 = .ok (.iconst (-1), 1) := by decide +kernel
theorem dr_cX17_step_109 : decode cX17_step 109 = .ok (.ireturn, 1) := by decide +kernel
theorem dr_cX17_step_76 : decode cX17_step 76 = .ok (.aload_n 0, 1) := by decide +kernel
theorem dr_cX17_step_77 : decode cX17_step 77 = .ok (.getfield 303, 3) := by decide +kernel
theorem dr_cX17_step_80 : decode cX17_step 80 = .ok (.aload_n 0, 1) := by decide +kernel
theorem dr_cX17_step_81 : decode cX17_step 81 = .ok (.getfield 286, 3) := by decide +kernel
theorem dr_cX17_step_84 : decode cX17_step 84 = .ok (.iaload, 1) := by decide +kernel
theorem dr_cX17_step_85 : decode cX17_step 85 = .ok (.goto 4, 3) := by decide +kernel
theorem dr_cX17_step_155 : decode cX17_step 155 = .ok (.aload_n 0, 1) := by decide +kernel
theorem dr_cX17_step_156 : decode cX17_step 156 = .ok (.getfield 271, 3) := by decide +kernel
theorem dr_cX17_step_159 : decode cX17_step 159 = .ok (.aload_n 1, 1) := by decide +kernel
theorem dr_cX17_step_160 : decode cX17_step 160 = .ok (.getfield 52, 3) := by decide +kernel
theorem dr_cX17_step_163 : decode cX17_step 163 = .ok (.aload_n 0, 1) := by decide +kernel
theorem dr_cX17_step_164 : decode cX17_step 164 = .ok (.getfield 274, 3) := by decide +kernel
theorem wr_7_95 : (Jvm.Cond.fieldLink "SpillForgeModel" (274 : Nat) "SpillForgeModel" "slotNow" "[I") ∈ gw := gw_7 95 rfl rfl
theorem dr_cX17_step_167 : decode cX17_step 167 = .ok (.aload_n 1, 1) := by decide +kernel
theorem dr_cX17_step_168 : decode cX17_step 168 = .ok (.getfield 45, 3) := by decide +kernel
theorem dr_cX17_step_171 : decode cX17_step 171 = .ok (.iaload, 1) := by decide +kernel
theorem dr_cX17_step_172 : decode cX17_step 172 = .ok (.iastore, 1) := by decide +kernel
theorem dr_cX17_step_173 : decode cX17_step 173 = .ok (.iconst (-1), 1) := by decide +kernel
theorem dr_cX17_step_174 : decode cX17_step 174 = .ok (.ireturn, 1) := by decide +kernel
theorem dr_cX17_step_110 : decode cX17_step 110 = .ok (.aload_n 0, 1) := by decide +kernel
theorem dr_cX17_step_111 : decode cX17_step 111 = .ok (.getfield 280, 3) := by decide +kernel
theorem wr_7_99 : (Jvm.Cond.fieldLink "SpillForgeModel" (280 : Nat) "SpillForgeModel" "shown" "I") ∈ gw := gw_7 99 rfl rfl
theorem dr_cX17_step_114 : decode cX17_step 114 = .ok (.sipush 512, 3) := by decide +kernel
theorem dr_cX17_step_117 : decode cX17_step 117 = .ok (.if_icmp .ne 5, 3) := by decide +kernel
theorem dr_cX17_step_122 : decode cX17_step 122 = .ok (.aload_n 0, 1) := by decide +kernel
theorem dr_cX17_step_123 : decode cX17_step 123 = .ok (.getfield 306, 3) := by decide +kernel
theorem wr_7_96 : (Jvm.Cond.fieldLink "SpillForgeModel" (306 : Nat) "SpillForgeModel" "shows" "[I") ∈ gw := gw_7 96 rfl rfl
theorem dr_cX17_step_126 : decode cX17_step 126 = .ok (.aload_n 0, 1) := by decide +kernel
theorem dr_cX17_step_127 : decode cX17_step 127 = .ok (.getfield 280, 3) := by decide +kernel
theorem dr_cX17_step_130 : decode cX17_step 130 = .ok (.aload_n 0, 1) := by decide +kernel
theorem dr_cX17_step_131 : decode cX17_step 131 = .ok (.aload_n 1, 1) := by decide +kernel
theorem dr_cX17_step_132 : decode cX17_step 132 = .ok (.getfield 141, 3) := by decide +kernel
theorem dr_cX17_step_135 : decode cX17_step 135 = .ok (.aload_n 1, 1) := by decide +kernel
theorem dr_cX17_step_136 : decode cX17_step 136 = .ok (.getfield 73, 3) := by decide +kernel
theorem dr_cX17_step_139 : decode cX17_step 139 = .ok (.invokevirtual 293, 3) := by decide +kernel
theorem dr_cX17_step_142 : decode cX17_step 142 = .ok (.iastore, 1) := by decide +kernel
theorem dr_cX17_step_143 : decode cX17_step 143 = .ok (.aload_n 0, 1) := by decide +kernel
theorem dr_cX17_step_144 : decode cX17_step 144 = .ok (.dup, 1) := by decide +kernel
theorem dr_cX17_step_145 : decode cX17_step 145 = .ok (.getfield 280, 3) := by decide +kernel
theorem dr_cX17_step_148 : decode cX17_step 148 = .ok (.iconst 1, 1) := by decide +kernel
theorem dr_cX17_step_149 : decode cX17_step 149 = .ok (.iadd, 1) := by decide +kernel
theorem dr_cX17_step_150 : decode cX17_step 150 = .ok (.putfield 280, 3) := by decide +kernel
theorem dr_cX17_step_153 : decode cX17_step 153 = .ok (.iconst (-1), 1) := by decide +kernel
theorem dr_cX17_step_154 : decode cX17_step 154 = .ok (.ireturn, 1) := by decide +kernel
theorem dr_cX17_step_120 : decode cX17_step 120 = .ok (.iconst 5, 1) := by decide +kernel
theorem dr_cX17_step_121 : decode cX17_step 121 = .ok (.ireturn, 1) := by decide +kernel
theorem dr_cX17_step_175 : decode cX17_step 175 = .ok (.aload_n 0, 1) := by decide +kernel
theorem dr_cX17_step_176 : decode cX17_step 176 = .ok (.getfield 274, 3) := by decide +kernel
theorem dr_cX17_step_179 : decode cX17_step 179 = .ok (.aload_n 1, 1) := by decide +kernel
theorem dr_cX17_step_180 : decode cX17_step 180 = .ok (.getfield 45, 3) := by decide +kernel
theorem dr_cX17_step_183 : decode cX17_step 183 = .ok (.aload_n 0, 1) := by decide +kernel
theorem dr_cX17_step_184 : decode cX17_step 184 = .ok (.aload_n 1, 1) := by decide +kernel
theorem dr_cX17_step_185 : decode cX17_step 185 = .ok (.getfield 141, 3) := by decide +kernel
theorem dr_cX17_step_188 : decode cX17_step 188 = .ok (.aload_n 1, 1) := by decide +kernel
theorem dr_cX17_step_189 : decode cX17_step 189 = .ok (.getfield 73, 3) := by decide +kernel
theorem dr_cX17_step_192 : decode cX17_step 192 = .ok (.invokevirtual 293, 3) := by decide +kernel
theorem dr_cX17_step_195 : decode cX17_step 195 = .ok (.iastore, 1) := by decide +kernel
theorem dr_cX17_step_196 : decode cX17_step 196 = .ok (.iconst (-1), 1) := by decide +kernel
theorem dr_cX17_step_197 : decode cX17_step 197 = .ok (.ireturn, 1) := by decide +kernel
theorem dr_cX17_step_221 : decode cX17_step 221 = .ok (.aload_n 1, 1) := by decide +kernel
theorem dr_cX17_step_222 : decode cX17_step 222 = .ok (.getfield 39, 3) := by decide +kernel
theorem dr_cX17_step_225 : decode cX17_step 225 = .ok (.aload_n 0, 1) := by decide +kernel
theorem dr_cX17_step_226 : decode cX17_step 226 = .ok (.aload_n 1, 1) := by decide +kernel
theorem dr_cX17_step_227 : decode cX17_step 227 = .ok (.getfield 141, 3) := by decide +kernel
theorem dr_cX17_step_230 : decode cX17_step 230 = .ok (.aload_n 1, 1) := by decide +kernel
theorem dr_cX17_step_231 : decode cX17_step 231 = .ok (.getfield 73, 3) := by decide +kernel
theorem dr_cX17_step_234 : decode cX17_step 234 = .ok (.invokevirtual 293, 3) := by decide +kernel
theorem dr_cX17_step_237 : decode cX17_step 237 = .ok (.aload_n 0, 1) := by decide +kernel
theorem dr_cX17_step_238 : decode cX17_step 238 = .ok (.aload_n 1, 1) := by decide +kernel
theorem dr_cX17_step_239 : decode cX17_step 239 = .ok (.getfield 309, 3) := by decide +kernel
theorem wr_9_202 : (Jvm.Cond.fieldLink "SpillForgeModel" (309 : Nat) "SpillForgeModel$Row" "regB" "Z") ∈ gw := gw_9 202 rfl rfl
theorem dr_cX17_step_242 : decode cX17_step 242 = .ok (.aload_n 1, 1) := by decide +kernel
theorem dr_cX17_step_243 : decode cX17_step 243 = .ok (.getfield 79, 3) := by decide +kernel
theorem dr_cX17_step_246 : decode cX17_step 246 = .ok (.invokevirtual 293, 3) := by decide +kernel
theorem dr_cX17_step_249 : decode cX17_step 249 = .ok (.invokestatic 312, 3) := by decide +kernel
theorem wr_11_104 : (Jvm.Cond.methodLink "SpillForgeModel" (312 : Nat) ({ cls := "SpillForgeModel", name := "result", desc := "(III)J" } : Jvm.MethodName)) ∈ gw := gw_11 104 rfl rfl
theorem wr_11_106 : (Jvm.Cond.code ({ cls := "SpillForgeModel", name := "result", desc := "(III)J" } : Jvm.MethodName) prog_14_method_27_code (4 : Nat) (Option.some Jvm.ClassFile.FieldType.long)) ∈ gw := gw_11 106 rfl rfl
theorem wr_11_105 : (Jvm.Cond.static ({ cls := "SpillForgeModel", name := "result", desc := "(III)J" } : Jvm.MethodName)) ∈ gw := gw_11 105 rfl rfl
theorem dr_cX17_step_252 : decode cX17_step 252 = .ok (.lstore_n 2, 1) := by decide +kernel
theorem dr_cX17_step_253 : decode cX17_step 253 = .ok (.lload_n 2, 1) := by decide +kernel
theorem dr_cX17_step_254 : decode cX17_step 254 = .ok (.ldc2_w 267, 3) := by decide +kernel
theorem dr_cX17_step_257 : decode cX17_step 257 = .ok (.lcmp, 1) := by decide +kernel
theorem dr_cX17_step_258 : decode cX17_step 258 = .ok (.ifCond .ne 5, 3) := by decide +kernel
theorem dr_cX17_step_263 : decode cX17_step 263 = .ok (.aload_n 0, 1) := by decide +kernel
theorem dr_cX17_step_264 : decode cX17_step 264 = .ok (.getfield 271, 3) := by decide +kernel
theorem dr_cX17_step_267 : decode cX17_step 267 = .ok (.aload_n 1, 1) := by decide +kernel
theorem dr_cX17_step_268 : decode cX17_step 268 = .ok (.getfield 52, 3) := by decide +kernel
theorem dr_cX17_step_271 : decode cX17_step 271 = .ok (.lload_n 2, 1) := by decide +kernel
theorem dr_cX17_step_272 : decode cX17_step 272 = .ok (.l2i, 1) := by decide +kernel
theorem dr_cX17_step_273 : decode cX17_step 273 = .ok (.iastore, 1) := by decide +kernel
theorem dr_cX17_step_274 : decode cX17_step 274 = .ok (.iconst (-1), 1) := by decide +kernel
theorem dr_cX17_step_275 : decode cX17_step 275 = .ok (.ireturn, 1) := by decide +kernel
theorem dr_cX17_step_261 : decode cX17_step 261 = .ok (.iconst 1, 1) := by decide +kernel
theorem dr_cX17_step_262 : decode cX17_step 262 = .ok (.ireturn, 1) := by decide +kernel
theorem dr_cX17_no_0 : decode cX17_no 0 = .ok (.aload_n 0, 1) := by decide +kernel
theorem dr_cX17_no_1 : decode cX17_no 1 = .ok (.iload_n 1, 1) := by decide +kernel
theorem dr_cX17_no_2 : decode cX17_no 2 = .ok (.putfield 380, 3) := by decide +kernel
theorem wr_7_104 : (Jvm.Cond.fieldLink "SpillForgeModel" (380 : Nat) "SpillForgeModel" "thrown" "I") ∈ gw := gw_7 104 rfl rfl
theorem dr_cX17_no_5 : decode cX17_no 5 = .ok (.iconst 0, 1) := by decide +kernel
theorem dr_cX17_no_6 : decode cX17_no 6 = .ok (.ireturn, 1) := by decide +kernel
theorem dr_cX17_told_0 : decode cX17_told 0 = .ok (.aload_n 0, 1) := by decide +kernel
theorem dr_cX17_told_1 : decode cX17_told 1 = .ok (.iconst 0, 1) := by decide +kernel
theorem dr_cX17_told_2 : decode cX17_told 2 = .ok (.putfield 380, 3) := by decide +kernel
theorem dr_cX17_told_5 : decode cX17_told 5 = .ok (.iload_n 1, 1) := by decide +kernel
theorem dr_cX17_told_6 : decode cX17_told 6 = .ok (.tableswitch 70 0 4 #[34, 50, 55, 60, 65], 34) := by decide +kernel
theorem dr_cX17_told_40 : decode cX17_told 40 = .ok (.aload_n 0, 1) := by decide +kernel
theorem dr_cX17_told_41 : decode cX17_told 41 = .ok (.getfield 371, 3) := by decide +kernel
theorem wr_7_97 : (Jvm.Cond.fieldLink "SpillForgeModel" (371 : Nat) "SpillForgeModel" "ended" "I") ∈ gw := gw_7 97 rfl rfl
theorem dr_cX17_told_44 : decode cX17_told 44 = .ok (.ifCond .ne 10, 3) := by decide +kernel
theorem dr_cX17_told_54 : decode cX17_told 54 = .ok (.iconst 0, 1) := by decide +kernel
theorem dr_cX17_told_55 : decode cX17_told 55 = .ok (.ireturn, 1) := by decide +kernel
theorem dr_cX17_told_47 : decode cX17_told 47 = .ok (.aload_n 0, 1) := by decide +kernel
theorem dr_cX17_told_48 : decode cX17_told 48 = .ok (.getfield 277, 3) := by decide +kernel
theorem wr_7_98 : (Jvm.Cond.fieldLink "SpillForgeModel" (277 : Nat) "SpillForgeModel" "answer" "I") ∈ gw := gw_7 98 rfl rfl
theorem dr_cX17_told_51 : decode cX17_told 51 = .ok (.goto 4, 3) := by decide +kernel
theorem dr_cX17_told_56 : decode cX17_told 56 = .ok (.aload_n 0, 1) := by decide +kernel
theorem dr_cX17_told_57 : decode cX17_told 57 = .ok (.getfield 280, 3) := by decide +kernel
theorem dr_cX17_told_60 : decode cX17_told 60 = .ok (.ireturn, 1) := by decide +kernel
theorem dr_cX17_told_61 : decode cX17_told 61 = .ok (.aload_n 0, 1) := by decide +kernel
theorem dr_cX17_told_62 : decode cX17_told 62 = .ok (.getfield 283, 3) := by decide +kernel
theorem wr_7_100 : (Jvm.Cond.fieldLink "SpillForgeModel" (283 : Nat) "SpillForgeModel" "steps" "I") ∈ gw := gw_7 100 rfl rfl
theorem dr_cX17_told_65 : decode cX17_told 65 = .ok (.ireturn, 1) := by decide +kernel
theorem dr_cX17_told_66 : decode cX17_told 66 = .ok (.aload_n 0, 1) := by decide +kernel
theorem dr_cX17_told_67 : decode cX17_told 67 = .ok (.getfield 286, 3) := by decide +kernel
theorem dr_cX17_told_70 : decode cX17_told 70 = .ok (.ireturn, 1) := by decide +kernel
theorem dr_cX17_told_71 : decode cX17_told 71 = .ok (.aload_n 0, 1) := by decide +kernel
theorem dr_cX17_told_72 : decode cX17_told 72 = .ok (.getfield 371, 3) := by decide +kernel
theorem dr_cX17_told_75 : decode cX17_told 75 = .ok (.ireturn, 1) := by decide +kernel
theorem dr_cX17_told_76 : decode cX17_told 76 = .ok (.aload_n 0, 1) := by decide +kernel
theorem dr_cX17_told_77 : decode cX17_told 77 = .ok (.iconst 1, 1) := by decide +kernel
theorem dr_cX17_told_78 : decode cX17_told 78 = .ok (.invokevirtual 385, 3) := by decide +kernel
theorem wr_7_191 : (Jvm.Cond.methodLink "SpillForgeModel" (385 : Nat) ({ cls := "SpillForgeModel", name := "no", desc := "(I)I" } : Jvm.MethodName)) ∈ gw := gw_7 191 rfl rfl
theorem wr_7_194 : (Jvm.Cond.code ({ cls := "SpillForgeModel", name := "no", desc := "(I)I" } : Jvm.MethodName) prog_14_method_37_code (2 : Nat) (Option.some Jvm.ClassFile.FieldType.int)) ∈ gw := gw_7 194 rfl rfl
theorem wr_7_193 : (Jvm.Cond.instanceMethod ({ cls := "SpillForgeModel", name := "no", desc := "(I)I" } : Jvm.MethodName)) ∈ gw := gw_7 193 rfl rfl
theorem wr_p_73 : Cond.selects "SpillForgeModel" ⟨"SpillForgeModel", "no", "(I)I"⟩ ⟨"SpillForgeModel", "no", "(I)I"⟩ ∈ gw := gw_p _ 73 rfl rfl rfl
theorem dr_cX17_told_81 : decode cX17_told 81 = .ok (.ireturn, 1) := by decide +kernel
abbrev ky_165294_SpillForgeModel_step : gKey := (cX17_step, 4, "SpillForgeModel", (some FieldType.int), [], "step", fun _ _ => True)
def pt_165294_SpillForgeModel_step (D : va_G) (I : FieldType → ClassId) (γ el : Nat → Nat → Nat) (P165290 : List Nat) (F165291 : Nat → va_E) (q165292 : Nat) (q165293 : Nat) : Option Value → va_W → Nat → Nat → Prop := fun r w dc ds => ∃ (F165580 : Nat → va_E) (o165579 : Int32), r = some (.int o165579) ∧ w = va_pl P165290 F165580 ∧ RS D I P165290 F165580 γ el ∧ rStr γ [] F165291 F165580 ∧ dc ≤ 0 ∧ ds ≤ 0 ∧ gB o165579 (-1) 5 ∧ (fI (F165580 q165292) 26).toInt = (fI (F165291 q165292) 26).toInt ∧ (fI (F165580 q165292) 32).toInt = (fI (F165291 q165292) 32).toInt ∧ tr_RModel_step D I γ el F165291 q165292 q165293 o165579 F165580
set_option maxRecDepth 100000 in
set_option maxHeartbeats 4000000 in
theorem ct_165294_SpillForgeModel_step (l : Launch) (hl0 : l.stackTraces = false) (D : va_G) (I : FieldType → ClassId) (γ el : Nat → Nat → Nat) (P165290 : List Nat) (F165291 : Nat → va_E) (q165292 : Nat) (q165293 : Nat) (hT : RS D I P165290 F165291 γ el) (htq165292 : rKd γ q165292 10) (htq165293 : rKd γ q165293 1) : CtA (gV D I) l yX17_step cX17_step 4 (some FieldType.int) 1 23 0 0 [.ref q165292, .ref q165293] (va_pl P165290 F165291) (pt_165294_SpillForgeModel_step D I γ el P165290 F165291 q165292 q165293) gNA := by
  refine CtA_of hl0 (by decide) (Nat.le_of_ble_eq_true rfl) ?_
  have hm165295 : q165292 ∈ P165290 := RS_m hT htq165292 (by decide)
  obtain ⟨q165297, q165298, p165299, p165300, p165301, p165302, p165303, p165304, p165305, p165306, p165307, p165308, p165309, p165310, p165311, p165312, p165313, he165296, hB165340, ht165314, ht165315, ht165316, ht165317, ht165318, ht165319, ht165320, ht165321, ht165322, ht165323, ht165324, ht165325, ht165326, ht165327, ht165328, ht165329, ht165330, ht165331, ht165332, ht165333, ht165334, ht165335, ht165336, ht165337, hB165341⟩ := show rk_10 γ (F165291 q165292) from RS_o hT htq165292
  refine G_aload_n 1 dr_cX17_step_0 rfl ?_
  have hm165342 : q165293 ∈ P165290 := RS_m hT htq165293 (by decide)
  obtain ⟨p165344, p165345, p165346, p165347, p165348, p165349, p165350, he165343, bp165344, bp165345, bp165348, bp165349, bp165350, r165351, r165352, r165353, r165354, r165355⟩ := show rk_1 γ q165293 (F165291 q165293) from RS_o hT htq165293
  have bp165346 := gB_any p165346
  have bp165347 := gB_any p165347
  have fq165356 : fI (F165291 q165293) 0 = p165344 := by rw [he165343]; rfl
  refine Gp_get 0 hm165342 he165343 dr_cX17_step_1 (gk_X15 D I) (Nat.le_of_ble_eq_true rfl) wr_9_177 rfl ?_
  by_cases hs165357 : p165344 = 0
  · have ehs165357 : p165344.toInt = 0 := gj_eq hs165357 (show Int32.toInt 0 = 0 by decide)
    have bp165344' : gB p165344 0 0 := ⟨by omega, by omega⟩
    refine G_eqi (y := 0) hs165357 ?_
    refine G_lookup 198 dr_cX17_step_4 (by decide) (by first | rfl | decide) (by decide) ?_
    refine G_aload_n 0 dr_cX17_step_198 rfl ?_
    have fq165358 : fR (F165291 q165292) 20 = (γ 9 20) := by rw [he165296]; rfl
    refine Gp_get 20 hm165295 he165296 dr_cX17_step_199 (gk_X17 D I) (Nat.le_of_ble_eq_true rfl) wr_7_94 rfl ?_
    refine G_aload_n 1 dr_cX17_step_202 rfl ?_
    have fq165359 : fI (F165291 q165293) 1 = p165345 := by rw [he165343]; rfl
    refine Gp_get 1 hm165342 he165343 dr_cX17_step_203 (gk_X15 D I) (Nat.le_of_ble_eq_true rfl) wr_9_182 rfl ?_
    refine G_aload_n 0 dr_cX17_step_206 rfl ?_
    refine G_aload_n 1 dr_cX17_step_207 rfl ?_
    have fq165360 : fI (F165291 q165293) 5 = p165349 := by rw [he165343]; rfl
    refine Gp_get 5 hm165342 he165343 dr_cX17_step_208 (gk_X15 D I) (Nat.le_of_ble_eq_true rfl) wr_9_197 rfl ?_
    refine G_aload_n 1 dr_cX17_step_211 rfl ?_
    have fq165361 : fI (F165291 q165293) 2 = p165346 := by rw [he165343]; rfl
    refine Gp_get 2 hm165342 he165343 dr_cX17_step_212 (gk_X15 D I) (Nat.le_of_ble_eq_true rfl) wr_9_186 rfl ?_
    refine Gw_callV (As := [.int p165349, .int p165346]) (gV_ok D I) (ct_7532_SpillForgeModel_value l hl0 D I γ el P165290 F165291 q165292 p165349 p165346 hT htq165292 bp165349 (by omega)) dr_cX17_step_215 ⟨wr_11_100, wr_1_14, wr_11_103, by decide, rfl, (Nat.le_of_ble_eq_true rfl), (Nat.le_of_ble_eq_true rfl)⟩ wr_11_102 wr_p_115 hm165295 he165296 rfl (show 0 + 0 ≤ 0 by first | omega | decide) (show 0 + 0 ≤ 0 by first | omega | decide) (Nat.le_of_ble_eq_true rfl) (fun r165365 w165366 dc165362 ds165363 hp165364 => ?_) (fun _ _ _ _ _ z => z.elim)
    obtain ⟨o165367, rfl, rfl, hdc, hds, ht165368⟩ := hp165364
    have bo165367 := gB_any o165367
    change G _ _ _ _ _ _ _ (.int o165367 :: _) _ _ _
    refine G_widen (cs' := 0) (sl' := 0) (by omega) (by omega) ?_
    have hm165369 : (γ 9 20) ∈ P165290 := RS_m hT ht165330 (by decide)
    obtain ⟨f165371, he165370⟩ := show rk_22 I (F165291 (γ 9 20)) from RS_o hT ht165330
    refine Gp_iast 0 hm165369 he165370 dr_cX17_step_218 rfl (gB_in bp165345 (by decide) (by decide)) (fun F165372 e165373 n165374 => ?_)
    obtain ⟨f165375, hf165375⟩ : ∃ z, z = upd f165371 p165345.toNatClampNeg o165367 := ⟨_, rfl⟩
    rw [← hf165375] at e165373
    have he165376 : F165372 q165292 = .inr (22, [.ref (γ 9 0), .ref (γ 9 1), .ref (γ 9 2), .ref (γ 9 3), .ref (γ 9 4), .ref (γ 9 5), .ref (γ 9 6), .ref (γ 9 7), .ref (γ 9 8), .int p165299, .int p165300, .int p165301, .int p165302, .int p165303, .int p165304, .ref (γ 9 15), .ref (γ 9 16), .ref (γ 9 17), .ref (γ 9 18), .ref (γ 9 19), .ref (γ 9 20), .ref (γ 9 21), .ref (γ 9 22), .int p165305, .int p165306, .int p165307, .int p165308, .int p165309, .ref q165297, .ref (γ 9 29), .int p165310, .ref (γ 9 31), .int p165311, .int p165312, .int p165313, .ref q165298]) := (n165374 q165292 (rn_oa he165296 he165370)).trans he165296
    have he165377 : F165372 q165293 = .inr (20, [.int p165344, .int p165345, .int p165346, .int p165347, .int p165348, .int p165349, .int p165350]) := (n165374 q165293 (rn_oa he165343 he165370)).trans he165343
    have he165378 : F165372 (γ 9 20) = .inl (I .int, 2000, .inl f165375) := e165373
    have hs165379 : rStr γ [] F165291 F165372 := rStr_put (rStr_rf (γ := γ) (W := []) (F := F165291)) n165374 ht165330 (by decide)
    refine G_iconst (-1) dr_cX17_step_219 (by decide +kernel) ?_
    have hT165380 : RS D I P165290 F165372 γ el := RS_set hT n165374 ht165330 (by decide) ⟨f165375, he165378⟩
    exact G_iretA dr_cX17_step_220 rfl (Nat.le_of_ble_eq_true rfl) (Nat.le_of_ble_eq_true rfl) ⟨F165372, (-1), rfl, rfl, hT165380, hs165379, (Nat.le_of_ble_eq_true rfl), (Nat.le_of_ble_eq_true rfl), (gB_w (gBl (show Int32.toInt (-1) = (-1) by decide)) (by decide) (by decide)), (by rw [show fI (F165372 q165292) 26 = p165308 from by rw [he165376]; rfl, show fI (F165291 q165292) 26 = p165308 from by rw [he165296]; rfl] <;> (have qa0 : Int32.toInt (-1) = (-1) := (by decide); omega)), (by rw [show fI (F165372 q165292) 32 = p165311 from by rw [he165376]; rfl, show fI (F165291 q165292) 32 = p165311 from by rw [he165296]; rfl] <;> (have qa0 : Int32.toInt (-1) = (-1) := (by decide); omega)), (fun R c1 c2 c3 c4 c5 c6 c7 c8 c9 => c1 p165344 p165345 p165349 p165346 o165367 f165371 f165375 F165372 fq165356 ehs165357 fq165358 fq165359 fq165360 fq165361 ht165368 he165370 hf165375 n165374 he165378)⟩
  by_cases hs165381 : p165344 = 20
  · have ehs165381 : p165344.toInt = 20 := gj_eq hs165381 (show Int32.toInt 20 = 20 by decide)
    have bp165344' : gB p165344 20 20 := ⟨by omega, by omega⟩
    refine G_eqi (y := 20) hs165381 ?_
    refine G_lookup 56 dr_cX17_step_4 (by decide) (by first | rfl | decide) (by decide) ?_
    refine G_aload_n 0 dr_cX17_step_56 rfl ?_
    have fq165382 : fR (F165291 q165292) 20 = (γ 9 20) := by rw [he165296]; rfl
    refine Gp_get 20 hm165295 he165296 dr_cX17_step_57 (gk_X17 D I) (Nat.le_of_ble_eq_true rfl) wr_7_94 rfl ?_
    refine G_aload_n 1 dr_cX17_step_60 rfl ?_
    have fq165383 : fI (F165291 q165293) 1 = p165345 := by rw [he165343]; rfl
    refine Gp_get 1 hm165342 he165343 dr_cX17_step_61 (gk_X15 D I) (Nat.le_of_ble_eq_true rfl) wr_9_182 rfl ?_
    refine G_aload_n 0 dr_cX17_step_64 rfl ?_
    have fq165384 : fI (F165291 q165292) 27 = p165309 := by rw [he165296]; rfl
    refine Gp_get 27 hm165295 he165296 dr_cX17_step_65 (gk_X17 D I) (Nat.le_of_ble_eq_true rfl) wr_7_101 rfl ?_
    have bp165309 : gB p165309 0 2048 := (hB165340.2.2.2.2.2.2.1)
    refine G_aload_n 0 dr_cX17_step_68 rfl ?_
    have fq165385 : fR (F165291 q165292) 28 = q165297 := by rw [he165296]; rfl
    refine Gp_get 28 hm165295 he165296 dr_cX17_step_69 (gk_X17 D I) (Nat.le_of_ble_eq_true rfl) wr_7_102 rfl ?_
    have hm165386 : q165297 ∈ P165290 := RS_m hT ht165314 (by decide)
    obtain ⟨n165389, f165388, he165387, hn165389⟩ := show rk_26 I (F165291 q165297) from RS_o hT ht165314
    refine Gp_alen (Int32.ofNat n165389) 0 hm165386 he165387 dr_cX17_step_72 rfl rfl (G_nam fun z165390 hz165390 => ?_)
    have ez165390 : z165390.toInt = (n165389 : Nat) := gI_ofM hz165390 (by omega)
    have bz165390 : gB z165390 0 16777216 := ⟨by omega, by omega⟩
    refine G_icmp_ge 88 dr_cX17_step_73 (by decide +kernel) (fun hc165391 => ?_) (fun hc165391 => ?_)
    · have r165392 : z165390.toInt ≤ p165309.toInt := gC_le hc165391
      have bz165390' : gB z165390 0 2048 := ⟨by omega, by omega⟩
      refine G_iconst 0 dr_cX17_step_88 (by decide +kernel) ?_
      have hm165393 : (γ 9 20) ∈ P165290 := RS_m hT ht165330 (by decide)
      obtain ⟨f165395, he165394⟩ := show rk_22 I (F165291 (γ 9 20)) from RS_o hT ht165330
      refine Gp_iast 0 hm165393 he165394 dr_cX17_step_89 rfl (gB_in bp165345 (by decide) (by decide)) (fun F165396 e165397 n165398 => ?_)
      obtain ⟨f165399, hf165399⟩ : ∃ z, z = upd f165395 p165345.toNatClampNeg 0 := ⟨_, rfl⟩
      rw [← hf165399] at e165397
      have he165400 : F165396 q165292 = .inr (22, [.ref (γ 9 0), .ref (γ 9 1), .ref (γ 9 2), .ref (γ 9 3), .ref (γ 9 4), .ref (γ 9 5), .ref (γ 9 6), .ref (γ 9 7), .ref (γ 9 8), .int p165299, .int p165300, .int p165301, .int p165302, .int p165303, .int p165304, .ref (γ 9 15), .ref (γ 9 16), .ref (γ 9 17), .ref (γ 9 18), .ref (γ 9 19), .ref (γ 9 20), .ref (γ 9 21), .ref (γ 9 22), .int p165305, .int p165306, .int p165307, .int p165308, .int p165309, .ref q165297, .ref (γ 9 29), .int p165310, .ref (γ 9 31), .int p165311, .int p165312, .int p165313, .ref q165298]) := (n165398 q165292 (rn_oa he165296 he165394)).trans he165296
      have he165401 : F165396 q165293 = .inr (20, [.int p165344, .int p165345, .int p165346, .int p165347, .int p165348, .int p165349, .int p165350]) := (n165398 q165293 (rn_oa he165343 he165394)).trans he165343
      have he165402 : F165396 q165297 = .inl (I .int, n165389, .inl f165388) := (n165398 q165297 (rn_ty ht165314 ht165330 (by decide))).trans he165387
      have he165403 : F165396 (γ 9 20) = .inl (I .int, 2000, .inl f165399) := e165397
      have hs165404 : rStr γ [] F165291 F165396 := rStr_put (rStr_rf (γ := γ) (W := []) (F := F165291)) n165398 ht165330 (by decide)
      refine G_aload_n 0 dr_cX17_step_90 rfl ?_
      refine G_aload_n 0 dr_cX17_step_91 rfl ?_
      have fq165405 : fI (F165396 q165292) 27 = p165309 := by rw [he165400]; rfl
      refine Gp_get 27 hm165295 he165400 dr_cX17_step_92 (gk_X17 D I) (Nat.le_of_ble_eq_true rfl) wr_7_101 rfl ?_
      refine G_iconst 1 dr_cX17_step_95 (by decide +kernel) ?_
      refine G_iadd dr_cX17_step_96 (G_nam fun z165406 hz165406 => ?_)
      have ez165406 : z165406.toInt = p165309.toInt + 1 := by rw [gI_add hz165406 bp165309 (gBl (show Int32.toInt 1 = 1 by decide)) (by decide) (by decide), show Int32.toInt 1 = 1 from by decide]
      have bz165406 : gB z165406 1 2049 := gB_add (gI_add hz165406 bp165309 (gBl (show Int32.toInt 1 = 1 by decide)) (by decide) (by decide)) bp165309 (gBl (show Int32.toInt 1 = 1 by decide)) (by decide) (by decide)
      refine G_aload_n 0 dr_cX17_step_97 rfl ?_
      have fq165407 : fR (F165396 q165292) 28 = q165297 := by rw [he165400]; rfl
      refine Gp_get 28 hm165295 he165400 dr_cX17_step_98 (gk_X17 D I) (Nat.le_of_ble_eq_true rfl) wr_7_102 rfl ?_
      refine Gp_alen (Int32.ofNat n165389) 0 hm165386 he165402 dr_cX17_step_101 rfl rfl (G_nam fun z165408 hz165408 => ?_)
      have ez165408 : z165408.toInt = (n165389 : Nat) := gI_ofM hz165408 (by omega)
      have bz165408 : gB z165408 0 16777216 := ⟨by omega, by omega⟩
      refine G_mmin dr_cX17_step_102 wr_11_20 wr_3_227 wr_1_6 wr_3_228 (Nat.le_of_ble_eq_true rfl) (Nat.le_of_ble_eq_true rfl) (show 0 ≤ 0 by first | omega | decide) (show 0 ≤ 0 by first | omega | decide) (G_nam fun z165409 hz165409 => ?_)
      have ez165409 : z165406.toInt ≥ z165409.toInt ∧ z165408.toInt ≥ z165409.toInt ∧ (z165409.toInt = z165406.toInt ∨ z165409.toInt = z165408.toInt) := by have := gI_min hz165409; omega
      have bz165409 : gB z165409 0 2049 := ⟨by omega, by omega⟩
      have hT165410 : RS D I P165290 F165396 γ el := RS_set hT n165398 ht165330 (by decide) ⟨f165399, he165403⟩
      refine Gp_put 27 hm165295 he165400 dr_cX17_step_105 (gk_X17 D I) (Nat.le_of_ble_eq_true rfl) wr_7_101 rfl rfl rfl (Nat.le_of_ble_eq_true rfl) (fun F165411 e165412 n165413 => ?_)
      have he165414 : F165411 q165293 = .inr (20, [.int p165344, .int p165345, .int p165346, .int p165347, .int p165348, .int p165349, .int p165350]) := (n165413 q165293 (rn_oo he165401 he165400 (by decide))).trans he165401
      have he165415 : F165411 q165297 = .inl (I .int, n165389, .inl f165388) := (n165413 q165297 (rn_ao he165402 he165400)).trans he165402
      have he165416 : F165411 (γ 9 20) = .inl (I .int, 2000, .inl f165399) := (n165413 (γ 9 20) (rn_ao he165403 he165400)).trans he165403
      have he165417 : F165411 q165292 = .inr (22, [.ref (γ 9 0), .ref (γ 9 1), .ref (γ 9 2), .ref (γ 9 3), .ref (γ 9 4), .ref (γ 9 5), .ref (γ 9 6), .ref (γ 9 7), .ref (γ 9 8), .int p165299, .int p165300, .int p165301, .int p165302, .int p165303, .int p165304, .ref (γ 9 15), .ref (γ 9 16), .ref (γ 9 17), .ref (γ 9 18), .ref (γ 9 19), .ref (γ 9 20), .ref (γ 9 21), .ref (γ 9 22), .int p165305, .int p165306, .int p165307, .int p165308, .int z165409, .ref q165297, .ref (γ 9 29), .int p165310, .ref (γ 9 31), .int p165311, .int p165312, .int p165313, .ref q165298]) := e165412
      have hs165418 : rStr γ [] F165291 F165411 := rStr_put hs165404 n165413 htq165292 (by decide)
      have fq165419 : F165411 q165292 = cF (F165396 q165292) 27 (.int z165409) := by rw [he165417, he165400]; rfl
      refine G_iconst (-1) dr_cX17_step_108 (by decide +kernel) ?_
      have hT165420 : RS D I P165290 F165411 γ el := RS_set hT165410 n165413 htq165292 (by decide) ⟨q165297, q165298, p165299, p165300, p165301, p165302, p165303, p165304, p165305, p165306, p165307, p165308, z165409, p165310, p165311, p165312, p165313, he165417, ⟨(hB165340.1), (hB165340.2.1), (hB165340.2.2.1), (hB165340.2.2.2.1), (hB165340.2.2.2.2.1), (hB165340.2.2.2.2.2.1), ⟨by omega, by omega⟩, (hB165340.2.2.2.2.2.2.2.1), (hB165340.2.2.2.2.2.2.2.2)⟩, ht165314, ht165315, ht165316, ht165317, ht165318, ht165319, ht165320, ht165321, ht165322, ht165323, ht165324, ht165325, ht165326, ht165327, ht165328, ht165329, ht165330, ht165331, ht165332, ht165333, ht165334, ht165335, ht165336, ht165337, hB165341⟩
      exact G_iretA dr_cX17_step_109 rfl (Nat.le_of_ble_eq_true rfl) (Nat.le_of_ble_eq_true rfl) ⟨F165411, (-1), rfl, rfl, hT165420, hs165418, (Nat.le_of_ble_eq_true rfl), (Nat.le_of_ble_eq_true rfl), (gB_w (gBl (show Int32.toInt (-1) = (-1) by decide)) (by decide) (by decide)), (by rw [show fI (F165411 q165292) 26 = p165308 from by rw [he165417]; rfl, show fI (F165291 q165292) 26 = p165308 from by rw [he165296]; rfl] <;> (have qa0 : Int32.toInt (-1) = (-1) := (by decide); omega)), (by rw [show fI (F165411 q165292) 32 = p165311 from by rw [he165417]; rfl, show fI (F165291 q165292) 32 = p165311 from by rw [he165296]; rfl] <;> (have qa0 : Int32.toInt (-1) = (-1) := (by decide); omega)), (fun R c1 c2 c3 c4 c5 c6 c7 c8 c9 => c2 p165344 p165345 p165309 q165297 f165388 n165389 z165390 f165395 f165399 F165396 z165406 z165408 z165409 F165411 fq165356 ehs165381 fq165382 fq165383 fq165384 fq165385 he165387 ez165390 r165392 he165394 hf165399 n165398 he165403 fq165405 ez165406 fq165407 he165402 ez165408 ez165409 n165413 fq165419)⟩
    · have r165421 : p165309.toInt < z165390.toInt := gC_nle hc165391
      have bz165390' : gB z165390 1 16777216 := ⟨by omega, by omega⟩
      refine G_aload_n 0 dr_cX17_step_76 rfl ?_
      refine Gp_get 28 hm165295 he165296 dr_cX17_step_77 (gk_X17 D I) (Nat.le_of_ble_eq_true rfl) wr_7_102 rfl ?_
      refine G_aload_n 0 dr_cX17_step_80 rfl ?_
      refine Gp_get 27 hm165295 he165296 dr_cX17_step_81 (gk_X17 D I) (Nat.le_of_ble_eq_true rfl) wr_7_101 rfl ?_
      refine Gp_iald 0 hm165386 he165387 dr_cX17_step_84 rfl (gB_inr (by omega) (by omega)) (G_nam fun z165422 hz165422 => ?_)
      have bz165422 : gB z165422 (-2147483648) 2147483647 := gB_any z165422
      refine G_goto 89 dr_cX17_step_85 (by decide +kernel) ?_
      have hm165423 : (γ 9 20) ∈ P165290 := RS_m hT ht165330 (by decide)
      obtain ⟨f165425, he165424⟩ := show rk_22 I (F165291 (γ 9 20)) from RS_o hT ht165330
      refine Gp_iast 0 hm165423 he165424 dr_cX17_step_89 rfl (gB_in bp165345 (by decide) (by decide)) (fun F165426 e165427 n165428 => ?_)
      obtain ⟨f165429, hf165429⟩ : ∃ z, z = upd f165425 p165345.toNatClampNeg z165422 := ⟨_, rfl⟩
      rw [← hf165429] at e165427
      have he165430 : F165426 q165292 = .inr (22, [.ref (γ 9 0), .ref (γ 9 1), .ref (γ 9 2), .ref (γ 9 3), .ref (γ 9 4), .ref (γ 9 5), .ref (γ 9 6), .ref (γ 9 7), .ref (γ 9 8), .int p165299, .int p165300, .int p165301, .int p165302, .int p165303, .int p165304, .ref (γ 9 15), .ref (γ 9 16), .ref (γ 9 17), .ref (γ 9 18), .ref (γ 9 19), .ref (γ 9 20), .ref (γ 9 21), .ref (γ 9 22), .int p165305, .int p165306, .int p165307, .int p165308, .int p165309, .ref q165297, .ref (γ 9 29), .int p165310, .ref (γ 9 31), .int p165311, .int p165312, .int p165313, .ref q165298]) := (n165428 q165292 (rn_oa he165296 he165424)).trans he165296
      have he165431 : F165426 q165293 = .inr (20, [.int p165344, .int p165345, .int p165346, .int p165347, .int p165348, .int p165349, .int p165350]) := (n165428 q165293 (rn_oa he165343 he165424)).trans he165343
      have he165432 : F165426 q165297 = .inl (I .int, n165389, .inl f165388) := (n165428 q165297 (rn_ty ht165314 ht165330 (by decide))).trans he165387
      have he165433 : F165426 (γ 9 20) = .inl (I .int, 2000, .inl f165429) := e165427
      have hs165434 : rStr γ [] F165291 F165426 := rStr_put (rStr_rf (γ := γ) (W := []) (F := F165291)) n165428 ht165330 (by decide)
      refine G_aload_n 0 dr_cX17_step_90 rfl ?_
      refine G_aload_n 0 dr_cX17_step_91 rfl ?_
      have fq165435 : fI (F165426 q165292) 27 = p165309 := by rw [he165430]; rfl
      refine Gp_get 27 hm165295 he165430 dr_cX17_step_92 (gk_X17 D I) (Nat.le_of_ble_eq_true rfl) wr_7_101 rfl ?_
      refine G_iconst 1 dr_cX17_step_95 (by decide +kernel) ?_
      refine G_iadd dr_cX17_step_96 (G_nam fun z165436 hz165436 => ?_)
      have ez165436 : z165436.toInt = p165309.toInt + 1 := by rw [gI_add hz165436 bp165309 (gBl (show Int32.toInt 1 = 1 by decide)) (by decide) (by decide), show Int32.toInt 1 = 1 from by decide]
      have bz165436 : gB z165436 1 2049 := gB_add (gI_add hz165436 bp165309 (gBl (show Int32.toInt 1 = 1 by decide)) (by decide) (by decide)) bp165309 (gBl (show Int32.toInt 1 = 1 by decide)) (by decide) (by decide)
      refine G_aload_n 0 dr_cX17_step_97 rfl ?_
      have fq165437 : fR (F165426 q165292) 28 = q165297 := by rw [he165430]; rfl
      refine Gp_get 28 hm165295 he165430 dr_cX17_step_98 (gk_X17 D I) (Nat.le_of_ble_eq_true rfl) wr_7_102 rfl ?_
      refine Gp_alen (Int32.ofNat n165389) 0 hm165386 he165432 dr_cX17_step_101 rfl rfl (G_nam fun z165438 hz165438 => ?_)
      have ez165438 : z165438.toInt = (n165389 : Nat) := gI_ofM hz165438 (by omega)
      have bz165438 : gB z165438 0 16777216 := ⟨by omega, by omega⟩
      refine G_mmin dr_cX17_step_102 wr_11_20 wr_3_227 wr_1_6 wr_3_228 (Nat.le_of_ble_eq_true rfl) (Nat.le_of_ble_eq_true rfl) (show 0 ≤ 0 by first | omega | decide) (show 0 ≤ 0 by first | omega | decide) (G_nam fun z165439 hz165439 => ?_)
      have ez165439 : z165436.toInt ≥ z165439.toInt ∧ z165438.toInt ≥ z165439.toInt ∧ (z165439.toInt = z165436.toInt ∨ z165439.toInt = z165438.toInt) := by have := gI_min hz165439; omega
      have bz165439 : gB z165439 0 2049 := ⟨by omega, by omega⟩
      have hT165440 : RS D I P165290 F165426 γ el := RS_set hT n165428 ht165330 (by decide) ⟨f165429, he165433⟩
      refine Gp_put 27 hm165295 he165430 dr_cX17_step_105 (gk_X17 D I) (Nat.le_of_ble_eq_true rfl) wr_7_101 rfl rfl rfl (Nat.le_of_ble_eq_true rfl) (fun F165441 e165442 n165443 => ?_)
      have he165444 : F165441 q165293 = .inr (20, [.int p165344, .int p165345, .int p165346, .int p165347, .int p165348, .int p165349, .int p165350]) := (n165443 q165293 (rn_oo he165431 he165430 (by decide))).trans he165431
      have he165445 : F165441 q165297 = .inl (I .int, n165389, .inl f165388) := (n165443 q165297 (rn_ao he165432 he165430)).trans he165432
      have he165446 : F165441 (γ 9 20) = .inl (I .int, 2000, .inl f165429) := (n165443 (γ 9 20) (rn_ao he165433 he165430)).trans he165433
      have he165447 : F165441 q165292 = .inr (22, [.ref (γ 9 0), .ref (γ 9 1), .ref (γ 9 2), .ref (γ 9 3), .ref (γ 9 4), .ref (γ 9 5), .ref (γ 9 6), .ref (γ 9 7), .ref (γ 9 8), .int p165299, .int p165300, .int p165301, .int p165302, .int p165303, .int p165304, .ref (γ 9 15), .ref (γ 9 16), .ref (γ 9 17), .ref (γ 9 18), .ref (γ 9 19), .ref (γ 9 20), .ref (γ 9 21), .ref (γ 9 22), .int p165305, .int p165306, .int p165307, .int p165308, .int z165439, .ref q165297, .ref (γ 9 29), .int p165310, .ref (γ 9 31), .int p165311, .int p165312, .int p165313, .ref q165298]) := e165442
      have hs165448 : rStr γ [] F165291 F165441 := rStr_put hs165434 n165443 htq165292 (by decide)
      have fq165449 : F165441 q165292 = cF (F165426 q165292) 27 (.int z165439) := by rw [he165447, he165430]; rfl
      refine G_iconst (-1) dr_cX17_step_108 (by decide +kernel) ?_
      have hT165450 : RS D I P165290 F165441 γ el := RS_set hT165440 n165443 htq165292 (by decide) ⟨q165297, q165298, p165299, p165300, p165301, p165302, p165303, p165304, p165305, p165306, p165307, p165308, z165439, p165310, p165311, p165312, p165313, he165447, ⟨(hB165340.1), (hB165340.2.1), (hB165340.2.2.1), (hB165340.2.2.2.1), (hB165340.2.2.2.2.1), (hB165340.2.2.2.2.2.1), ⟨by omega, by omega⟩, (hB165340.2.2.2.2.2.2.2.1), (hB165340.2.2.2.2.2.2.2.2)⟩, ht165314, ht165315, ht165316, ht165317, ht165318, ht165319, ht165320, ht165321, ht165322, ht165323, ht165324, ht165325, ht165326, ht165327, ht165328, ht165329, ht165330, ht165331, ht165332, ht165333, ht165334, ht165335, ht165336, ht165337, hB165341⟩
      exact G_iretA dr_cX17_step_109 rfl (Nat.le_of_ble_eq_true rfl) (Nat.le_of_ble_eq_true rfl) ⟨F165441, (-1), rfl, rfl, hT165450, hs165448, (Nat.le_of_ble_eq_true rfl), (Nat.le_of_ble_eq_true rfl), (gB_w (gBl (show Int32.toInt (-1) = (-1) by decide)) (by decide) (by decide)), (by rw [show fI (F165441 q165292) 26 = p165308 from by rw [he165447]; rfl, show fI (F165291 q165292) 26 = p165308 from by rw [he165296]; rfl] <;> (have qa0 : Int32.toInt (-1) = (-1) := (by decide); omega)), (by rw [show fI (F165441 q165292) 32 = p165311 from by rw [he165447]; rfl, show fI (F165291 q165292) 32 = p165311 from by rw [he165296]; rfl] <;> (have qa0 : Int32.toInt (-1) = (-1) := (by decide); omega)), (fun R c1 c2 c3 c4 c5 c6 c7 c8 c9 => c3 p165344 p165345 p165309 q165297 f165388 n165389 z165390 z165422 f165425 f165429 F165426 z165436 z165438 z165439 F165441 fq165356 ehs165381 fq165382 fq165383 fq165384 fq165385 he165387 ez165390 r165421 hz165422 he165424 hf165429 n165428 he165433 fq165435 ez165436 fq165437 he165432 ez165438 ez165439 n165443 fq165449)⟩
  by_cases hs165451 : p165344 = 21
  · have ehs165451 : p165344.toInt = 21 := gj_eq hs165451 (show Int32.toInt 21 = 21 by decide)
    have bp165344' : gB p165344 21 21 := ⟨by omega, by omega⟩
    refine G_eqi (y := 21) hs165451 ?_
    refine G_lookup 155 dr_cX17_step_4 (by decide) (by first | rfl | decide) (by decide) ?_
    refine G_aload_n 0 dr_cX17_step_155 rfl ?_
    have fq165452 : fR (F165291 q165292) 20 = (γ 9 20) := by rw [he165296]; rfl
    refine Gp_get 20 hm165295 he165296 dr_cX17_step_156 (gk_X17 D I) (Nat.le_of_ble_eq_true rfl) wr_7_94 rfl ?_
    refine G_aload_n 1 dr_cX17_step_159 rfl ?_
    have fq165453 : fI (F165291 q165293) 1 = p165345 := by rw [he165343]; rfl
    refine Gp_get 1 hm165342 he165343 dr_cX17_step_160 (gk_X15 D I) (Nat.le_of_ble_eq_true rfl) wr_9_182 rfl ?_
    refine G_aload_n 0 dr_cX17_step_163 rfl ?_
    have fq165454 : fR (F165291 q165292) 21 = (γ 9 21) := by rw [he165296]; rfl
    refine Gp_get 21 hm165295 he165296 dr_cX17_step_164 (gk_X17 D I) (Nat.le_of_ble_eq_true rfl) wr_7_95 rfl ?_
    refine G_aload_n 1 dr_cX17_step_167 rfl ?_
    have fq165455 : fI (F165291 q165293) 4 = p165348 := by rw [he165343]; rfl
    refine Gp_get 4 hm165342 he165343 dr_cX17_step_168 (gk_X15 D I) (Nat.le_of_ble_eq_true rfl) wr_9_193 rfl ?_
    have hm165456 : (γ 9 21) ∈ P165290 := RS_m hT ht165331 (by decide)
    obtain ⟨f165458, he165457⟩ := show rk_23 I (F165291 (γ 9 21)) from RS_o hT ht165331
    refine Gp_iald 0 hm165456 he165457 dr_cX17_step_171 rfl (gB_in bp165348 (by decide) (by decide)) (G_nam fun z165459 hz165459 => ?_)
    have bz165459 : gB z165459 (-2147483648) 2147483647 := gB_any z165459
    have hm165460 : (γ 9 20) ∈ P165290 := RS_m hT ht165330 (by decide)
    obtain ⟨f165462, he165461⟩ := show rk_22 I (F165291 (γ 9 20)) from RS_o hT ht165330
    refine Gp_iast 0 hm165460 he165461 dr_cX17_step_172 rfl (gB_in bp165345 (by decide) (by decide)) (fun F165463 e165464 n165465 => ?_)
    obtain ⟨f165466, hf165466⟩ : ∃ z, z = upd f165462 p165345.toNatClampNeg z165459 := ⟨_, rfl⟩
    rw [← hf165466] at e165464
    have he165467 : F165463 q165292 = .inr (22, [.ref (γ 9 0), .ref (γ 9 1), .ref (γ 9 2), .ref (γ 9 3), .ref (γ 9 4), .ref (γ 9 5), .ref (γ 9 6), .ref (γ 9 7), .ref (γ 9 8), .int p165299, .int p165300, .int p165301, .int p165302, .int p165303, .int p165304, .ref (γ 9 15), .ref (γ 9 16), .ref (γ 9 17), .ref (γ 9 18), .ref (γ 9 19), .ref (γ 9 20), .ref (γ 9 21), .ref (γ 9 22), .int p165305, .int p165306, .int p165307, .int p165308, .int p165309, .ref q165297, .ref (γ 9 29), .int p165310, .ref (γ 9 31), .int p165311, .int p165312, .int p165313, .ref q165298]) := (n165465 q165292 (rn_oa he165296 he165461)).trans he165296
    have he165468 : F165463 q165293 = .inr (20, [.int p165344, .int p165345, .int p165346, .int p165347, .int p165348, .int p165349, .int p165350]) := (n165465 q165293 (rn_oa he165343 he165461)).trans he165343
    have he165469 : F165463 (γ 9 21) = .inl (I .int, 2000, .inl f165458) := (n165465 (γ 9 21) (rn_ty ht165331 ht165330 (by decide))).trans he165457
    have he165470 : F165463 (γ 9 20) = .inl (I .int, 2000, .inl f165466) := e165464
    have hs165471 : rStr γ [] F165291 F165463 := rStr_put (rStr_rf (γ := γ) (W := []) (F := F165291)) n165465 ht165330 (by decide)
    refine G_iconst (-1) dr_cX17_step_173 (by decide +kernel) ?_
    have hT165472 : RS D I P165290 F165463 γ el := RS_set hT n165465 ht165330 (by decide) ⟨f165466, he165470⟩
    exact G_iretA dr_cX17_step_174 rfl (Nat.le_of_ble_eq_true rfl) (Nat.le_of_ble_eq_true rfl) ⟨F165463, (-1), rfl, rfl, hT165472, hs165471, (Nat.le_of_ble_eq_true rfl), (Nat.le_of_ble_eq_true rfl), (gB_w (gBl (show Int32.toInt (-1) = (-1) by decide)) (by decide) (by decide)), (by rw [show fI (F165463 q165292) 26 = p165308 from by rw [he165467]; rfl, show fI (F165291 q165292) 26 = p165308 from by rw [he165296]; rfl] <;> (have qa0 : Int32.toInt (-1) = (-1) := (by decide); omega)), (by rw [show fI (F165463 q165292) 32 = p165311 from by rw [he165467]; rfl, show fI (F165291 q165292) 32 = p165311 from by rw [he165296]; rfl] <;> (have qa0 : Int32.toInt (-1) = (-1) := (by decide); omega)), (fun R c1 c2 c3 c4 c5 c6 c7 c8 c9 => c4 p165344 p165345 p165348 f165458 z165459 f165462 f165466 F165463 fq165356 ehs165451 fq165452 fq165453 fq165454 fq165455 he165457 hz165459 he165461 hf165466 n165465 he165470)⟩
  by_cases hs165473 : p165344 = 22
  · have ehs165473 : p165344.toInt = 22 := gj_eq hs165473 (show Int32.toInt 22 = 22 by decide)
    have bp165344' : gB p165344 22 22 := ⟨by omega, by omega⟩
    refine G_eqi (y := 22) hs165473 ?_
    refine G_lookup 110 dr_cX17_step_4 (by decide) (by first | rfl | decide) (by decide) ?_
    refine G_aload_n 0 dr_cX17_step_110 rfl ?_
    have fq165474 : fI (F165291 q165292) 25 = p165307 := by rw [he165296]; rfl
    refine Gp_get 25 hm165295 he165296 dr_cX17_step_111 (gk_X17 D I) (Nat.le_of_ble_eq_true rfl) wr_7_99 rfl ?_
    have bp165307 : gB p165307 0 512 := (hB165340.2.2.2.2.1)
    refine G_sipush 512 dr_cX17_step_114 (by decide +kernel) ?_
    refine G_icmp_ne 122 dr_cX17_step_117 (by decide +kernel) (fun hc165475 => ?_) (fun hc165475 => ?_)
    · have r165476 : p165307.toInt ≠ 512 := gj_neq hc165475 (show Int32.toInt 512 = 512 by decide)
      have bp165307' : gB p165307 0 511 := ⟨by omega, by omega⟩
      refine G_aload_n 0 dr_cX17_step_122 rfl ?_
      have fq165477 : fR (F165291 q165292) 22 = (γ 9 22) := by rw [he165296]; rfl
      refine Gp_get 22 hm165295 he165296 dr_cX17_step_123 (gk_X17 D I) (Nat.le_of_ble_eq_true rfl) wr_7_96 rfl ?_
      refine G_aload_n 0 dr_cX17_step_126 rfl ?_
      refine Gp_get 25 hm165295 he165296 dr_cX17_step_127 (gk_X17 D I) (Nat.le_of_ble_eq_true rfl) wr_7_99 rfl ?_
      refine G_aload_n 0 dr_cX17_step_130 rfl ?_
      refine G_aload_n 1 dr_cX17_step_131 rfl ?_
      have fq165478 : fI (F165291 q165293) 5 = p165349 := by rw [he165343]; rfl
      refine Gp_get 5 hm165342 he165343 dr_cX17_step_132 (gk_X15 D I) (Nat.le_of_ble_eq_true rfl) wr_9_197 rfl ?_
      refine G_aload_n 1 dr_cX17_step_135 rfl ?_
      have fq165479 : fI (F165291 q165293) 2 = p165346 := by rw [he165343]; rfl
      refine Gp_get 2 hm165342 he165343 dr_cX17_step_136 (gk_X15 D I) (Nat.le_of_ble_eq_true rfl) wr_9_186 rfl ?_
      refine Gw_callV (As := [.int p165349, .int p165346]) (gV_ok D I) (ct_7532_SpillForgeModel_value l hl0 D I γ el P165290 F165291 q165292 p165349 p165346 hT htq165292 bp165349 (by omega)) dr_cX17_step_139 ⟨wr_11_100, wr_1_14, wr_11_103, by decide, rfl, (Nat.le_of_ble_eq_true rfl), (Nat.le_of_ble_eq_true rfl)⟩ wr_11_102 wr_p_115 hm165295 he165296 rfl (show 0 + 0 ≤ 0 by first | omega | decide) (show 0 + 0 ≤ 0 by first | omega | decide) (Nat.le_of_ble_eq_true rfl) (fun r165483 w165484 dc165480 ds165481 hp165482 => ?_) (fun _ _ _ _ _ z => z.elim)
      obtain ⟨o165485, rfl, rfl, hdc, hds, ht165486⟩ := hp165482
      have bo165485 := gB_any o165485
      change G _ _ _ _ _ _ _ (.int o165485 :: _) _ _ _
      refine G_widen (cs' := 0) (sl' := 0) (by omega) (by omega) ?_
      have hm165487 : (γ 9 22) ∈ P165290 := RS_m hT ht165332 (by decide)
      obtain ⟨f165489, he165488⟩ := show rk_24 I (F165291 (γ 9 22)) from RS_o hT ht165332
      refine Gp_iast 0 hm165487 he165488 dr_cX17_step_142 rfl (gB_in bp165307' (by decide) (by decide)) (fun F165490 e165491 n165492 => ?_)
      obtain ⟨f165493, hf165493⟩ : ∃ z, z = upd f165489 p165307.toNatClampNeg o165485 := ⟨_, rfl⟩
      rw [← hf165493] at e165491
      have he165494 : F165490 q165292 = .inr (22, [.ref (γ 9 0), .ref (γ 9 1), .ref (γ 9 2), .ref (γ 9 3), .ref (γ 9 4), .ref (γ 9 5), .ref (γ 9 6), .ref (γ 9 7), .ref (γ 9 8), .int p165299, .int p165300, .int p165301, .int p165302, .int p165303, .int p165304, .ref (γ 9 15), .ref (γ 9 16), .ref (γ 9 17), .ref (γ 9 18), .ref (γ 9 19), .ref (γ 9 20), .ref (γ 9 21), .ref (γ 9 22), .int p165305, .int p165306, .int p165307, .int p165308, .int p165309, .ref q165297, .ref (γ 9 29), .int p165310, .ref (γ 9 31), .int p165311, .int p165312, .int p165313, .ref q165298]) := (n165492 q165292 (rn_oa he165296 he165488)).trans he165296
      have he165495 : F165490 q165293 = .inr (20, [.int p165344, .int p165345, .int p165346, .int p165347, .int p165348, .int p165349, .int p165350]) := (n165492 q165293 (rn_oa he165343 he165488)).trans he165343
      have he165496 : F165490 (γ 9 22) = .inl (I .int, 512, .inl f165493) := e165491
      have hs165497 : rStr γ [] F165291 F165490 := rStr_put (rStr_rf (γ := γ) (W := []) (F := F165291)) n165492 ht165332 (by decide)
      refine G_aload_n 0 dr_cX17_step_143 rfl ?_
      refine G_dup dr_cX17_step_144 rfl ?_
      have fq165498 : fI (F165490 q165292) 25 = p165307 := by rw [he165494]; rfl
      refine Gp_get 25 hm165295 he165494 dr_cX17_step_145 (gk_X17 D I) (Nat.le_of_ble_eq_true rfl) wr_7_99 rfl ?_
      refine G_iconst 1 dr_cX17_step_148 (by decide +kernel) ?_
      refine G_iadd dr_cX17_step_149 (G_nam fun z165499 hz165499 => ?_)
      have ez165499 : z165499.toInt = p165307.toInt + 1 := by rw [gI_add hz165499 bp165307' (gBl (show Int32.toInt 1 = 1 by decide)) (by decide) (by decide), show Int32.toInt 1 = 1 from by decide]
      have bz165499 : gB z165499 1 512 := gB_add (gI_add hz165499 bp165307' (gBl (show Int32.toInt 1 = 1 by decide)) (by decide) (by decide)) bp165307' (gBl (show Int32.toInt 1 = 1 by decide)) (by decide) (by decide)
      have hT165500 : RS D I P165290 F165490 γ el := RS_set hT n165492 ht165332 (by decide) ⟨f165493, he165496⟩
      refine Gp_put 25 hm165295 he165494 dr_cX17_step_150 (gk_X17 D I) (Nat.le_of_ble_eq_true rfl) wr_7_99 rfl rfl rfl (Nat.le_of_ble_eq_true rfl) (fun F165501 e165502 n165503 => ?_)
      have he165504 : F165501 q165293 = .inr (20, [.int p165344, .int p165345, .int p165346, .int p165347, .int p165348, .int p165349, .int p165350]) := (n165503 q165293 (rn_oo he165495 he165494 (by decide))).trans he165495
      have he165505 : F165501 (γ 9 22) = .inl (I .int, 512, .inl f165493) := (n165503 (γ 9 22) (rn_ao he165496 he165494)).trans he165496
      have he165506 : F165501 q165292 = .inr (22, [.ref (γ 9 0), .ref (γ 9 1), .ref (γ 9 2), .ref (γ 9 3), .ref (γ 9 4), .ref (γ 9 5), .ref (γ 9 6), .ref (γ 9 7), .ref (γ 9 8), .int p165299, .int p165300, .int p165301, .int p165302, .int p165303, .int p165304, .ref (γ 9 15), .ref (γ 9 16), .ref (γ 9 17), .ref (γ 9 18), .ref (γ 9 19), .ref (γ 9 20), .ref (γ 9 21), .ref (γ 9 22), .int p165305, .int p165306, .int z165499, .int p165308, .int p165309, .ref q165297, .ref (γ 9 29), .int p165310, .ref (γ 9 31), .int p165311, .int p165312, .int p165313, .ref q165298]) := e165502
      have hs165507 : rStr γ [] F165291 F165501 := rStr_put hs165497 n165503 htq165292 (by decide)
      have fq165508 : F165501 q165292 = cF (F165490 q165292) 25 (.int z165499) := by rw [he165506, he165494]; rfl
      refine G_iconst (-1) dr_cX17_step_153 (by decide +kernel) ?_
      have hT165509 : RS D I P165290 F165501 γ el := RS_set hT165500 n165503 htq165292 (by decide) ⟨q165297, q165298, p165299, p165300, p165301, p165302, p165303, p165304, p165305, p165306, z165499, p165308, p165309, p165310, p165311, p165312, p165313, he165506, ⟨(hB165340.1), (hB165340.2.1), (hB165340.2.2.1), (hB165340.2.2.2.1), (gB_w bz165499 (by decide) (by decide)), (hB165340.2.2.2.2.2.1), (hB165340.2.2.2.2.2.2.1), (hB165340.2.2.2.2.2.2.2.1), (hB165340.2.2.2.2.2.2.2.2)⟩, ht165314, ht165315, ht165316, ht165317, ht165318, ht165319, ht165320, ht165321, ht165322, ht165323, ht165324, ht165325, ht165326, ht165327, ht165328, ht165329, ht165330, ht165331, ht165332, ht165333, ht165334, ht165335, ht165336, ht165337, hB165341⟩
      exact G_iretA dr_cX17_step_154 rfl (Nat.le_of_ble_eq_true rfl) (Nat.le_of_ble_eq_true rfl) ⟨F165501, (-1), rfl, rfl, hT165509, hs165507, (Nat.le_of_ble_eq_true rfl), (Nat.le_of_ble_eq_true rfl), (gB_w (gBl (show Int32.toInt (-1) = (-1) by decide)) (by decide) (by decide)), (by rw [show fI (F165501 q165292) 26 = p165308 from by rw [he165506]; rfl, show fI (F165291 q165292) 26 = p165308 from by rw [he165296]; rfl] <;> (have qa0 : Int32.toInt (-1) = (-1) := (by decide); omega)), (by rw [show fI (F165501 q165292) 32 = p165311 from by rw [he165506]; rfl, show fI (F165291 q165292) 32 = p165311 from by rw [he165296]; rfl] <;> (have qa0 : Int32.toInt (-1) = (-1) := (by decide); omega)), (fun R c1 c2 c3 c4 c5 c6 c7 c8 c9 => c5 p165344 p165307 p165349 p165346 o165485 f165489 f165493 F165490 z165499 F165501 fq165356 ehs165473 fq165474 r165476 fq165477 fq165478 fq165479 ht165486 he165488 hf165493 n165492 he165496 fq165498 ez165499 n165503 fq165508)⟩
    · have r165510 : p165307.toInt = 512 := gj_eq hc165475 (show Int32.toInt 512 = 512 by decide)
      have bp165307' : gB p165307 512 512 := ⟨by omega, by omega⟩
      refine G_iconst 5 dr_cX17_step_120 (by decide +kernel) ?_
      exact G_iretA dr_cX17_step_121 rfl (Nat.le_of_ble_eq_true rfl) (Nat.le_of_ble_eq_true rfl) ⟨F165291, 5, rfl, rfl, hT, (rStr_rf (γ := γ) (W := []) (F := F165291)), (Nat.le_of_ble_eq_true rfl), (Nat.le_of_ble_eq_true rfl), (gB_w (gBl (show Int32.toInt 5 = 5 by decide)) (by decide) (by decide)), (by rw [show fI (F165291 q165292) 26 = p165308 from by rw [he165296]; rfl] <;> (have qa0 : Int32.toInt 5 = 5 := (by decide); omega)), (by rw [show fI (F165291 q165292) 32 = p165311 from by rw [he165296]; rfl] <;> (have qa0 : Int32.toInt 5 = 5 := (by decide); omega)), (fun R c1 c2 c3 c4 c5 c6 c7 c8 c9 => c6 p165344 p165307 fq165356 ehs165473 fq165474 r165510)⟩
  by_cases hs165511 : p165344 = 23
  · have ehs165511 : p165344.toInt = 23 := gj_eq hs165511 (show Int32.toInt 23 = 23 by decide)
    have bp165344' : gB p165344 23 23 := ⟨by omega, by omega⟩
    refine G_eqi (y := 23) hs165511 ?_
    refine G_lookup 175 dr_cX17_step_4 (by decide) (by first | rfl | decide) (by decide) ?_
    refine G_aload_n 0 dr_cX17_step_175 rfl ?_
    have fq165512 : fR (F165291 q165292) 21 = (γ 9 21) := by rw [he165296]; rfl
    refine Gp_get 21 hm165295 he165296 dr_cX17_step_176 (gk_X17 D I) (Nat.le_of_ble_eq_true rfl) wr_7_95 rfl ?_
    refine G_aload_n 1 dr_cX17_step_179 rfl ?_
    have fq165513 : fI (F165291 q165293) 4 = p165348 := by rw [he165343]; rfl
    refine Gp_get 4 hm165342 he165343 dr_cX17_step_180 (gk_X15 D I) (Nat.le_of_ble_eq_true rfl) wr_9_193 rfl ?_
    refine G_aload_n 0 dr_cX17_step_183 rfl ?_
    refine G_aload_n 1 dr_cX17_step_184 rfl ?_
    have fq165514 : fI (F165291 q165293) 5 = p165349 := by rw [he165343]; rfl
    refine Gp_get 5 hm165342 he165343 dr_cX17_step_185 (gk_X15 D I) (Nat.le_of_ble_eq_true rfl) wr_9_197 rfl ?_
    refine G_aload_n 1 dr_cX17_step_188 rfl ?_
    have fq165515 : fI (F165291 q165293) 2 = p165346 := by rw [he165343]; rfl
    refine Gp_get 2 hm165342 he165343 dr_cX17_step_189 (gk_X15 D I) (Nat.le_of_ble_eq_true rfl) wr_9_186 rfl ?_
    refine Gw_callV (As := [.int p165349, .int p165346]) (gV_ok D I) (ct_7532_SpillForgeModel_value l hl0 D I γ el P165290 F165291 q165292 p165349 p165346 hT htq165292 bp165349 (by omega)) dr_cX17_step_192 ⟨wr_11_100, wr_1_14, wr_11_103, by decide, rfl, (Nat.le_of_ble_eq_true rfl), (Nat.le_of_ble_eq_true rfl)⟩ wr_11_102 wr_p_115 hm165295 he165296 rfl (show 0 + 0 ≤ 0 by first | omega | decide) (show 0 + 0 ≤ 0 by first | omega | decide) (Nat.le_of_ble_eq_true rfl) (fun r165519 w165520 dc165516 ds165517 hp165518 => ?_) (fun _ _ _ _ _ z => z.elim)
    obtain ⟨o165521, rfl, rfl, hdc, hds, ht165522⟩ := hp165518
    have bo165521 := gB_any o165521
    change G _ _ _ _ _ _ _ (.int o165521 :: _) _ _ _
    refine G_widen (cs' := 0) (sl' := 0) (by omega) (by omega) ?_
    have hm165523 : (γ 9 21) ∈ P165290 := RS_m hT ht165331 (by decide)
    obtain ⟨f165525, he165524⟩ := show rk_23 I (F165291 (γ 9 21)) from RS_o hT ht165331
    refine Gp_iast 0 hm165523 he165524 dr_cX17_step_195 rfl (gB_in bp165348 (by decide) (by decide)) (fun F165526 e165527 n165528 => ?_)
    obtain ⟨f165529, hf165529⟩ : ∃ z, z = upd f165525 p165348.toNatClampNeg o165521 := ⟨_, rfl⟩
    rw [← hf165529] at e165527
    have he165530 : F165526 q165292 = .inr (22, [.ref (γ 9 0), .ref (γ 9 1), .ref (γ 9 2), .ref (γ 9 3), .ref (γ 9 4), .ref (γ 9 5), .ref (γ 9 6), .ref (γ 9 7), .ref (γ 9 8), .int p165299, .int p165300, .int p165301, .int p165302, .int p165303, .int p165304, .ref (γ 9 15), .ref (γ 9 16), .ref (γ 9 17), .ref (γ 9 18), .ref (γ 9 19), .ref (γ 9 20), .ref (γ 9 21), .ref (γ 9 22), .int p165305, .int p165306, .int p165307, .int p165308, .int p165309, .ref q165297, .ref (γ 9 29), .int p165310, .ref (γ 9 31), .int p165311, .int p165312, .int p165313, .ref q165298]) := (n165528 q165292 (rn_oa he165296 he165524)).trans he165296
    have he165531 : F165526 q165293 = .inr (20, [.int p165344, .int p165345, .int p165346, .int p165347, .int p165348, .int p165349, .int p165350]) := (n165528 q165293 (rn_oa he165343 he165524)).trans he165343
    have he165532 : F165526 (γ 9 21) = .inl (I .int, 2000, .inl f165529) := e165527
    have hs165533 : rStr γ [] F165291 F165526 := rStr_put (rStr_rf (γ := γ) (W := []) (F := F165291)) n165528 ht165331 (by decide)
    refine G_iconst (-1) dr_cX17_step_196 (by decide +kernel) ?_
    have hT165534 : RS D I P165290 F165526 γ el := RS_set hT n165528 ht165331 (by decide) ⟨f165529, he165532⟩
    exact G_iretA dr_cX17_step_197 rfl (Nat.le_of_ble_eq_true rfl) (Nat.le_of_ble_eq_true rfl) ⟨F165526, (-1), rfl, rfl, hT165534, hs165533, (Nat.le_of_ble_eq_true rfl), (Nat.le_of_ble_eq_true rfl), (gB_w (gBl (show Int32.toInt (-1) = (-1) by decide)) (by decide) (by decide)), (by rw [show fI (F165526 q165292) 26 = p165308 from by rw [he165530]; rfl, show fI (F165291 q165292) 26 = p165308 from by rw [he165296]; rfl] <;> (have qa0 : Int32.toInt (-1) = (-1) := (by decide); omega)), (by rw [show fI (F165526 q165292) 32 = p165311 from by rw [he165530]; rfl, show fI (F165291 q165292) 32 = p165311 from by rw [he165296]; rfl] <;> (have qa0 : Int32.toInt (-1) = (-1) := (by decide); omega)), (fun R c1 c2 c3 c4 c5 c6 c7 c8 c9 => c7 p165344 p165348 p165349 p165346 o165521 f165525 f165529 F165526 fq165356 ehs165511 fq165512 fq165513 fq165514 fq165515 ht165522 he165524 hf165529 n165528 he165532)⟩
  have ehs165357 := lv_neT hs165357 (show Int32.toInt 0 = 0 by decide)
  have ehs165381 := lv_neT hs165381 (show Int32.toInt 20 = 20 by decide)
  have ehs165451 := lv_neT hs165451 (show Int32.toInt 21 = 21 by decide)
  have ehs165473 := lv_neT hs165473 (show Int32.toInt 22 = 22 by decide)
  have ehs165511 := lv_neT hs165511 (show Int32.toInt 23 = 23 by decide)
  refine G_lookup 221 dr_cX17_step_4 (by decide) (by show Op.lookupswitch.offset [(0, 194), (20, 52), (21, 151), (22, 106), (23, 171)] _ _ = 217; rw [lv_osw hs165357 (show Int32.toInt 0 = 0 by decide), lv_osw hs165381 (show Int32.toInt 20 = 20 by decide), lv_osw hs165451 (show Int32.toInt 21 = 21 by decide), lv_osw hs165473 (show Int32.toInt 22 = 22 by decide), lv_osw hs165511 (show Int32.toInt 23 = 23 by decide)]; first | done | rfl) (by decide) ?_
  refine G_aload_n 1 dr_cX17_step_221 rfl ?_
  refine Gp_get 0 hm165342 he165343 dr_cX17_step_222 (gk_X15 D I) (Nat.le_of_ble_eq_true rfl) wr_9_177 rfl ?_
  refine G_aload_n 0 dr_cX17_step_225 rfl ?_
  refine G_aload_n 1 dr_cX17_step_226 rfl ?_
  have fq165535 : fI (F165291 q165293) 5 = p165349 := by rw [he165343]; rfl
  refine Gp_get 5 hm165342 he165343 dr_cX17_step_227 (gk_X15 D I) (Nat.le_of_ble_eq_true rfl) wr_9_197 rfl ?_
  refine G_aload_n 1 dr_cX17_step_230 rfl ?_
  have fq165536 : fI (F165291 q165293) 2 = p165346 := by rw [he165343]; rfl
  refine Gp_get 2 hm165342 he165343 dr_cX17_step_231 (gk_X15 D I) (Nat.le_of_ble_eq_true rfl) wr_9_186 rfl ?_
  refine Gw_callV (As := [.int p165349, .int p165346]) (gV_ok D I) (ct_7532_SpillForgeModel_value l hl0 D I γ el P165290 F165291 q165292 p165349 p165346 hT htq165292 bp165349 (by omega)) dr_cX17_step_234 ⟨wr_11_100, wr_1_14, wr_11_103, by decide, rfl, (Nat.le_of_ble_eq_true rfl), (Nat.le_of_ble_eq_true rfl)⟩ wr_11_102 wr_p_115 hm165295 he165296 rfl (show 0 + 0 ≤ 0 by first | omega | decide) (show 0 + 0 ≤ 0 by first | omega | decide) (Nat.le_of_ble_eq_true rfl) (fun r165540 w165541 dc165537 ds165538 hp165539 => ?_) (fun _ _ _ _ _ z => z.elim)
  obtain ⟨o165542, rfl, rfl, hdc, hds, ht165543⟩ := hp165539
  have bo165542 := gB_any o165542
  change G _ _ _ _ _ _ _ (.int o165542 :: _) _ _ _
  refine G_widen (cs' := 0) (sl' := 0) (by omega) (by omega) ?_
  refine G_aload_n 0 dr_cX17_step_237 rfl ?_
  refine G_aload_n 1 dr_cX17_step_238 rfl ?_
  have fq165544 : fI (F165291 q165293) 6 = p165350 := by rw [he165343]; rfl
  refine Gp_get 6 hm165342 he165343 dr_cX17_step_239 (gk_X15 D I) (Nat.le_of_ble_eq_true rfl) wr_9_202 rfl ?_
  refine G_aload_n 1 dr_cX17_step_242 rfl ?_
  have fq165545 : fI (F165291 q165293) 3 = p165347 := by rw [he165343]; rfl
  refine Gp_get 3 hm165342 he165343 dr_cX17_step_243 (gk_X15 D I) (Nat.le_of_ble_eq_true rfl) wr_9_190 rfl ?_
  refine Gw_callV (As := [.int p165350, .int p165347]) (gV_ok D I) (ct_7532_SpillForgeModel_value l hl0 D I γ el P165290 F165291 q165292 p165350 p165347 hT htq165292 bp165350 (by omega)) dr_cX17_step_246 ⟨wr_11_100, wr_1_14, wr_11_103, by decide, rfl, (Nat.le_of_ble_eq_true rfl), (Nat.le_of_ble_eq_true rfl)⟩ wr_11_102 wr_p_115 hm165295 he165296 rfl (show 0 + 0 ≤ 0 by first | omega | decide) (show 0 + 0 ≤ 0 by first | omega | decide) (Nat.le_of_ble_eq_true rfl) (fun r165549 w165550 dc165546 ds165547 hp165548 => ?_) (fun _ _ _ _ _ z => z.elim)
  obtain ⟨o165551, rfl, rfl, hdc, hds, ht165552⟩ := hp165548
  have bo165551 := gB_any o165551
  change G _ _ _ _ _ _ _ (.int o165551 :: _) _ _ _
  refine G_widen (cs' := 0) (sl' := 0) (by omega) (by omega) ?_
  refine Gw_callS (As := [.int p165344, .int o165542, .int o165551]) (gV_ok D I) (cp_2035_SpillForgeModel_result l hl0 D I P165290 F165291 p165344 o165542 o165551 ) dr_cX17_step_249 ⟨wr_11_104, wr_1_14, wr_11_106, by decide, rfl, (Nat.le_of_ble_eq_true rfl), (Nat.le_of_ble_eq_true rfl)⟩ wr_11_105 (show 0 + 0 ≤ 0 by first | omega | decide) (show 0 + 0 ≤ 0 by first | omega | decide) (Nat.le_of_ble_eq_true rfl) (fun r165556 w165557 dc165553 ds165554 hp165555 => ?_) (fun _ _ _ _ _ z => z.elim)
  obtain ⟨ol165558, rfl, rfl, hdc, hds, ht165559⟩ := hp165555
  change G _ _ _ _ _ _ _ (.long ol165558 :: _) _ _ _
  refine G_widen (cs' := 0) (sl' := 0) (by omega) (by omega) ?_
  refine G_lstore_n (L' := [(2, .long ol165558), (0, .ref q165292), (1, .ref q165293)]) dr_cX17_step_252 (Nat.le_of_ble_eq_true rfl) rfl ?_
  refine G_lload_n 0 dr_cX17_step_253 rfl ?_
  refine G_ldc2 4294967296 dr_cX17_step_254 wr_11_107 ?_
  refine G_lcmp dr_cX17_step_257 (G_nam fun z165560 hz165560 => ?_)
  have bz165560 : gB z165560 (-1) 1 := gB_cmp hz165560
  refine G_if_ne 263 dr_cX17_step_258 (by decide +kernel) (fun hc165561 => ?_) (fun hc165561 => ?_)
  · have r165562 : z165560.toInt ≠ 0 := gj_neq hc165561 (show Int32.toInt 0 = 0 by decide)
    have lhc165561 := gC_cmpN hz165560 hc165561
    refine G_aload_n 1 dr_cX17_step_263 rfl ?_
    have fq165563 : fR (F165291 q165292) 20 = (γ 9 20) := by rw [he165296]; rfl
    refine Gp_get 20 hm165295 he165296 dr_cX17_step_264 (gk_X17 D I) (Nat.le_of_ble_eq_true rfl) wr_7_94 rfl ?_
    refine G_aload_n 2 dr_cX17_step_267 rfl ?_
    have fq165564 : fI (F165291 q165293) 1 = p165345 := by rw [he165343]; rfl
    refine Gp_get 1 hm165342 he165343 dr_cX17_step_268 (gk_X15 D I) (Nat.le_of_ble_eq_true rfl) wr_9_182 rfl ?_
    refine G_lload_n 0 dr_cX17_step_271 rfl ?_
    refine G_l2i dr_cX17_step_272 (G_nam fun z165565 hz165565 => ?_)
    have bz165565 : gB z165565 (-2147483648) 2147483647 := gB_any z165565
    have hm165566 : (γ 9 20) ∈ P165290 := RS_m hT ht165330 (by decide)
    obtain ⟨f165568, he165567⟩ := show rk_22 I (F165291 (γ 9 20)) from RS_o hT ht165330
    refine Gp_iast 0 hm165566 he165567 dr_cX17_step_273 rfl (gB_in bp165345 (by decide) (by decide)) (fun F165569 e165570 n165571 => ?_)
    obtain ⟨f165572, hf165572⟩ : ∃ z, z = upd f165568 p165345.toNatClampNeg z165565 := ⟨_, rfl⟩
    rw [← hf165572] at e165570
    have he165573 : F165569 q165292 = .inr (22, [.ref (γ 9 0), .ref (γ 9 1), .ref (γ 9 2), .ref (γ 9 3), .ref (γ 9 4), .ref (γ 9 5), .ref (γ 9 6), .ref (γ 9 7), .ref (γ 9 8), .int p165299, .int p165300, .int p165301, .int p165302, .int p165303, .int p165304, .ref (γ 9 15), .ref (γ 9 16), .ref (γ 9 17), .ref (γ 9 18), .ref (γ 9 19), .ref (γ 9 20), .ref (γ 9 21), .ref (γ 9 22), .int p165305, .int p165306, .int p165307, .int p165308, .int p165309, .ref q165297, .ref (γ 9 29), .int p165310, .ref (γ 9 31), .int p165311, .int p165312, .int p165313, .ref q165298]) := (n165571 q165292 (rn_oa he165296 he165567)).trans he165296
    have he165574 : F165569 q165293 = .inr (20, [.int p165344, .int p165345, .int p165346, .int p165347, .int p165348, .int p165349, .int p165350]) := (n165571 q165293 (rn_oa he165343 he165567)).trans he165343
    have he165575 : F165569 (γ 9 20) = .inl (I .int, 2000, .inl f165572) := e165570
    have hs165576 : rStr γ [] F165291 F165569 := rStr_put (rStr_rf (γ := γ) (W := []) (F := F165291)) n165571 ht165330 (by decide)
    refine G_iconst (-1) dr_cX17_step_274 (by decide +kernel) ?_
    have hT165577 : RS D I P165290 F165569 γ el := RS_set hT n165571 ht165330 (by decide) ⟨f165572, he165575⟩
    exact G_iretA dr_cX17_step_275 rfl (Nat.le_of_ble_eq_true rfl) (Nat.le_of_ble_eq_true rfl) ⟨F165569, (-1), rfl, rfl, hT165577, hs165576, (Nat.le_of_ble_eq_true rfl), (Nat.le_of_ble_eq_true rfl), (gB_w (gBl (show Int32.toInt (-1) = (-1) by decide)) (by decide) (by decide)), (by rw [show fI (F165569 q165292) 26 = p165308 from by rw [he165573]; rfl, show fI (F165291 q165292) 26 = p165308 from by rw [he165296]; rfl] <;> (have qa0 : Int32.toInt (-1) = (-1) := (by decide); omega)), (by rw [show fI (F165569 q165292) 32 = p165311 from by rw [he165573]; rfl, show fI (F165291 q165292) 32 = p165311 from by rw [he165296]; rfl] <;> (have qa0 : Int32.toInt (-1) = (-1) := (by decide); omega)), (fun R c1 c2 c3 c4 c5 c6 c7 c8 c9 => c8 p165344 p165349 p165346 o165542 p165350 p165347 o165551 ol165558 p165345 z165565 f165568 f165572 F165569 fq165356 ehs165357 ehs165381 ehs165451 ehs165473 ehs165511 fq165535 fq165536 ht165543 fq165544 fq165545 ht165552 ht165559 lhc165561 fq165563 fq165564 hz165565 he165567 hf165572 n165571 he165575)⟩
  · have r165578 : z165560.toInt = 0 := gj_eq hc165561 (show Int32.toInt 0 = 0 by decide)
    have bz165560' : gB z165560 0 0 := ⟨by omega, by omega⟩
    have lhc165561 := gC_cmpE hz165560 hc165561
    refine G_iconst 1 dr_cX17_step_261 (by decide +kernel) ?_
    exact G_iretA dr_cX17_step_262 rfl (Nat.le_of_ble_eq_true rfl) (Nat.le_of_ble_eq_true rfl) ⟨F165291, 1, rfl, rfl, hT, (rStr_rf (γ := γ) (W := []) (F := F165291)), (Nat.le_of_ble_eq_true rfl), (Nat.le_of_ble_eq_true rfl), (gB_w (gBl (show Int32.toInt 1 = 1 by decide)) (by decide) (by decide)), (by rw [show fI (F165291 q165292) 26 = p165308 from by rw [he165296]; rfl] <;> (have qa0 : Int32.toInt 1 = 1 := (by decide); omega)), (by rw [show fI (F165291 q165292) 32 = p165311 from by rw [he165296]; rfl] <;> (have qa0 : Int32.toInt 1 = 1 := (by decide); omega)), (fun R c1 c2 c3 c4 c5 c6 c7 c8 c9 => c9 p165344 p165349 p165346 o165542 p165350 p165347 o165551 ol165558 fq165356 ehs165357 ehs165381 ehs165451 ehs165473 ehs165511 fq165535 fq165536 ht165543 fq165544 fq165545 ht165552 ht165559 lhc165561)⟩
/- tr_RModel_no: F -/
def tr_RModel_no (D : va_G) (I : FieldType → ClassId) (γ el : Nat → Nat → Nat) (F : Nat → va_E) (q0 : Nat) (a1 : Int32) (o1 : Nat → va_E) : Prop := ∀ R : (Nat → va_E) → Prop,
  (∀ (x1 : Nat → va_E), (∀ b, b ≠ q0 → x1 b = F b) → x1 q0 = cF (F q0) 30 (.int a1) → R x1) →
  R o1
abbrev ky_165671_SpillForgeModel_no : gKey := (cX17_no, 2, "SpillForgeModel", (some FieldType.int), [], "no", fun _ _ => True)
def pt_165671_SpillForgeModel_no (D : va_G) (I : FieldType → ClassId) (γ el : Nat → Nat → Nat) (P165667 : List Nat) (F165668 : Nat → va_E) (q165669 : Nat) (p165670 : Int32) : Option Value → va_W → Nat → Nat → Prop := fun r w dc ds => ∃ (F165726 : Nat → va_E), r = some (.int 0) ∧ w = va_pl P165667 F165726 ∧ RS D I P165667 F165726 γ el ∧ rStr γ [] F165668 F165726 ∧ dc ≤ 0 ∧ ds ≤ 0 ∧ (fI (F165726 q165669) 32).toInt = (fI (F165668 q165669) 32).toInt ∧ (fI (F165726 q165669) 30).toInt = p165670.toInt ∧ tr_RModel_no D I γ el F165668 q165669 p165670 F165726
set_option maxRecDepth 100000 in
set_option maxHeartbeats 4000000 in
theorem ct_165671_SpillForgeModel_no (l : Launch) (hl0 : l.stackTraces = false) (D : va_G) (I : FieldType → ClassId) (γ el : Nat → Nat → Nat) (P165667 : List Nat) (F165668 : Nat → va_E) (q165669 : Nat) (p165670 : Int32) (hT : RS D I P165667 F165668 γ el) (htq165669 : rKd γ q165669 10) : CtA (gV D I) l yX17_no cX17_no 2 (some FieldType.int) 0 0 0 0 [.ref q165669, .int p165670] (va_pl P165667 F165668) (pt_165671_SpillForgeModel_no D I γ el P165667 F165668 q165669 p165670) gNA := by
  refine CtA_of hl0 (by decide) (Nat.le_of_ble_eq_true rfl) ?_
  have bp165670 := gB_any p165670
  have hm165672 : q165669 ∈ P165667 := RS_m hT htq165669 (by decide)
  obtain ⟨q165674, q165675, p165676, p165677, p165678, p165679, p165680, p165681, p165682, p165683, p165684, p165685, p165686, p165687, p165688, p165689, p165690, he165673, hB165717, ht165691, ht165692, ht165693, ht165694, ht165695, ht165696, ht165697, ht165698, ht165699, ht165700, ht165701, ht165702, ht165703, ht165704, ht165705, ht165706, ht165707, ht165708, ht165709, ht165710, ht165711, ht165712, ht165713, ht165714, hB165718⟩ := show rk_10 γ (F165668 q165669) from RS_o hT htq165669
  refine G_aload_n 0 dr_cX17_no_0 rfl ?_
  refine G_iload_n 1 dr_cX17_no_1 rfl ?_
  refine Gp_put 30 hm165672 he165673 dr_cX17_no_2 (gk_X17 D I) (Nat.le_of_ble_eq_true rfl) wr_7_104 rfl rfl rfl (Nat.le_of_ble_eq_true rfl) (fun F165719 e165720 n165721 => ?_)
  have he165722 : F165719 q165669 = .inr (22, [.ref (γ 9 0), .ref (γ 9 1), .ref (γ 9 2), .ref (γ 9 3), .ref (γ 9 4), .ref (γ 9 5), .ref (γ 9 6), .ref (γ 9 7), .ref (γ 9 8), .int p165676, .int p165677, .int p165678, .int p165679, .int p165680, .int p165681, .ref (γ 9 15), .ref (γ 9 16), .ref (γ 9 17), .ref (γ 9 18), .ref (γ 9 19), .ref (γ 9 20), .ref (γ 9 21), .ref (γ 9 22), .int p165682, .int p165683, .int p165684, .int p165685, .int p165686, .ref q165674, .ref (γ 9 29), .int p165670, .ref (γ 9 31), .int p165688, .int p165689, .int p165690, .ref q165675]) := e165720
  have hs165723 : rStr γ [] F165668 F165719 := rStr_put (rStr_rf (γ := γ) (W := []) (F := F165668)) n165721 htq165669 (by decide)
  have fq165724 : F165719 q165669 = cF (F165668 q165669) 30 (.int p165670) := by rw [he165722, he165673]; rfl
  refine G_iconst 0 dr_cX17_no_5 (by decide +kernel) ?_
  have hT165725 : RS D I P165667 F165719 γ el := RS_set hT n165721 htq165669 (by decide) ⟨q165674, q165675, p165676, p165677, p165678, p165679, p165680, p165681, p165682, p165683, p165684, p165685, p165686, p165670, p165688, p165689, p165690, he165722, ⟨(hB165717.1), (hB165717.2.1), (hB165717.2.2.1), (hB165717.2.2.2.1), (hB165717.2.2.2.2.1), (hB165717.2.2.2.2.2.1), (hB165717.2.2.2.2.2.2.1), (hB165717.2.2.2.2.2.2.2.1), (hB165717.2.2.2.2.2.2.2.2)⟩, ht165691, ht165692, ht165693, ht165694, ht165695, ht165696, ht165697, ht165698, ht165699, ht165700, ht165701, ht165702, ht165703, ht165704, ht165705, ht165706, ht165707, ht165708, ht165709, ht165710, ht165711, ht165712, ht165713, ht165714, hB165718⟩
  exact G_iretA dr_cX17_no_6 rfl (Nat.le_of_ble_eq_true rfl) (Nat.le_of_ble_eq_true rfl) ⟨F165719, rfl, rfl, hT165725, hs165723, (Nat.le_of_ble_eq_true rfl), (Nat.le_of_ble_eq_true rfl), (by rw [show fI (F165719 q165669) 32 = p165688 from by rw [he165722]; rfl, show fI (F165668 q165669) 32 = p165688 from by rw [he165673]; rfl] <;> (have qa0 : Int32.toInt 0 = 0 := (by decide); omega)), (by rw [show fI (F165719 q165669) 30 = p165670 from by rw [he165722]; rfl] <;> (have qa0 : Int32.toInt 0 = 0 := (by decide); omega)), (fun R c1 => c1 F165719 n165721 fq165724)⟩
/- tr_RModel_told: result, F -/
def tr_RModel_told (D : va_G) (I : FieldType → ClassId) (γ el : Nat → Nat → Nat) (P : List Nat) (F : Nat → va_E) (q0 : Nat) (a1 : Int32) (o1 : Int32) (o2 : Nat → va_E) : Prop := ∀ R : (Int32) → (Nat → va_E) → Prop,
  (∀ (x1 : Nat → va_E) (x2 : Int32), (∀ b, b ≠ q0 → x1 b = F b) → x1 q0 = cF (F q0) 30 (.int 0) → a1.toInt = 0 → fI (x1 q0) 23 = x2 → x2.toInt ≠ 0 → R (0 : Int32) x1) →
  (∀ (x1 : Nat → va_E) (x2 : Int32) (x3 : Int32), (∀ b, b ≠ q0 → x1 b = F b) → x1 q0 = cF (F q0) 30 (.int 0) → a1.toInt = 0 → fI (x1 q0) 23 = x2 → x2.toInt = 0 → fI (x1 q0) 24 = x3 → R x3 x1) →
  (∀ (x1 : Nat → va_E) (x2 : Int32), (∀ b, b ≠ q0 → x1 b = F b) → x1 q0 = cF (F q0) 30 (.int 0) → a1.toInt = 1 → fI (x1 q0) 25 = x2 → R x2 x1) →
  (∀ (x1 : Nat → va_E) (x2 : Int32), (∀ b, b ≠ q0 → x1 b = F b) → x1 q0 = cF (F q0) 30 (.int 0) → a1.toInt = 2 → fI (x1 q0) 26 = x2 → R x2 x1) →
  (∀ (x1 : Nat → va_E) (x2 : Int32), (∀ b, b ≠ q0 → x1 b = F b) → x1 q0 = cF (F q0) 30 (.int 0) → a1.toInt = 3 → fI (x1 q0) 27 = x2 → R x2 x1) →
  (∀ (x1 : Nat → va_E) (x2 : Int32), (∀ b, b ≠ q0 → x1 b = F b) → x1 q0 = cF (F q0) 30 (.int 0) → a1.toInt = 4 → fI (x1 q0) 23 = x2 → R x2 x1) →
  (∀ (x1 : Nat → va_E) (x2 : Nat → va_E), (∀ b, b ≠ q0 → x1 b = F b) → x1 q0 = cF (F q0) 30 (.int 0) → a1.toInt ≠ 0 → a1.toInt ≠ 1 → a1.toInt ≠ 2 → a1.toInt ≠ 3 → a1.toInt ≠ 4 → RS D I P x2 γ el → rStr γ [] x1 x2 → (fI (x2 q0) 32).toInt = (fI (x1 q0) 32).toInt → (fI (x2 q0) 30).toInt = 1 → tr_RModel_no D I γ el x1 q0 (1 : Int32) x2 → R (0 : Int32) x2) →
  R o1 o2
abbrev ky_165585_SpillForgeModel_told : gKey := (cX17_told, 2, "SpillForgeModel", (some FieldType.int), [], "told", fun _ _ => True)
def pt_165585_SpillForgeModel_told (D : va_G) (I : FieldType → ClassId) (γ el : Nat → Nat → Nat) (P165581 : List Nat) (F165582 : Nat → va_E) (q165583 : Nat) (p165584 : Int32) : Option Value → va_W → Nat → Nat → Prop := fun r w dc ds => ∃ (F165790 : Nat → va_E) (o165789 : Int32), r = some (.int o165789) ∧ w = va_pl P165581 F165790 ∧ RS D I P165581 F165790 γ el ∧ rStr γ [] F165582 F165790 ∧ dc ≤ 0 ∧ ds ≤ 0 ∧ (fI (F165790 q165583) 32).toInt = (fI (F165582 q165583) 32).toInt ∧ tr_RModel_told D I γ el P165581 F165582 q165583 p165584 o165789 F165790
set_option maxRecDepth 100000 in
set_option maxHeartbeats 4000000 in
theorem ct_165585_SpillForgeModel_told (l : Launch) (hl0 : l.stackTraces = false) (D : va_G) (I : FieldType → ClassId) (γ el : Nat → Nat → Nat) (P165581 : List Nat) (F165582 : Nat → va_E) (q165583 : Nat) (p165584 : Int32) (hT : RS D I P165581 F165582 γ el) (htq165583 : rKd γ q165583 10) : CtA (gV D I) l yX17_told cX17_told 2 (some FieldType.int) 1 21 0 0 [.ref q165583, .int p165584] (va_pl P165581 F165582) (pt_165585_SpillForgeModel_told D I γ el P165581 F165582 q165583 p165584) gNA := by
  refine CtA_of hl0 (by decide) (Nat.le_of_ble_eq_true rfl) ?_
  have bp165584 := gB_any p165584
  have hm165586 : q165583 ∈ P165581 := RS_m hT htq165583 (by decide)
  obtain ⟨q165588, q165589, p165590, p165591, p165592, p165593, p165594, p165595, p165596, p165597, p165598, p165599, p165600, p165601, p165602, p165603, p165604, he165587, hB165631, ht165605, ht165606, ht165607, ht165608, ht165609, ht165610, ht165611, ht165612, ht165613, ht165614, ht165615, ht165616, ht165617, ht165618, ht165619, ht165620, ht165621, ht165622, ht165623, ht165624, ht165625, ht165626, ht165627, ht165628, hB165632⟩ := show rk_10 γ (F165582 q165583) from RS_o hT htq165583
  have ac165633 : (fI (F165582 q165583) 32).toInt = p165602.toInt := by rw [he165587]; rfl
  have bp165602 : gB p165602 0 8192 := (hB165631.2.2.2.2.2.2.2.1)
  refine G_aload_n 0 dr_cX17_told_0 rfl ?_
  refine G_iconst 0 dr_cX17_told_1 (by decide +kernel) ?_
  refine Gp_put 30 hm165586 he165587 dr_cX17_told_2 (gk_X17 D I) (Nat.le_of_ble_eq_true rfl) wr_7_104 rfl rfl rfl (Nat.le_of_ble_eq_true rfl) (fun F165634 e165635 n165636 => ?_)
  have he165637 : F165634 q165583 = .inr (22, [.ref (γ 9 0), .ref (γ 9 1), .ref (γ 9 2), .ref (γ 9 3), .ref (γ 9 4), .ref (γ 9 5), .ref (γ 9 6), .ref (γ 9 7), .ref (γ 9 8), .int p165590, .int p165591, .int p165592, .int p165593, .int p165594, .int p165595, .ref (γ 9 15), .ref (γ 9 16), .ref (γ 9 17), .ref (γ 9 18), .ref (γ 9 19), .ref (γ 9 20), .ref (γ 9 21), .ref (γ 9 22), .int p165596, .int p165597, .int p165598, .int p165599, .int p165600, .ref q165588, .ref (γ 9 29), .int 0, .ref (γ 9 31), .int p165602, .int p165603, .int p165604, .ref q165589]) := e165635
  have hs165638 : rStr γ [] F165582 F165634 := rStr_put (rStr_rf (γ := γ) (W := []) (F := F165582)) n165636 htq165583 (by decide)
  have fq165639 : F165634 q165583 = cF (F165582 q165583) 30 (.int 0) := by rw [he165637, he165587]; rfl
  refine G_iload_n 1 dr_cX17_told_5 rfl ?_
  by_cases hs165640 : p165584 = 0
  · have ehs165640 : p165584.toInt = 0 := gj_eq hs165640 (show Int32.toInt 0 = 0 by decide)
    have bp165584' : gB p165584 0 0 := ⟨by omega, by omega⟩
    refine G_eqi (y := 0) hs165640 ?_
    refine G_tableIn 40 dr_cX17_told_6 (by decide) (by decide) (by first | rfl | decide) (by decide) ?_
    refine G_aload_n 0 dr_cX17_told_40 rfl ?_
    have fq165641 : fI (F165634 q165583) 23 = p165596 := by rw [he165637]; rfl
    refine Gp_get 23 hm165586 he165637 dr_cX17_told_41 (gk_X17 D I) (Nat.le_of_ble_eq_true rfl) wr_7_97 rfl ?_
    have bp165596 : gB p165596 (-2147483648) 2147483647 := (gB_any p165596)
    refine G_if_ne 54 dr_cX17_told_44 (by decide +kernel) (fun hc165642 => ?_) (fun hc165642 => ?_)
    · have r165643 : p165596.toInt ≠ 0 := gj_neq hc165642 (show Int32.toInt 0 = 0 by decide)
      refine G_iconst 0 dr_cX17_told_54 (by decide +kernel) ?_
      have hT165644 : RS D I P165581 F165634 γ el := RS_set hT n165636 htq165583 (by decide) ⟨q165588, q165589, p165590, p165591, p165592, p165593, p165594, p165595, p165596, p165597, p165598, p165599, p165600, 0, p165602, p165603, p165604, he165637, ⟨(hB165631.1), (hB165631.2.1), (hB165631.2.2.1), (hB165631.2.2.2.1), (hB165631.2.2.2.2.1), (hB165631.2.2.2.2.2.1), (hB165631.2.2.2.2.2.2.1), bp165602, (hB165631.2.2.2.2.2.2.2.2)⟩, ht165605, ht165606, ht165607, ht165608, ht165609, ht165610, ht165611, ht165612, ht165613, ht165614, ht165615, ht165616, ht165617, ht165618, ht165619, ht165620, ht165621, ht165622, ht165623, ht165624, ht165625, ht165626, ht165627, ht165628, hB165632⟩
      have ac165645 : (fI (F165634 q165583) 32).toInt = p165602.toInt := by rw [he165637]; rfl
      exact G_iretA dr_cX17_told_55 rfl (Nat.le_of_ble_eq_true rfl) (Nat.le_of_ble_eq_true rfl) ⟨F165634, 0, rfl, rfl, hT165644, hs165638, (Nat.le_of_ble_eq_true rfl), (Nat.le_of_ble_eq_true rfl), (by have qa0 : Int32.toInt 0 = 0 := (by decide); omega), (fun R c1 c2 c3 c4 c5 c6 c7 => c1 F165634 p165596 n165636 fq165639 ehs165640 fq165641 r165643)⟩
    · have r165646 : p165596.toInt = 0 := gj_eq hc165642 (show Int32.toInt 0 = 0 by decide)
      have bp165596' : gB p165596 0 0 := ⟨by omega, by omega⟩
      refine G_aload_n 0 dr_cX17_told_47 rfl ?_
      have fq165647 : fI (F165634 q165583) 24 = p165597 := by rw [he165637]; rfl
      refine Gp_get 24 hm165586 he165637 dr_cX17_told_48 (gk_X17 D I) (Nat.le_of_ble_eq_true rfl) wr_7_98 rfl ?_
      have bp165597 : gB p165597 (-2147483648) 2147483647 := (gB_any p165597)
      refine G_goto 55 dr_cX17_told_51 (by decide +kernel) ?_
      have hT165648 : RS D I P165581 F165634 γ el := RS_set hT n165636 htq165583 (by decide) ⟨q165588, q165589, p165590, p165591, p165592, p165593, p165594, p165595, p165596, p165597, p165598, p165599, p165600, 0, p165602, p165603, p165604, he165637, ⟨(hB165631.1), (hB165631.2.1), (hB165631.2.2.1), (hB165631.2.2.2.1), (hB165631.2.2.2.2.1), (hB165631.2.2.2.2.2.1), (hB165631.2.2.2.2.2.2.1), bp165602, (hB165631.2.2.2.2.2.2.2.2)⟩, ht165605, ht165606, ht165607, ht165608, ht165609, ht165610, ht165611, ht165612, ht165613, ht165614, ht165615, ht165616, ht165617, ht165618, ht165619, ht165620, ht165621, ht165622, ht165623, ht165624, ht165625, ht165626, ht165627, ht165628, hB165632⟩
      have ac165649 : (fI (F165634 q165583) 32).toInt = p165602.toInt := by rw [he165637]; rfl
      exact G_iretA dr_cX17_told_55 rfl (Nat.le_of_ble_eq_true rfl) (Nat.le_of_ble_eq_true rfl) ⟨F165634, p165597, rfl, rfl, hT165648, hs165638, (Nat.le_of_ble_eq_true rfl), (Nat.le_of_ble_eq_true rfl), (by omega), (fun R c1 c2 c3 c4 c5 c6 c7 => c2 F165634 p165596 p165597 n165636 fq165639 ehs165640 fq165641 r165646 fq165647)⟩
  by_cases hs165650 : p165584 = 1
  · have ehs165650 : p165584.toInt = 1 := gj_eq hs165650 (show Int32.toInt 1 = 1 by decide)
    have bp165584' : gB p165584 1 1 := ⟨by omega, by omega⟩
    refine G_eqi (y := 1) hs165650 ?_
    refine G_tableIn 56 dr_cX17_told_6 (by decide) (by decide) (by first | rfl | decide) (by decide) ?_
    refine G_aload_n 0 dr_cX17_told_56 rfl ?_
    have fq165651 : fI (F165634 q165583) 25 = p165598 := by rw [he165637]; rfl
    refine Gp_get 25 hm165586 he165637 dr_cX17_told_57 (gk_X17 D I) (Nat.le_of_ble_eq_true rfl) wr_7_99 rfl ?_
    have bp165598 : gB p165598 0 512 := (hB165631.2.2.2.2.1)
    have hT165652 : RS D I P165581 F165634 γ el := RS_set hT n165636 htq165583 (by decide) ⟨q165588, q165589, p165590, p165591, p165592, p165593, p165594, p165595, p165596, p165597, p165598, p165599, p165600, 0, p165602, p165603, p165604, he165637, ⟨(hB165631.1), (hB165631.2.1), (hB165631.2.2.1), (hB165631.2.2.2.1), bp165598, (hB165631.2.2.2.2.2.1), (hB165631.2.2.2.2.2.2.1), bp165602, (hB165631.2.2.2.2.2.2.2.2)⟩, ht165605, ht165606, ht165607, ht165608, ht165609, ht165610, ht165611, ht165612, ht165613, ht165614, ht165615, ht165616, ht165617, ht165618, ht165619, ht165620, ht165621, ht165622, ht165623, ht165624, ht165625, ht165626, ht165627, ht165628, hB165632⟩
    have ac165653 : (fI (F165634 q165583) 32).toInt = p165602.toInt := by rw [he165637]; rfl
    exact G_iretA dr_cX17_told_60 rfl (Nat.le_of_ble_eq_true rfl) (Nat.le_of_ble_eq_true rfl) ⟨F165634, p165598, rfl, rfl, hT165652, hs165638, (Nat.le_of_ble_eq_true rfl), (Nat.le_of_ble_eq_true rfl), (by omega), (fun R c1 c2 c3 c4 c5 c6 c7 => c3 F165634 p165598 n165636 fq165639 ehs165650 fq165651)⟩
  by_cases hs165654 : p165584 = 2
  · have ehs165654 : p165584.toInt = 2 := gj_eq hs165654 (show Int32.toInt 2 = 2 by decide)
    have bp165584' : gB p165584 2 2 := ⟨by omega, by omega⟩
    refine G_eqi (y := 2) hs165654 ?_
    refine G_tableIn 61 dr_cX17_told_6 (by decide) (by decide) (by first | rfl | decide) (by decide) ?_
    refine G_aload_n 0 dr_cX17_told_61 rfl ?_
    have fq165655 : fI (F165634 q165583) 26 = p165599 := by rw [he165637]; rfl
    refine Gp_get 26 hm165586 he165637 dr_cX17_told_62 (gk_X17 D I) (Nat.le_of_ble_eq_true rfl) wr_7_100 rfl ?_
    have bp165599 : gB p165599 0 100000 := (hB165631.2.2.2.2.2.1)
    have hT165656 : RS D I P165581 F165634 γ el := RS_set hT n165636 htq165583 (by decide) ⟨q165588, q165589, p165590, p165591, p165592, p165593, p165594, p165595, p165596, p165597, p165598, p165599, p165600, 0, p165602, p165603, p165604, he165637, ⟨(hB165631.1), (hB165631.2.1), (hB165631.2.2.1), (hB165631.2.2.2.1), (hB165631.2.2.2.2.1), bp165599, (hB165631.2.2.2.2.2.2.1), bp165602, (hB165631.2.2.2.2.2.2.2.2)⟩, ht165605, ht165606, ht165607, ht165608, ht165609, ht165610, ht165611, ht165612, ht165613, ht165614, ht165615, ht165616, ht165617, ht165618, ht165619, ht165620, ht165621, ht165622, ht165623, ht165624, ht165625, ht165626, ht165627, ht165628, hB165632⟩
    have ac165657 : (fI (F165634 q165583) 32).toInt = p165602.toInt := by rw [he165637]; rfl
    exact G_iretA dr_cX17_told_65 rfl (Nat.le_of_ble_eq_true rfl) (Nat.le_of_ble_eq_true rfl) ⟨F165634, p165599, rfl, rfl, hT165656, hs165638, (Nat.le_of_ble_eq_true rfl), (Nat.le_of_ble_eq_true rfl), (by omega), (fun R c1 c2 c3 c4 c5 c6 c7 => c4 F165634 p165599 n165636 fq165639 ehs165654 fq165655)⟩
  by_cases hs165658 : p165584 = 3
  · have ehs165658 : p165584.toInt = 3 := gj_eq hs165658 (show Int32.toInt 3 = 3 by decide)
    have bp165584' : gB p165584 3 3 := ⟨by omega, by omega⟩
    refine G_eqi (y := 3) hs165658 ?_
    refine G_tableIn 66 dr_cX17_told_6 (by decide) (by decide) (by first | rfl | decide) (by decide) ?_
    refine G_aload_n 0 dr_cX17_told_66 rfl ?_
    have fq165659 : fI (F165634 q165583) 27 = p165600 := by rw [he165637]; rfl
    refine Gp_get 27 hm165586 he165637 dr_cX17_told_67 (gk_X17 D I) (Nat.le_of_ble_eq_true rfl) wr_7_101 rfl ?_
    have bp165600 : gB p165600 0 2048 := (hB165631.2.2.2.2.2.2.1)
    have hT165660 : RS D I P165581 F165634 γ el := RS_set hT n165636 htq165583 (by decide) ⟨q165588, q165589, p165590, p165591, p165592, p165593, p165594, p165595, p165596, p165597, p165598, p165599, p165600, 0, p165602, p165603, p165604, he165637, ⟨(hB165631.1), (hB165631.2.1), (hB165631.2.2.1), (hB165631.2.2.2.1), (hB165631.2.2.2.2.1), (hB165631.2.2.2.2.2.1), bp165600, bp165602, (hB165631.2.2.2.2.2.2.2.2)⟩, ht165605, ht165606, ht165607, ht165608, ht165609, ht165610, ht165611, ht165612, ht165613, ht165614, ht165615, ht165616, ht165617, ht165618, ht165619, ht165620, ht165621, ht165622, ht165623, ht165624, ht165625, ht165626, ht165627, ht165628, hB165632⟩
    have ac165661 : (fI (F165634 q165583) 32).toInt = p165602.toInt := by rw [he165637]; rfl
    exact G_iretA dr_cX17_told_70 rfl (Nat.le_of_ble_eq_true rfl) (Nat.le_of_ble_eq_true rfl) ⟨F165634, p165600, rfl, rfl, hT165660, hs165638, (Nat.le_of_ble_eq_true rfl), (Nat.le_of_ble_eq_true rfl), (by omega), (fun R c1 c2 c3 c4 c5 c6 c7 => c5 F165634 p165600 n165636 fq165639 ehs165658 fq165659)⟩
  by_cases hs165662 : p165584 = 4
  · have ehs165662 : p165584.toInt = 4 := gj_eq hs165662 (show Int32.toInt 4 = 4 by decide)
    have bp165584' : gB p165584 4 4 := ⟨by omega, by omega⟩
    refine G_eqi (y := 4) hs165662 ?_
    refine G_tableIn 71 dr_cX17_told_6 (by decide) (by decide) (by first | rfl | decide) (by decide) ?_
    refine G_aload_n 0 dr_cX17_told_71 rfl ?_
    have fq165663 : fI (F165634 q165583) 23 = p165596 := by rw [he165637]; rfl
    refine Gp_get 23 hm165586 he165637 dr_cX17_told_72 (gk_X17 D I) (Nat.le_of_ble_eq_true rfl) wr_7_97 rfl ?_
    have bp165596 : gB p165596 (-2147483648) 2147483647 := (gB_any p165596)
    have hT165664 : RS D I P165581 F165634 γ el := RS_set hT n165636 htq165583 (by decide) ⟨q165588, q165589, p165590, p165591, p165592, p165593, p165594, p165595, p165596, p165597, p165598, p165599, p165600, 0, p165602, p165603, p165604, he165637, ⟨(hB165631.1), (hB165631.2.1), (hB165631.2.2.1), (hB165631.2.2.2.1), (hB165631.2.2.2.2.1), (hB165631.2.2.2.2.2.1), (hB165631.2.2.2.2.2.2.1), bp165602, (hB165631.2.2.2.2.2.2.2.2)⟩, ht165605, ht165606, ht165607, ht165608, ht165609, ht165610, ht165611, ht165612, ht165613, ht165614, ht165615, ht165616, ht165617, ht165618, ht165619, ht165620, ht165621, ht165622, ht165623, ht165624, ht165625, ht165626, ht165627, ht165628, hB165632⟩
    have ac165665 : (fI (F165634 q165583) 32).toInt = p165602.toInt := by rw [he165637]; rfl
    exact G_iretA dr_cX17_told_75 rfl (Nat.le_of_ble_eq_true rfl) (Nat.le_of_ble_eq_true rfl) ⟨F165634, p165596, rfl, rfl, hT165664, hs165638, (Nat.le_of_ble_eq_true rfl), (Nat.le_of_ble_eq_true rfl), (by omega), (fun R c1 c2 c3 c4 c5 c6 c7 => c6 F165634 p165596 n165636 fq165639 ehs165662 fq165663)⟩
  have ehs165640 := lv_neT hs165640 (show Int32.toInt 0 = 0 by decide)
  have ehs165650 := lv_neT hs165650 (show Int32.toInt 1 = 1 by decide)
  have ehs165654 := lv_neT hs165654 (show Int32.toInt 2 = 2 by decide)
  have ehs165658 := lv_neT hs165658 (show Int32.toInt 3 = 3 by decide)
  have ehs165662 := lv_neT hs165662 (show Int32.toInt 4 = 4 by decide)
  refine G_tableOut 76 dr_cX17_told_6 (by omega) (by decide) ?_
  refine G_aload_n 0 dr_cX17_told_76 rfl ?_
  refine G_iconst 1 dr_cX17_told_77 (by decide +kernel) ?_
  have hT165666 : RS D I P165581 F165634 γ el := RS_set hT n165636 htq165583 (by decide) ⟨q165588, q165589, p165590, p165591, p165592, p165593, p165594, p165595, p165596, p165597, p165598, p165599, p165600, 0, p165602, p165603, p165604, he165637, ⟨(hB165631.1), (hB165631.2.1), (hB165631.2.2.1), (hB165631.2.2.2.1), (hB165631.2.2.2.2.1), (hB165631.2.2.2.2.2.1), (hB165631.2.2.2.2.2.2.1), bp165602, (hB165631.2.2.2.2.2.2.2.2)⟩, ht165605, ht165606, ht165607, ht165608, ht165609, ht165610, ht165611, ht165612, ht165613, ht165614, ht165615, ht165616, ht165617, ht165618, ht165619, ht165620, ht165621, ht165622, ht165623, ht165624, ht165625, ht165626, ht165627, ht165628, hB165632⟩
  have ac165727 : (fI (F165634 q165583) 32).toInt = p165602.toInt := by rw [he165637]; rfl
  refine Gw_callV (As := [.int 1]) (gV_ok D I) (ct_165671_SpillForgeModel_no l hl0 D I γ el P165581 F165634 q165583 1 hT165666 htq165583) dr_cX17_told_78 ⟨wr_7_191, wr_1_14, wr_7_194, by decide, rfl, (Nat.le_of_ble_eq_true rfl), (Nat.le_of_ble_eq_true rfl)⟩ wr_7_193 wr_p_73 hm165586 he165637 rfl (show 0 + 0 ≤ 0 by first | omega | decide) (show 0 + 0 ≤ 0 by first | omega | decide) (Nat.le_of_ble_eq_true rfl) (fun r165731 w165732 dc165728 ds165729 hp165730 => ?_) (fun _ _ _ _ _ z => z.elim)
  obtain ⟨F165736, rfl, rfl, hT165737, hs165738, hdc, hds, x165733, x165734, ht165735⟩ := hp165730
  have hs165739 : rStr γ [] F165582 F165736 := rStr_tr hs165638 hs165738
  rw [show Int32.toInt 1 = 1 from by decide] at x165734
  change G _ _ _ _ _ _ _ (.int 0 :: _) _ _ _
  refine G_widen (cs' := 0) (sl' := 0) (by omega) (by omega) ?_
  have hm165740 : q165583 ∈ P165581 := RS_m hT165737 htq165583 (by decide)
  obtain ⟨q165742, q165743, p165744, p165745, p165746, p165747, p165748, p165749, p165750, p165751, p165752, p165753, p165754, p165755, p165756, p165757, p165758, he165741, hB165785, ht165759, ht165760, ht165761, ht165762, ht165763, ht165764, ht165765, ht165766, ht165767, ht165768, ht165769, ht165770, ht165771, ht165772, ht165773, ht165774, ht165775, ht165776, ht165777, ht165778, ht165779, ht165780, ht165781, ht165782, hB165786⟩ := show rk_10 γ (F165736 q165583) from RS_o hT165737 htq165583
  have ac165787 : (fI (F165736 q165583) 32).toInt = p165756.toInt := by rw [he165741]; rfl
  have bp165756 : gB p165756 0 8192 := (hB165785.2.2.2.2.2.2.2.1)
  have ac165788 : (fI (F165736 q165583) 32).toInt = p165756.toInt := by rw [he165741]; rfl
  exact G_iretA dr_cX17_told_81 rfl (Nat.le_of_ble_eq_true rfl) (Nat.le_of_ble_eq_true rfl) ⟨F165736, 0, rfl, rfl, hT165737, hs165739, (Nat.le_of_ble_eq_true rfl), (Nat.le_of_ble_eq_true rfl), (by have qa0 : Int32.toInt 0 = 0 := (by decide); omega), (fun R c1 c2 c3 c4 c5 c6 c7 => c7 F165634 F165736 n165636 fq165639 ehs165640 ehs165650 ehs165654 ehs165658 ehs165662 hT165737 hs165738 x165733 x165734 ht165735)⟩
/- tr_RModel_shown: result, F -/
def tr_RModel_shown (D : va_G) (I : FieldType → ClassId) (γ el : Nat → Nat → Nat) (P : List Nat) (F : Nat → va_E) (q0 : Nat) (a1 : Int32) (o1 : Int32) (o2 : Nat → va_E) : Prop := ∀ R : (Int32) → (Nat → va_E) → Prop,
  (∀ (x1 : Nat → va_E) (x2 : Nat → va_E), (∀ b, b ≠ q0 → x1 b = F b) → x1 q0 = cF (F q0) 30 (.int 0) → a1.toInt < 0 → RS D I P x2 γ el → rStr γ [] x1 x2 → (fI (x2 q0) 32).toInt = (fI (x1 q0) 32).toInt → (fI (x2 q0) 30).toInt = 1 → tr_RModel_no D I γ el x1 q0 (1 : Int32) x2 → R (0 : Int32) x2) →
  (∀ (x1 : Nat → va_E) (x2 : Int32) (x3 : Nat → va_E), (∀ b, b ≠ q0 → x1 b = F b) → x1 q0 = cF (F q0) 30 (.int 0) → 0 ≤ a1.toInt → fI (x1 q0) 25 = x2 → x2.toInt ≤ a1.toInt → RS D I P x3 γ el → rStr γ [] x1 x3 → (fI (x3 q0) 32).toInt = (fI (x1 q0) 32).toInt → (fI (x3 q0) 30).toInt = 1 → tr_RModel_no D I γ el x1 q0 (1 : Int32) x3 → R (0 : Int32) x3) →
  (∀ (x1 : Nat → va_E) (x2 : Int32) (x3 : Nat → Int32) (x4 : Int32), (∀ b, b ≠ q0 → x1 b = F b) → x1 q0 = cF (F q0) 30 (.int 0) → 0 ≤ a1.toInt → fI (x1 q0) 25 = x2 → a1.toInt < x2.toInt → fR (x1 q0) 22 = (γ 9 22) → x1 (γ 9 22) = .inl (I .int, 512, .inl x3) → x4 = x3 a1.toNatClampNeg → R x4 x1) →
  R o1 o2
