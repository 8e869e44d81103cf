theorem dr_cX17_step_0 : decode cX17_step 0 = .ok (.aload_n 1, 1) := by decide +kernel
theorem dr_cX17_step_1 : decode cX17_step 1 = .ok (.getfield 39, 3) := by decide +kernel
theorem dr_cX17_step_4 : decode cX17_step 4 = .ok (.lookupswitch 217 #[(0, 194), (20, 52), (21, 151), (22, 106), (23, 171)], 52) := by decide +kernel
theorem dr_cX17_step_198 : decode cX17_step 198 = .ok (.aload_n 0, 1) := by decide +kernel
theorem dr_cX17_step_199 : decode cX17_step 199 = .ok (.getfield 271, 3) := by decide +kernel
theorem dr_cX17_step_202 : decode cX17_step 202 = .ok (.aload_n 1, 1) := by decide +kernel
theorem dr_cX17_step_203 : decode cX17_step 203 = .ok (.getfield 52, 3) := by decide +kernel
theorem dr_cX17_step_206 : decode cX17_step 206 = .ok (.aload_n 0, 1) := by decide +kernel
theorem dr_cX17_step_207 : decode cX17_step 207 = .ok (.aload_n 1, 1) := by decide +kernel
theorem dr_cX17_step_208 : decode cX17_step 208 = .ok (.getfield 141, 3) := by decide +kernel
theorem wr_9_197 : (Jvm.Cond.fieldLink "SpillForgeModel" (141 : Nat) "SpillForgeModel$Row" "regA" "Z") ∈ gw := gw_9 197 rfl rfl
theorem dr_cX17_step_211 : decode cX17_step 211 = .ok (.aload_n 1, 1) := by decide +kernel
theorem dr_cX17_step_212 : decode cX17_step 212 = .ok (.getfield 73, 3) := by decide +kernel
theorem dr_cX17_step_215 : decode cX17_step 215 = .ok (.invokevirtual 293, 3) := by decide +kernel
theorem wr_11_100 : (Jvm.Cond.methodLink "SpillForgeModel" (293 : Nat) ({ cls := "SpillForgeModel", name := "value", desc := "(ZI)I" } : Jvm.MethodName)) ∈ gw := gw_11 100 rfl rfl
theorem wr_11_103 : (Jvm.Cond.code ({ cls := "SpillForgeModel", name := "value", desc := "(ZI)I" } : Jvm.MethodName) prog_14_method_28_code (3 : Nat) (Option.some Jvm.ClassFile.FieldType.int)) ∈ gw := gw_11 103 rfl rfl
theorem wr_11_102 : (Jvm.Cond.instanceMethod ({ cls := "SpillForgeModel", name := "value", desc := "(ZI)I" } : Jvm.MethodName)) ∈ gw := gw_11 102 rfl rfl
theorem wr_p_115 : Cond.selects "SpillForgeModel" ⟨"SpillForgeModel", "value", "(ZI)I"⟩ ⟨"SpillForgeModel", "value", "(ZI)I"⟩ ∈ gw := gw_p _ 115 rfl rfl rfl
theorem dr_cX17_step_218 : decode cX17_step 218 = .ok (.iastore, 1) := by decide +kernel
theorem dr_cX17_step_219 : decode cX17_step 219 = .ok (.iconst (-1), 1) := by decide +kernel
theorem dr_cX17_step_220 : decode cX17_step 220 = .ok (.ireturn, 1) := by decide +kernel
theorem dr_cX17_step_56 : decode cX17_step 56 = .ok (.aload_n 0, 1) := by decide +kernel
theorem dr_cX17_step_57 : decode cX17_step 57 = .ok (.getfield 271, 3) := by decide +kernel
theorem dr_cX17_step_60 : decode cX17_step 60 = .ok (.aload_n 1, 1) := by decide +kernel
theorem dr_cX17_step_61 : decode cX17_step 61 = .ok (.getfield 52, 3) := by decide +kernel
theorem dr_cX17_step_64 : decode cX17_step 64 = .ok (.aload_n 0, 1) := by decide +kernel
theorem dr_cX17_step_65 : decode cX17_step 65 = .ok (.getfield 286, 3) := by decide +kernel
theorem wr_7_101 : (Jvm.Cond.fieldLink "SpillForgeModel" (286 : Nat) "SpillForgeModel" "read" "I") ∈ gw := gw_7 101 rfl rfl
theorem dr_cX17_step_68 : decode cX17_step 68 = .ok (.aload_n 0, 1) := by decide +kernel
theorem dr_cX17_step_69 : decode cX17_step 69 = .ok (.getfield 303, 3) := by decide +kernel
theorem wr_7_102 : (Jvm.Cond.fieldLink "SpillForgeModel" (303 : Nat) "SpillForgeModel" "input" "[I") ∈ gw := gw_7 102 rfl rfl
theorem dr_cX17_step_72 : decode cX17_step 72 = .ok (.arraylength, 1) := by decide +kernel
theorem dr_cX17_step_73 : decode cX17_step 73 = .ok (.if_icmp .ge 15, 3) := by decide +kernel
theorem dr_cX17_step_88 : decode cX17_step 88 = .ok (.iconst 0, 1) := by decide +kernel
theorem dr_cX17_step_89 : decode cX17_step 89 = .ok (.iastore, 1) := by decide +kernel
theorem dr_cX17_step_90 : decode cX17_step 90 = .ok (.aload_n 0, 1) := by decide +kernel
theorem dr_cX17_step_91 : decode cX17_step 91 = .ok (.aload_n 0, 1) := by decide +kernel
theorem dr_cX17_step_92 : decode cX17_step 92 = .ok (.getfield 286, 3) := by decide +kernel
theorem dr_cX17_step_95 : decode cX17_step 95 = .ok (.iconst 1, 1) := by decide +kernel
theorem dr_cX17_step_96 : decode cX17_step 96 = .ok (.iadd, 1) := by decide +kernel
theorem dr_cX17_step_97 : decode cX17_step 97 = .ok (.aload_n 0, 1) := by decide +kernel
theorem dr_cX17_step_98 : decode cX17_step 98 = .ok (.getfield 303, 3) := by decide +kernel
theorem dr_cX17_step_101 : decode cX17_step 101 = .ok (.arraylength, 1) := by decide +kernel
theorem dr_cX17_step_102 : decode cX17_step 102 = .ok (.invokestatic 164, 3) := by decide +kernel
theorem dr_cX17_step_105 : decode cX17_step 105 = .ok (.putfield 286, 3) := by decide +kernel
theorem dr_cX17_step_108 : decode cX17_step 108 = .ok (.iconst (-1), 1) := by decide +kernel
theorem dr_cX17_step_109 : decode cX17_step 109 = .ok (.ireturn, 1) := by decide +kernel
theorem dr_cX17_step_76 : decode cX17_step 76 = .ok (.aload_n 0, 1) := by decide +kernel
theorem dr_cX17_step_77 : decode cX17_step 77 = .ok (.getfield 303, 3) := by decide +kernel
theorem dr_cX17_step_80 : decode cX17_step 80 = .ok (.aload_n 0, 1) := by decide +kernel
theorem dr_cX17_step_81 : decode cX17_step 81 = .ok (.getfield 286, 3) := by decide +kernel
theorem dr_cX17_step_84 : decode cX17_step 84 = .ok (.iaload, 1) := by decide +kernel
theorem dr_cX17_step_85 : decode cX17_step 85 = .ok (.goto 4, 3) := by decide +kernel
theorem dr_cX17_step_155 : decode cX17_step 155 = .ok (.aload_n 0, 1) := by decide +kernel
theorem dr_cX17_step_156 : decode cX17_step 156 = .ok (.getfield 271, 3) := by decide +kernel
theorem dr_cX17_step_159 : decode cX17_step 159 = .ok (.aload_n 1, 1) := by decide +kernel
theorem dr_cX17_step_160 : decode cX17_step 160 = .ok (.getfield 52, 3) := by decide +kernel
theorem dr_cX17_step_163 : decode cX17_step 163 = .ok (.aload_n 0, 1) := by decide +kernel
theorem dr_cX17_step_164 : decode cX17_step 164 = .ok (.getfield 274, 3) := by decide +kernel
theorem wr_7_95 : (Jvm.Cond.fieldLink "SpillForgeModel" (274 : Nat) "SpillForgeModel" "slotNow" "[I") ∈ gw := gw_7 95 rfl rfl
theorem dr_cX17_step_167 : decode cX17_step 167 = .ok (.aload_n 1, 1) := by decide +kernel
theorem dr_cX17_step_168 : decode cX17_step 168 = .ok (.getfield 45, 3) := by decide +kernel
theorem dr_cX17_step_171 : decode cX17_step 171 = .ok (.iaload, 1) := by decide +kernel
theorem dr_cX17_step_172 : decode cX17_step 172 = .ok (.iastore, 1) := by decide +kernel
theorem dr_cX17_step_173 : decode cX17_step 173 = .ok (.iconst (-1), 1) := by decide +kernel
theorem dr_cX17_step_174 : decode cX17_step 174 = .ok (.ireturn, 1) := by decide +kernel
theorem dr_cX17_step_110 : decode cX17_step 110 = .ok (.aload_n 0, 1) := by decide +kernel
theorem dr_cX17_step_111 : decode cX17_step 111 = .ok (.getfield 280, 3) := by decide +kernel
theorem wr_7_99 : (Jvm.Cond.fieldLink "SpillForgeModel" (280 : Nat) "SpillForgeModel" "shown" "I") ∈ gw := gw_7 99 rfl rfl
theorem dr_cX17_step_114 : decode cX17_step 114 = .ok (.sipush 512, 3) := by decide +kernel
theorem dr_cX17_step_117 : decode cX17_step 117 = .ok (.if_icmp .ne 5, 3) := by decide +kernel
theorem dr_cX17_step_122 : decode cX17_step 122 = .ok (.aload_n 0, 1) := by decide +kernel
theorem dr_cX17_step_123 : decode cX17_step 123 = .ok (.getfield 306, 3) := by decide +kernel
theorem wr_7_96 : (Jvm.Cond.fieldLink "SpillForgeModel" (306 : Nat) "SpillForgeModel" "shows" "[I") ∈ gw := gw_7 96 rfl rfl
theorem dr_cX17_step_126 : decode cX17_step 126 = .ok (.aload_n 0, 1) := by decide +kernel
theorem dr_cX17_step_127 : decode cX17_step 127 = .ok (.getfield 280, 3) := by decide +kernel
theorem dr_cX17_step_130 : decode cX17_step 130 = .ok (.aload_n 0, 1) := by decide +kernel
theorem dr_cX17_step_131 : decode cX17_step 131 = .ok (.aload_n 1, 1) := by decide +kernel
theorem dr_cX17_step_132 : decode cX17_step 132 = .ok (.getfield 141, 3) := by decide +kernel
theorem dr_cX17_step_135 : decode cX17_step 135 = .ok (.aload_n 1, 1) := by decide +kernel
theorem dr_cX17_step_136 : decode cX17_step 136 = .ok (.getfield 73, 3) := by decide +kernel
theorem dr_cX17_step_139 : decode cX17_step 139 = .ok (.invokevirtual 293, 3) := by decide +kernel
theorem dr_cX17_step_142 : decode cX17_step 142 = .ok (.iastore, 1) := by decide +kernel
theorem dr_cX17_step_143 : decode cX17_step 143 = .ok (.aload_n 0, 1) := by decide +kernel
theorem dr_cX17_step_144 : decode cX17_step 144 = .ok (.dup, 1) := by decide +kernel
theorem dr_cX17_step_145 : decode cX17_step 145 = .ok (.getfield 280, 3) := by decide +kernel
theorem dr_cX17_step_148 : decode cX17_step 148 = .ok (.iconst 1, 1) := by decide +kernel
theorem dr_cX17_step_149 : decode cX17_step 149 = .ok (.iadd, 1) := by decide +kernel
theorem dr_cX17_step_150 : decode cX17_step 150 = .ok (.putfield 280, 3) := by decide +kernel
theorem dr_cX17_step_153 : decode cX17_step 153 = .ok (.iconst (-1), 1) := by decide +kernel
theorem dr_cX17_step_154 : decode cX17_step 154 = .ok (.ireturn, 1) := by decide +kernel
theorem dr_cX17_step_120 : decode cX17_step 120 = .ok (.iconst 5, 1) := by decide +kernel
theorem dr_cX17_step_121 : decode cX17_step 121 = .ok (.ireturn, 1) := by decide +kernel
theorem dr_cX17_step_175 : decode cX17_step 175 = .ok (.aload_n 0, 1) := by decide +kernel
theorem dr_cX17_step_176 : decode cX17_step 176 = .ok (.getfield 274, 3) := by decide +kernel
theorem dr_cX17_step_179 : decode cX17_step 179 = .ok (.aload_n 1, 1) := by decide +kernel
theorem dr_cX17_step_180 : decode cX17_step 180 = .ok (.getfield 45, 3) := by decide +kernel
theorem dr_cX17_step_183 : decode cX17_step 183 = .ok (.aload_n 0, 1) := by decide +kernel
theorem dr_cX17_step_184 : decode cX17_step 184 = .ok (.aload_n 1, 1) := by decide +kernel
theorem dr_cX17_step_185 : decode cX17_step 185 = .ok (.getfield 141, 3) := by decide +kernel
theorem dr_cX17_step_188 : decode cX17_step 188 = .ok (.aload_n 1, 1) := by decide +kernel
theorem dr_cX17_step_189 : decode cX17_step 189 = .ok (.getfield 73, 3) := by decide +kernel
theorem dr_cX17_step_192 : decode cX17_step 192 = .ok (.invokevirtual 293, 3) := by decide +kernel
theorem dr_cX17_step_195 : decode cX17_step 195 = .ok (.iastore, 1) := by decide +kernel
theorem dr_cX17_step_196 : decode cX17_step 196 = .ok (.iconst (-1), 1) := by decide +kernel
theorem dr_cX17_step_197 : decode cX17_step 197 = .ok (.ireturn, 1) := by decide +kernel
theorem dr_cX17_step_221 : decode cX17_step 221 = .ok (.aload_n 1, 1) := by decide +kernel
theorem dr_cX17_step_222 : decode cX17_step 222 = .ok (.getfield 39, 3) := by decide +kernel
theorem dr_cX17_step_225 : decode cX17_step 225 = .ok (.aload_n 0, 1) := by decide +kernel
theorem dr_cX17_step_226 : decode cX17_step 226 = .ok (.aload_n 1, 1) := by decide +kernel
theorem dr_cX17_step_227 : decode cX17_step 227 = .ok (.getfield 141, 3) := by decide +kernel
theorem dr_cX17_step_230 : decode cX17_step 230 = .ok (.aload_n 1, 1) := by decide +kernel
theorem dr_cX17_step_231 : decode cX17_step 231 = .ok (.getfield 73, 3) := by decide +kernel
theorem dr_cX17_step_234 : decode cX17_step 234 = .ok (.invokevirtual 293, 3) := by decide +kernel
theorem dr_cX17_step_237 : decode cX17_step 237 = .ok (.aload_n 0, 1) := by decide +kernel
theorem dr_cX17_step_238 : decode cX17_step 238 = .ok (.aload_n 1, 1) := by decide +kernel
theorem dr_cX17_step_239 : decode cX17_step 239 = .ok (.getfield 309, 3) := by decide +kernel
theorem wr_9_202 : (Jvm.Cond.fieldLink "SpillForgeModel" (309 : Nat) "SpillForgeModel$Row" "regB" "Z") ∈ gw := gw_9 202 rfl rfl
theorem dr_cX17_step_242 : decode cX17_step 242 = .ok (.aload_n 1, 1) := by decide +kernel
theorem dr_cX17_step_243 : decode cX17_step 243 = .ok (.getfield 79, 3) := by decide +kernel
theorem dr_cX17_step_246 : decode cX17_step 246 = .ok (.invokevirtual 293, 3) := by decide +kernel
theorem dr_cX17_step_249 : decode cX17_step 249 = .ok (.invokestatic 312, 3) := by decide +kernel
theorem wr_11_104 : (Jvm.Cond.methodLink "SpillForgeModel" (312 : Nat) ({ cls := "SpillForgeModel", name := "result", desc := "(III)J" } : Jvm.MethodName)) ∈ gw := gw_11 104 rfl rfl
theorem wr_11_106 : (Jvm.Cond.code ({ cls := "SpillForgeModel", name := "result", desc := "(III)J" } : Jvm.MethodName) prog_14_method_27_code (4 : Nat) (Option.some Jvm.ClassFile.FieldType.long)) ∈ gw := gw_11 106 rfl rfl
theorem wr_11_105 : (Jvm.Cond.static ({ cls := "SpillForgeModel", name := "result", desc := "(III)J" } : Jvm.MethodName)) ∈ gw := gw_11 105 rfl rfl
theorem dr_cX17_step_252 : decode cX17_step 252 = .ok (.lstore_n 2, 1) := by decide +kernel
theorem dr_cX17_step_253 : decode cX17_step 253 = .ok (.lload_n 2, 1) := by decide +kernel
theorem dr_cX17_step_254 : decode cX17_step 254 = .ok (.ldc2_w 267, 3) := by decide +kernel
theorem dr_cX17_step_257 : decode cX17_step 257 = .ok (.lcmp, 1) := by decide +kernel
theorem dr_cX17_step_258 : decode cX17_step 258 = .ok (.ifCond .ne 5, 3) := by decide +kernel
theorem dr_cX17_step_263 : decode cX17_step 263 = .ok (.aload_n 0, 1) := by decide +kernel
theorem dr_cX17_step_264 : decode cX17_step 264 = .ok (.getfield 271, 3) := by decide +kernel
theorem dr_cX17_step_267 : decode cX17_step 267 = .ok (.aload_n 1, 1) := by decide +kernel
theorem dr_cX17_step_268 : decode cX17_step 268 = .ok (.getfield 52, 3) := by decide +kernel
theorem dr_cX17_step_271 : decode cX17_step 271 = .ok (.lload_n 2, 1) := by decide +kernel
theorem dr_cX17_step_272 : decode cX17_step 272 = .ok (.l2i, 1) := by decide +kernel
theorem dr_cX17_step_273 : decode cX17_step 273 = .ok (.iastore, 1) := by decide +kernel
theorem dr_cX17_step_274 : decode cX17_step 274 = .ok (.iconst (-1), 1) := by decide +kernel
theorem dr_cX17_step_275 : decode cX17_step 275 = .ok (.ireturn, 1) := by decide +kernel
theorem dr_cX17_step_261 : decode cX17_step 261 = .ok (.iconst 1, 1) := by decide +kernel
theorem dr_cX17_step_262 : decode cX17_step 262 = .ok (.ireturn, 1) := by decide +kernel
theorem dr_cX17_no_0 : decode cX17_no 0 = .ok (.aload_n 0, 1) := by decide +kernel
theorem dr_cX17_no_1 : decode cX17_no 1 = .ok (.iload_n 1, 1) := by decide +kernel
theorem dr_cX17_no_2 : decode cX17_no 2 = .ok (.putfield 380, 3) := by decide +kernel
theorem wr_7_104 : (Jvm.Cond.fieldLink "SpillForgeModel" (380 : Nat) "SpillForgeModel" "thrown" "I") ∈ gw := gw_7 104 rfl rfl
theorem dr_cX17_no_5 : decode cX17_no 5 = .ok (.iconst 0, 1) := by decide +kernel
theorem dr_cX17_no_6 : decode cX17_no 6 = .ok (.ireturn, 1) := by decide +kernel
theorem dr_cX17_told_0 : decode cX17_told 0 = .ok (.aload_n 0, 1) := by decide +kernel
theorem dr_cX17_told_1 : decode cX17_told 1 = .ok (.iconst 0, 1) := by decide +kernel
theorem dr_cX17_told_2 : decode cX17_told 2 = .ok (.putfield 380, 3) := by decide +kernel
theorem dr_cX17_told_5 : decode cX17_told 5 = .ok (.iload_n 1, 1) := by decide +kernel
theorem dr_cX17_told_6 : decode cX17_told 6 = .ok (.tableswitch 70 0 4 #[34, 50, 55, 60, 65], 34) := by decide +kernel
theorem dr_cX17_told_40 : decode cX17_told 40 = .ok (.aload_n 0, 1) := by decide +kernel
theorem dr_cX17_told_41 : decode cX17_told 41 = .ok (.getfield 371, 3) := by decide +kernel
theorem wr_7_97 : (Jvm.Cond.fieldLink "SpillForgeModel" (371 : Nat) "SpillForgeModel" "ended" "I") ∈ gw := gw_7 97 rfl rfl
theorem dr_cX17_told_44 : decode cX17_told 44 = .ok (.ifCond .ne 10, 3) := by decide +kernel
theorem dr_cX17_told_54 : decode cX17_told 54 = .ok (.iconst 0, 1) := by decide +kernel
theorem dr_cX17_told_55 : decode cX17_told 55 = .ok (.ireturn, 1) := by decide +kernel
theorem dr_cX17_told_47 : decode cX17_told 47 = .ok (.aload_n 0, 1) := by decide +kernel
theorem dr_cX17_told_48 : decode cX17_told 48 = .ok (.getfield 277, 3) := by decide +kernel
theorem wr_7_98 : (Jvm.Cond.fieldLink "SpillForgeModel" (277 : Nat) "SpillForgeModel" "answer" "I") ∈ gw := gw_7 98 rfl rfl
theorem dr_cX17_told_51 : decode cX17_told 51 = .ok (.goto 4, 3) := by decide +kernel
theorem dr_cX17_told_56 : decode cX17_told 56 = .ok (.aload_n 0, 1) := by decide +kernel
theorem dr_cX17_told_57 : decode cX17_told 57 = .ok (.getfield 280, 3) := by decide +kernel
theorem dr_cX17_told_60 : decode cX17_told 60 = .ok (.ireturn, 1) := by decide +kernel
theorem dr_cX17_told_61 : decode cX17_told 61 = .ok (.aload_n 0, 1) := by decide +kernel
theorem dr_cX17_told_62 : decode cX17_told 62 = .ok (.getfield 283, 3) := by decide +kernel
theorem wr_7_100 : (Jvm.Cond.fieldLink "SpillForgeModel" (283 : Nat) "SpillForgeModel" "steps" "I") ∈ gw := gw_7 100 rfl rfl
theorem dr_cX17_told_65 : decode cX17_told 65 = .ok (.ireturn, 1) := by decide +kernel
theorem dr_cX17_told_66 : decode cX17_told 66 = .ok (.aload_n 0, 1) := by decide +kernel
theorem dr_cX17_told_67 : decode cX17_told 67 = .ok (.getfield 286, 3) := by decide +kernel
theorem dr_cX17_told_70 : decode cX17_told 70 = .ok (.ireturn, 1) := by decide +kernel
theorem dr_cX17_told_71 : decode cX17_told 71 = .ok (.aload_n 0, 1) := by decide +kernel
theorem dr_cX17_told_72 : decode cX17_told 72 = .ok (.getfield 371, 3) := by decide +kernel
theorem dr_cX17_told_75 : decode cX17_told 75 = .ok (.ireturn, 1) := by decide +kernel
theorem dr_cX17_told_76 : decode cX17_told 76 = .ok (.aload_n 0, 1) := by decide +kernel
theorem dr_cX17_told_77 : decode cX17_told 77 = .ok (.iconst 1, 1) := by decide +kernel
theorem dr_cX17_told_78 : decode cX17_told 78 = .ok (.invokevirtual 385, 3) := by decide +kernel
theorem wr_7_191 : (Jvm.Cond.methodLink "SpillForgeModel" (385 : Nat) ({ cls := "SpillForgeModel", name := "no", desc := "(I)I" } : Jvm.MethodName)) ∈ gw := gw_7 191 rfl rfl
theorem wr_7_194 : (Jvm.Cond.code ({ cls := "SpillForgeModel", name := "no", desc := "(I)I" } : Jvm.MethodName) prog_14_method_37_code (2 : Nat) (Option.some Jvm.ClassFile.FieldType.int)) ∈ gw := gw_7 194 rfl rfl
theorem wr_7_193 : (Jvm.Cond.instanceMethod ({ cls := "SpillForgeModel", name := "no", desc := "(I)I" } : Jvm.MethodName)) ∈ gw := gw_7 193 rfl rfl
theorem wr_p_73 : Cond.selects "SpillForgeModel" ⟨"SpillForgeModel", "no", "(I)I"⟩ ⟨"SpillForgeModel", "no", "(I)I"⟩ ∈ gw := gw_p _ 73 rfl rfl rfl
theorem dr_cX17_told_81 : decode cX17_told 81 = .ok (.ireturn, 1) := by decide +kernel
abbrev ky_159408_SpillForgeModel_step : gKey := (cX17_step, 4, "SpillForgeModel", (some FieldType.int), [], "step", fun _ _ => True)
def pt_159408_SpillForgeModel_step (D : va_G) (I : FieldType → ClassId) (γ el : Nat → Nat → Nat) (P159404 : List Nat) (F159405 : Nat → va_E) (q159406 : Nat) (q159407 : Nat) : Option Value → va_W → Nat → Nat → Prop := fun r w dc ds => ∃ (F159652 : Nat → va_E) (o159651 : Int32), r = some (.int o159651) ∧ w = va_pl P159404 F159652 ∧ RS D I P159404 F159652 γ el ∧ rStr γ [] F159405 F159652 ∧ dc ≤ 0 ∧ ds ≤ 0 ∧ gB o159651 (-1) 5 ∧ (fI (F159652 q159406) 26).toInt = (fI (F159405 q159406) 26).toInt ∧ (fI (F159652 q159406) 32).toInt = (fI (F159405 q159406) 32).toInt
set_option maxRecDepth 100000 in
set_option maxHeartbeats 4000000 in
theorem ct_159408_SpillForgeModel_step (l : Launch) (hl0 : l.stackTraces = false) (D : va_G) (I : FieldType → ClassId) (γ el : Nat → Nat → Nat) (P159404 : List Nat) (F159405 : Nat → va_E) (q159406 : Nat) (q159407 : Nat) (hT : RS D I P159404 F159405 γ el) (htq159406 : rKd γ q159406 10) (htq159407 : rKd γ q159407 1) : CtA (gV D I) l yX17_step cX17_step 4 (some FieldType.int) 1 23 0 0 [.ref q159406, .ref q159407] (va_pl P159404 F159405) (pt_159408_SpillForgeModel_step D I γ el P159404 F159405 q159406 q159407) gNA := by
  refine CtA_of hl0 (by decide) (Nat.le_of_ble_eq_true rfl) ?_
  have hm159409 : q159406 ∈ P159404 := RS_m hT htq159406 (by decide)
  obtain ⟨q159411, q159412, p159413, p159414, p159415, p159416, p159417, p159418, p159419, p159420, p159421, p159422, p159423, p159424, p159425, p159426, p159427, he159410, hB159454, ht159428, ht159429, ht159430, ht159431, ht159432, ht159433, ht159434, ht159435, ht159436, ht159437, ht159438, ht159439, ht159440, ht159441, ht159442, ht159443, ht159444, ht159445, ht159446, ht159447, ht159448, ht159449, ht159450, ht159451, hB159455⟩ := show rk_10 γ (F159405 q159406) from RS_o hT htq159406
  refine G_aload_n 1 dr_cX17_step_0 rfl ?_
  have hm159456 : q159407 ∈ P159404 := RS_m hT htq159407 (by decide)
  obtain ⟨p159458, p159459, p159460, p159461, p159462, p159463, p159464, he159457, bp159458, bp159459, bp159462, bp159463, bp159464, r159465, r159466, r159467, r159468⟩ := show rk_1 γ q159407 (F159405 q159407) from RS_o hT htq159407
  have bp159460 := gB_any p159460
  have bp159461 := gB_any p159461
  refine Gp_get 0 hm159456 he159457 dr_cX17_step_1 (gk_X15 D I) (Nat.le_of_ble_eq_true rfl) wr_9_177 rfl ?_
  by_cases hs159469 : p159458 = 0
  · have ehs159469 : p159458.toInt = 0 := gj_eq hs159469 (show Int32.toInt 0 = 0 by decide)
    have bp159458' : gB p159458 0 0 := ⟨by omega, by omega⟩
    refine G_eqi (y := 0) hs159469 ?_
    refine G_lookup 198 dr_cX17_step_4 (by decide) (by first | rfl | decide) (by decide) ?_
    refine G_aload_n 0 dr_cX17_step_198 rfl ?_
    refine Gp_get 20 hm159409 he159410 dr_cX17_step_199 (gk_X17 D I) (Nat.le_of_ble_eq_true rfl) wr_7_94 rfl ?_
    refine G_aload_n 1 dr_cX17_step_202 rfl ?_
    refine Gp_get 1 hm159456 he159457 dr_cX17_step_203 (gk_X15 D I) (Nat.le_of_ble_eq_true rfl) wr_9_182 rfl ?_
    refine G_aload_n 0 dr_cX17_step_206 rfl ?_
    refine G_aload_n 1 dr_cX17_step_207 rfl ?_
    refine Gp_get 5 hm159456 he159457 dr_cX17_step_208 (gk_X15 D I) (Nat.le_of_ble_eq_true rfl) wr_9_197 rfl ?_
    refine G_aload_n 1 dr_cX17_step_211 rfl ?_
    refine Gp_get 2 hm159456 he159457 dr_cX17_step_212 (gk_X15 D I) (Nat.le_of_ble_eq_true rfl) wr_9_186 rfl ?_
    refine Gw_callV (As := [.int p159463, .int p159460]) (gV_ok D I) (ct_7373_SpillForgeModel_value l hl0 D I γ el P159404 F159405 q159406 p159463 p159460 hT htq159406 bp159463 (by omega)) dr_cX17_step_215 ⟨wr_11_100, wr_1_14, wr_11_103, by decide, rfl, (Nat.le_of_ble_eq_true rfl), (Nat.le_of_ble_eq_true rfl)⟩ wr_11_102 wr_p_115 hm159409 he159410 rfl (show 0 + 0 ≤ 0 by first | omega | decide) (show 0 + 0 ≤ 0 by first | omega | decide) (Nat.le_of_ble_eq_true rfl) (fun r159473 w159474 dc159470 ds159471 hp159472 => ?_) (fun _ _ _ _ _ z => z.elim)
    obtain ⟨o159475, rfl, rfl, hdc, hds⟩ := hp159472
    have bo159475 := gB_any o159475
    change G _ _ _ _ _ _ _ (.int o159475 :: _) _ _ _
    refine G_widen (cs' := 0) (sl' := 0) (by omega) (by omega) ?_
    have hm159476 : (γ 9 20) ∈ P159404 := RS_m hT ht159444 (by decide)
    obtain ⟨f159478, he159477⟩ := show rk_22 I (F159405 (γ 9 20)) from RS_o hT ht159444
    refine Gp_iast 0 hm159476 he159477 dr_cX17_step_218 rfl (gB_in bp159459 (by decide) (by decide)) (fun F159479 e159480 n159481 => ?_)
    obtain ⟨f159482, hf159482⟩ : ∃ z, z = upd f159478 p159459.toNatClampNeg o159475 := ⟨_, rfl⟩
    rw [← hf159482] at e159480
    have he159483 : F159479 q159406 = .inr (22, [.ref (γ 9 0), .ref (γ 9 1), .ref (γ 9 2), .ref (γ 9 3), .ref (γ 9 4), .ref (γ 9 5), .ref (γ 9 6), .ref (γ 9 7), .ref (γ 9 8), .int p159413, .int p159414, .int p159415, .int p159416, .int p159417, .int p159418, .ref (γ 9 15), .ref (γ 9 16), .ref (γ 9 17), .ref (γ 9 18), .ref (γ 9 19), .ref (γ 9 20), .ref (γ 9 21), .ref (γ 9 22), .int p159419, .int p159420, .int p159421, .int p159422, .int p159423, .ref q159411, .ref (γ 9 29), .int p159424, .ref (γ 9 31), .int p159425, .int p159426, .int p159427, .ref q159412]) := (n159481 q159406 (rn_oa he159410 he159477)).trans he159410
    have he159484 : F159479 q159407 = .inr (20, [.int p159458, .int p159459, .int p159460, .int p159461, .int p159462, .int p159463, .int p159464]) := (n159481 q159407 (rn_oa he159457 he159477)).trans he159457
    have he159485 : F159479 (γ 9 20) = .inl (I .int, 2000, .inl f159482) := e159480
    have hs159486 : rStr γ [] F159405 F159479 := rStr_put (rStr_rf (γ := γ) (W := []) (F := F159405)) n159481 ht159444 (by decide)
    refine G_iconst (-1) dr_cX17_step_219 (by decide +kernel) ?_
    have hT159487 : RS D I P159404 F159479 γ el := RS_set hT n159481 ht159444 (by decide) ⟨f159482, he159485⟩
    exact G_iretA dr_cX17_step_220 rfl (Nat.le_of_ble_eq_true rfl) (Nat.le_of_ble_eq_true rfl) ⟨F159479, (-1), rfl, rfl, hT159487, hs159486, (Nat.le_of_ble_eq_true rfl), (Nat.le_of_ble_eq_true rfl), (gB_w (gBl (show Int32.toInt (-1) = (-1) by decide)) (by decide) (by decide)), (by rw [show fI (F159479 q159406) 26 = p159422 from by rw [he159483]; rfl, show fI (F159405 q159406) 26 = p159422 from by rw [he159410]; rfl] <;> (have qa0 : Int32.toInt (-1) = (-1) := (by decide); omega)), (by rw [show fI (F159479 q159406) 32 = p159425 from by rw [he159483]; rfl, show fI (F159405 q159406) 32 = p159425 from by rw [he159410]; rfl] <;> (have qa0 : Int32.toInt (-1) = (-1) := (by decide); omega))⟩
  by_cases hs159488 : p159458 = 20
  · have ehs159488 : p159458.toInt = 20 := gj_eq hs159488 (show Int32.toInt 20 = 20 by decide)
    have bp159458' : gB p159458 20 20 := ⟨by omega, by omega⟩
    refine G_eqi (y := 20) hs159488 ?_
    refine G_lookup 56 dr_cX17_step_4 (by decide) (by first | rfl | decide) (by decide) ?_
    refine G_aload_n 0 dr_cX17_step_56 rfl ?_
    refine Gp_get 20 hm159409 he159410 dr_cX17_step_57 (gk_X17 D I) (Nat.le_of_ble_eq_true rfl) wr_7_94 rfl ?_
    refine G_aload_n 1 dr_cX17_step_60 rfl ?_
    refine Gp_get 1 hm159456 he159457 dr_cX17_step_61 (gk_X15 D I) (Nat.le_of_ble_eq_true rfl) wr_9_182 rfl ?_
    refine G_aload_n 0 dr_cX17_step_64 rfl ?_
    refine Gp_get 27 hm159409 he159410 dr_cX17_step_65 (gk_X17 D I) (Nat.le_of_ble_eq_true rfl) wr_7_101 rfl ?_
    have bp159423 : gB p159423 0 2048 := (hB159454.2.2.2.2.2.2.1)
    refine G_aload_n 0 dr_cX17_step_68 rfl ?_
    refine Gp_get 28 hm159409 he159410 dr_cX17_step_69 (gk_X17 D I) (Nat.le_of_ble_eq_true rfl) wr_7_102 rfl ?_
    have hm159489 : q159411 ∈ P159404 := RS_m hT ht159428 (by decide)
    obtain ⟨n159492, f159491, he159490, hn159492⟩ := show rk_26 I (F159405 q159411) from RS_o hT ht159428
    refine Gp_alen (Int32.ofNat n159492) 0 hm159489 he159490 dr_cX17_step_72 rfl rfl (G_nam fun z159493 hz159493 => ?_)
    have ez159493 : z159493.toInt = (n159492 : Nat) := gI_ofM hz159493 (by omega)
    have bz159493 : gB z159493 0 16777216 := ⟨by omega, by omega⟩
    refine G_icmp_ge 88 dr_cX17_step_73 (by decide +kernel) (fun hc159494 => ?_) (fun hc159494 => ?_)
    · have r159495 : z159493.toInt ≤ p159423.toInt := gC_le hc159494
      have bz159493' : gB z159493 0 2048 := ⟨by omega, by omega⟩
      refine G_iconst 0 dr_cX17_step_88 (by decide +kernel) ?_
      have hm159496 : (γ 9 20) ∈ P159404 := RS_m hT ht159444 (by decide)
      obtain ⟨f159498, he159497⟩ := show rk_22 I (F159405 (γ 9 20)) from RS_o hT ht159444
      refine Gp_iast 0 hm159496 he159497 dr_cX17_step_89 rfl (gB_in bp159459 (by decide) (by decide)) (fun F159499 e159500 n159501 => ?_)
      obtain ⟨f159502, hf159502⟩ : ∃ z, z = upd f159498 p159459.toNatClampNeg 0 := ⟨_, rfl⟩
      rw [← hf159502] at e159500
      have he159503 : F159499 q159406 = .inr (22, [.ref (γ 9 0), .ref (γ 9 1), .ref (γ 9 2), .ref (γ 9 3), .ref (γ 9 4), .ref (γ 9 5), .ref (γ 9 6), .ref (γ 9 7), .ref (γ 9 8), .int p159413, .int p159414, .int p159415, .int p159416, .int p159417, .int p159418, .ref (γ 9 15), .ref (γ 9 16), .ref (γ 9 17), .ref (γ 9 18), .ref (γ 9 19), .ref (γ 9 20), .ref (γ 9 21), .ref (γ 9 22), .int p159419, .int p159420, .int p159421, .int p159422, .int p159423, .ref q159411, .ref (γ 9 29), .int p159424, .ref (γ 9 31), .int p159425, .int p159426, .int p159427, .ref q159412]) := (n159501 q159406 (rn_oa he159410 he159497)).trans he159410
      have he159504 : F159499 q159407 = .inr (20, [.int p159458, .int p159459, .int p159460, .int p159461, .int p159462, .int p159463, .int p159464]) := (n159501 q159407 (rn_oa he159457 he159497)).trans he159457
      have he159505 : F159499 q159411 = .inl (I .int, n159492, .inl f159491) := (n159501 q159411 (rn_ty ht159428 ht159444 (by decide))).trans he159490
      have he159506 : F159499 (γ 9 20) = .inl (I .int, 2000, .inl f159502) := e159500
      have hs159507 : rStr γ [] F159405 F159499 := rStr_put (rStr_rf (γ := γ) (W := []) (F := F159405)) n159501 ht159444 (by decide)
      refine G_aload_n 0 dr_cX17_step_90 rfl ?_
      refine G_aload_n 0 dr_cX17_step_91 rfl ?_
      refine Gp_get 27 hm159409 he159503 dr_cX17_step_92 (gk_X17 D I) (Nat.le_of_ble_eq_true rfl) wr_7_101 rfl ?_
      refine G_iconst 1 dr_cX17_step_95 (by decide +kernel) ?_
      refine G_iadd dr_cX17_step_96 (G_nam fun z159508 hz159508 => ?_)
      have ez159508 : z159508.toInt = p159423.toInt + 1 := by rw [gI_add hz159508 bp159423 (gBl (show Int32.toInt 1 = 1 by decide)) (by decide) (by decide), show Int32.toInt 1 = 1 from by decide]
      have bz159508 : gB z159508 1 2049 := gB_add (gI_add hz159508 bp159423 (gBl (show Int32.toInt 1 = 1 by decide)) (by decide) (by decide)) bp159423 (gBl (show Int32.toInt 1 = 1 by decide)) (by decide) (by decide)
      refine G_aload_n 0 dr_cX17_step_97 rfl ?_
      refine Gp_get 28 hm159409 he159503 dr_cX17_step_98 (gk_X17 D I) (Nat.le_of_ble_eq_true rfl) wr_7_102 rfl ?_
      refine Gp_alen (Int32.ofNat n159492) 0 hm159489 he159505 dr_cX17_step_101 rfl rfl (G_nam fun z159509 hz159509 => ?_)
      have ez159509 : z159509.toInt = (n159492 : Nat) := gI_ofM hz159509 (by omega)
      have bz159509 : gB z159509 0 16777216 := ⟨by omega, by omega⟩
      refine G_mmin dr_cX17_step_102 wr_11_20 wr_3_227 wr_1_6 wr_3_228 (Nat.le_of_ble_eq_true rfl) (Nat.le_of_ble_eq_true rfl) (show 0 ≤ 0 by first | omega | decide) (show 0 ≤ 0 by first | omega | decide) (G_nam fun z159510 hz159510 => ?_)
      have ez159510 : z159508.toInt ≥ z159510.toInt ∧ z159509.toInt ≥ z159510.toInt ∧ (z159510.toInt = z159508.toInt ∨ z159510.toInt = z159509.toInt) := by have := gI_min hz159510; omega
      have bz159510 : gB z159510 0 2049 := ⟨by omega, by omega⟩
      have hT159511 : RS D I P159404 F159499 γ el := RS_set hT n159501 ht159444 (by decide) ⟨f159502, he159506⟩
      refine Gp_put 27 hm159409 he159503 dr_cX17_step_105 (gk_X17 D I) (Nat.le_of_ble_eq_true rfl) wr_7_101 rfl rfl rfl (Nat.le_of_ble_eq_true rfl) (fun F159512 e159513 n159514 => ?_)
      have he159515 : F159512 q159407 = .inr (20, [.int p159458, .int p159459, .int p159460, .int p159461, .int p159462, .int p159463, .int p159464]) := (n159514 q159407 (rn_oo he159504 he159503 (by decide))).trans he159504
      have he159516 : F159512 q159411 = .inl (I .int, n159492, .inl f159491) := (n159514 q159411 (rn_ao he159505 he159503)).trans he159505
      have he159517 : F159512 (γ 9 20) = .inl (I .int, 2000, .inl f159502) := (n159514 (γ 9 20) (rn_ao he159506 he159503)).trans he159506
      have he159518 : F159512 q159406 = .inr (22, [.ref (γ 9 0), .ref (γ 9 1), .ref (γ 9 2), .ref (γ 9 3), .ref (γ 9 4), .ref (γ 9 5), .ref (γ 9 6), .ref (γ 9 7), .ref (γ 9 8), .int p159413, .int p159414, .int p159415, .int p159416, .int p159417, .int p159418, .ref (γ 9 15), .ref (γ 9 16), .ref (γ 9 17), .ref (γ 9 18), .ref (γ 9 19), .ref (γ 9 20), .ref (γ 9 21), .ref (γ 9 22), .int p159419, .int p159420, .int p159421, .int p159422, .int z159510, .ref q159411, .ref (γ 9 29), .int p159424, .ref (γ 9 31), .int p159425, .int p159426, .int p159427, .ref q159412]) := e159513
      have hs159519 : rStr γ [] F159405 F159512 := rStr_put hs159507 n159514 htq159406 (by decide)
      refine G_iconst (-1) dr_cX17_step_108 (by decide +kernel) ?_
      have hT159520 : RS D I P159404 F159512 γ el := RS_set hT159511 n159514 htq159406 (by decide) ⟨q159411, q159412, p159413, p159414, p159415, p159416, p159417, p159418, p159419, p159420, p159421, p159422, z159510, p159424, p159425, p159426, p159427, he159518, ⟨(hB159454.1), (hB159454.2.1), (hB159454.2.2.1), (hB159454.2.2.2.1), (hB159454.2.2.2.2.1), (hB159454.2.2.2.2.2.1), ⟨by omega, by omega⟩, (hB159454.2.2.2.2.2.2.2.1), (hB159454.2.2.2.2.2.2.2.2)⟩, ht159428, ht159429, ht159430, ht159431, ht159432, ht159433, ht159434, ht159435, ht159436, ht159437, ht159438, ht159439, ht159440, ht159441, ht159442, ht159443, ht159444, ht159445, ht159446, ht159447, ht159448, ht159449, ht159450, ht159451, hB159455⟩
      exact G_iretA dr_cX17_step_109 rfl (Nat.le_of_ble_eq_true rfl) (Nat.le_of_ble_eq_true rfl) ⟨F159512, (-1), rfl, rfl, hT159520, hs159519, (Nat.le_of_ble_eq_true rfl), (Nat.le_of_ble_eq_true rfl), (gB_w (gBl (show Int32.toInt (-1) = (-1) by decide)) (by decide) (by decide)), (by rw [show fI (F159512 q159406) 26 = p159422 from by rw [he159518]; rfl, show fI (F159405 q159406) 26 = p159422 from by rw [he159410]; rfl] <;> (have qa0 : Int32.toInt (-1) = (-1) := (by decide); omega)), (by rw [show fI (F159512 q159406) 32 = p159425 from by rw [he159518]; rfl, show fI (F159405 q159406) 32 = p159425 from by rw [he159410]; rfl] <;> (have qa0 : Int32.toInt (-1) = (-1) := (by decide); omega))⟩
    · have r159521 : p159423.toInt < z159493.toInt := gC_nle hc159494
      have bz159493' : gB z159493 1 16777216 := ⟨by omega, by omega⟩
      refine G_aload_n 0 dr_cX17_step_76 rfl ?_
      refine Gp_get 28 hm159409 he159410 dr_cX17_step_77 (gk_X17 D I) (Nat.le_of_ble_eq_true rfl) wr_7_102 rfl ?_
      refine G_aload_n 0 dr_cX17_step_80 rfl ?_
      refine Gp_get 27 hm159409 he159410 dr_cX17_step_81 (gk_X17 D I) (Nat.le_of_ble_eq_true rfl) wr_7_101 rfl ?_
      refine Gp_iald 0 hm159489 he159490 dr_cX17_step_84 rfl (gB_inr (by omega) (by omega)) (G_nam fun z159522 hz159522 => ?_)
      have bz159522 : gB z159522 (-2147483648) 2147483647 := gB_any z159522
      refine G_goto 89 dr_cX17_step_85 (by decide +kernel) ?_
      have hm159523 : (γ 9 20) ∈ P159404 := RS_m hT ht159444 (by decide)
      obtain ⟨f159525, he159524⟩ := show rk_22 I (F159405 (γ 9 20)) from RS_o hT ht159444
      refine Gp_iast 0 hm159523 he159524 dr_cX17_step_89 rfl (gB_in bp159459 (by decide) (by decide)) (fun F159526 e159527 n159528 => ?_)
      obtain ⟨f159529, hf159529⟩ : ∃ z, z = upd f159525 p159459.toNatClampNeg z159522 := ⟨_, rfl⟩
      rw [← hf159529] at e159527
      have he159530 : F159526 q159406 = .inr (22, [.ref (γ 9 0), .ref (γ 9 1), .ref (γ 9 2), .ref (γ 9 3), .ref (γ 9 4), .ref (γ 9 5), .ref (γ 9 6), .ref (γ 9 7), .ref (γ 9 8), .int p159413, .int p159414, .int p159415, .int p159416, .int p159417, .int p159418, .ref (γ 9 15), .ref (γ 9 16), .ref (γ 9 17), .ref (γ 9 18), .ref (γ 9 19), .ref (γ 9 20), .ref (γ 9 21), .ref (γ 9 22), .int p159419, .int p159420, .int p159421, .int p159422, .int p159423, .ref q159411, .ref (γ 9 29), .int p159424, .ref (γ 9 31), .int p159425, .int p159426, .int p159427, .ref q159412]) := (n159528 q159406 (rn_oa he159410 he159524)).trans he159410
      have he159531 : F159526 q159407 = .inr (20, [.int p159458, .int p159459, .int p159460, .int p159461, .int p159462, .int p159463, .int p159464]) := (n159528 q159407 (rn_oa he159457 he159524)).trans he159457
      have he159532 : F159526 q159411 = .inl (I .int, n159492, .inl f159491) := (n159528 q159411 (rn_ty ht159428 ht159444 (by decide))).trans he159490
      have he159533 : F159526 (γ 9 20) = .inl (I .int, 2000, .inl f159529) := e159527
      have hs159534 : rStr γ [] F159405 F159526 := rStr_put (rStr_rf (γ := γ) (W := []) (F := F159405)) n159528 ht159444 (by decide)
      refine G_aload_n 0 dr_cX17_step_90 rfl ?_
      refine G_aload_n 0 dr_cX17_step_91 rfl ?_
      refine Gp_get 27 hm159409 he159530 dr_cX17_step_92 (gk_X17 D I) (Nat.le_of_ble_eq_true rfl) wr_7_101 rfl ?_
      refine G_iconst 1 dr_cX17_step_95 (by decide +kernel) ?_
      refine G_iadd dr_cX17_step_96 (G_nam fun z159535 hz159535 => ?_)
      have ez159535 : z159535.toInt = p159423.toInt + 1 := by rw [gI_add hz159535 bp159423 (gBl (show Int32.toInt 1 = 1 by decide)) (by decide) (by decide), show Int32.toInt 1 = 1 from by decide]
      have bz159535 : gB z159535 1 2049 := gB_add (gI_add hz159535 bp159423 (gBl (show Int32.toInt 1 = 1 by decide)) (by decide) (by decide)) bp159423 (gBl (show Int32.toInt 1 = 1 by decide)) (by decide) (by decide)
      refine G_aload_n 0 dr_cX17_step_97 rfl ?_
      refine Gp_get 28 hm159409 he159530 dr_cX17_step_98 (gk_X17 D I) (Nat.le_of_ble_eq_true rfl) wr_7_102 rfl ?_
      refine Gp_alen (Int32.ofNat n159492) 0 hm159489 he159532 dr_cX17_step_101 rfl rfl (G_nam fun z159536 hz159536 => ?_)
      have ez159536 : z159536.toInt = (n159492 : Nat) := gI_ofM hz159536 (by omega)
      have bz159536 : gB z159536 0 16777216 := ⟨by omega, by omega⟩
      refine G_mmin dr_cX17_step_102 wr_11_20 wr_3_227 wr_1_6 wr_3_228 (Nat.le_of_ble_eq_true rfl) (Nat.le_of_ble_eq_true rfl) (show 0 ≤ 0 by first | omega | decide) (show 0 ≤ 0 by first | omega | decide) (G_nam fun z159537 hz159537 => ?_)
      have ez159537 : z159535.toInt ≥ z159537.toInt ∧ z159536.toInt ≥ z159537.toInt ∧ (z159537.toInt = z159535.toInt ∨ z159537.toInt = z159536.toInt) := by have := gI_min hz159537; omega
      have bz159537 : gB z159537 0 2049 := ⟨by omega, by omega⟩
      have hT159538 : RS D I P159404 F159526 γ el := RS_set hT n159528 ht159444 (by decide) ⟨f159529, he159533⟩
      refine Gp_put 27 hm159409 he159530 dr_cX17_step_105 (gk_X17 D I) (Nat.le_of_ble_eq_true rfl) wr_7_101 rfl rfl rfl (Nat.le_of_ble_eq_true rfl) (fun F159539 e159540 n159541 => ?_)
      have he159542 : F159539 q159407 = .inr (20, [.int p159458, .int p159459, .int p159460, .int p159461, .int p159462, .int p159463, .int p159464]) := (n159541 q159407 (rn_oo he159531 he159530 (by decide))).trans he159531
      have he159543 : F159539 q159411 = .inl (I .int, n159492, .inl f159491) := (n159541 q159411 (rn_ao he159532 he159530)).trans he159532
      have he159544 : F159539 (γ 9 20) = .inl (I .int, 2000, .inl f159529) := (n159541 (γ 9 20) (rn_ao he159533 he159530)).trans he159533
      have he159545 : F159539 q159406 = .inr (22, [.ref (γ 9 0), .ref (γ 9 1), .ref (γ 9 2), .ref (γ 9 3), .ref (γ 9 4), .ref (γ 9 5), .ref (γ 9 6), .ref (γ 9 7), .ref (γ 9 8), .int p159413, .int p159414, .int p159415, .int p159416, .int p159417, .int p159418, .ref (γ 9 15), .ref (γ 9 16), .ref (γ 9 17), .ref (γ 9 18), .ref (γ 9 19), .ref (γ 9 20), .ref (γ 9 21), .ref (γ 9 22), .int p159419, .int p159420, .int p159421, .int p159422, .int z159537, .ref q159411, .ref (γ 9 29), .int p159424, .ref (γ 9 31), .int p159425, .int p159426, .int p159427, .ref q159412]) := e159540
      have hs159546 : rStr γ [] F159405 F159539 := rStr_put hs159534 n159541 htq159406 (by decide)
      refine G_iconst (-1) dr_cX17_step_108 (by decide +kernel) ?_
      have hT159547 : RS D I P159404 F159539 γ el := RS_set hT159538 n159541 htq159406 (by decide) ⟨q159411, q159412, p159413, p159414, p159415, p159416, p159417, p159418, p159419, p159420, p159421, p159422, z159537, p159424, p159425, p159426, p159427, he159545, ⟨(hB159454.1), (hB159454.2.1), (hB159454.2.2.1), (hB159454.2.2.2.1), (hB159454.2.2.2.2.1), (hB159454.2.2.2.2.2.1), ⟨by omega, by omega⟩, (hB159454.2.2.2.2.2.2.2.1), (hB159454.2.2.2.2.2.2.2.2)⟩, ht159428, ht159429, ht159430, ht159431, ht159432, ht159433, ht159434, ht159435, ht159436, ht159437, ht159438, ht159439, ht159440, ht159441, ht159442, ht159443, ht159444, ht159445, ht159446, ht159447, ht159448, ht159449, ht159450, ht159451, hB159455⟩
      exact G_iretA dr_cX17_step_109 rfl (Nat.le_of_ble_eq_true rfl) (Nat.le_of_ble_eq_true rfl) ⟨F159539, (-1), rfl, rfl, hT159547, hs159546, (Nat.le_of_ble_eq_true rfl), (Nat.le_of_ble_eq_true rfl), (gB_w (gBl (show Int32.toInt (-1) = (-1) by decide)) (by decide) (by decide)), (by rw [show fI (F159539 q159406) 26 = p159422 from by rw [he159545]; rfl, show fI (F159405 q159406) 26 = p159422 from by rw [he159410]; rfl] <;> (have qa0 : Int32.toInt (-1) = (-1) := (by decide); omega)), (by rw [show fI (F159539 q159406) 32 = p159425 from by rw [he159545]; rfl, show fI (F159405 q159406) 32 = p159425 from by rw [he159410]; rfl] <;> (have qa0 : Int32.toInt (-1) = (-1) := (by decide); omega))⟩
  by_cases hs159548 : p159458 = 21
  · have ehs159548 : p159458.toInt = 21 := gj_eq hs159548 (show Int32.toInt 21 = 21 by decide)
    have bp159458' : gB p159458 21 21 := ⟨by omega, by omega⟩
    refine G_eqi (y := 21) hs159548 ?_
    refine G_lookup 155 dr_cX17_step_4 (by decide) (by first | rfl | decide) (by decide) ?_
    refine G_aload_n 0 dr_cX17_step_155 rfl ?_
    refine Gp_get 20 hm159409 he159410 dr_cX17_step_156 (gk_X17 D I) (Nat.le_of_ble_eq_true rfl) wr_7_94 rfl ?_
    refine G_aload_n 1 dr_cX17_step_159 rfl ?_
    refine Gp_get 1 hm159456 he159457 dr_cX17_step_160 (gk_X15 D I) (Nat.le_of_ble_eq_true rfl) wr_9_182 rfl ?_
    refine G_aload_n 0 dr_cX17_step_163 rfl ?_
    refine Gp_get 21 hm159409 he159410 dr_cX17_step_164 (gk_X17 D I) (Nat.le_of_ble_eq_true rfl) wr_7_95 rfl ?_
    refine G_aload_n 1 dr_cX17_step_167 rfl ?_
    refine Gp_get 4 hm159456 he159457 dr_cX17_step_168 (gk_X15 D I) (Nat.le_of_ble_eq_true rfl) wr_9_193 rfl ?_
    have hm159549 : (γ 9 21) ∈ P159404 := RS_m hT ht159445 (by decide)
    obtain ⟨f159551, he159550⟩ := show rk_23 I (F159405 (γ 9 21)) from RS_o hT ht159445
    refine Gp_iald 0 hm159549 he159550 dr_cX17_step_171 rfl (gB_in bp159462 (by decide) (by decide)) (G_nam fun z159552 hz159552 => ?_)
    have bz159552 : gB z159552 (-2147483648) 2147483647 := gB_any z159552
    have hm159553 : (γ 9 20) ∈ P159404 := RS_m hT ht159444 (by decide)
    obtain ⟨f159555, he159554⟩ := show rk_22 I (F159405 (γ 9 20)) from RS_o hT ht159444
    refine Gp_iast 0 hm159553 he159554 dr_cX17_step_172 rfl (gB_in bp159459 (by decide) (by decide)) (fun F159556 e159557 n159558 => ?_)
    obtain ⟨f159559, hf159559⟩ : ∃ z, z = upd f159555 p159459.toNatClampNeg z159552 := ⟨_, rfl⟩
    rw [← hf159559] at e159557
    have he159560 : F159556 q159406 = .inr (22, [.ref (γ 9 0), .ref (γ 9 1), .ref (γ 9 2), .ref (γ 9 3), .ref (γ 9 4), .ref (γ 9 5), .ref (γ 9 6), .ref (γ 9 7), .ref (γ 9 8), .int p159413, .int p159414, .int p159415, .int p159416, .int p159417, .int p159418, .ref (γ 9 15), .ref (γ 9 16), .ref (γ 9 17), .ref (γ 9 18), .ref (γ 9 19), .ref (γ 9 20), .ref (γ 9 21), .ref (γ 9 22), .int p159419, .int p159420, .int p159421, .int p159422, .int p159423, .ref q159411, .ref (γ 9 29), .int p159424, .ref (γ 9 31), .int p159425, .int p159426, .int p159427, .ref q159412]) := (n159558 q159406 (rn_oa he159410 he159554)).trans he159410
    have he159561 : F159556 q159407 = .inr (20, [.int p159458, .int p159459, .int p159460, .int p159461, .int p159462, .int p159463, .int p159464]) := (n159558 q159407 (rn_oa he159457 he159554)).trans he159457
    have he159562 : F159556 (γ 9 21) = .inl (I .int, 2000, .inl f159551) := (n159558 (γ 9 21) (rn_ty ht159445 ht159444 (by decide))).trans he159550
    have he159563 : F159556 (γ 9 20) = .inl (I .int, 2000, .inl f159559) := e159557
    have hs159564 : rStr γ [] F159405 F159556 := rStr_put (rStr_rf (γ := γ) (W := []) (F := F159405)) n159558 ht159444 (by decide)
    refine G_iconst (-1) dr_cX17_step_173 (by decide +kernel) ?_
    have hT159565 : RS D I P159404 F159556 γ el := RS_set hT n159558 ht159444 (by decide) ⟨f159559, he159563⟩
    exact G_iretA dr_cX17_step_174 rfl (Nat.le_of_ble_eq_true rfl) (Nat.le_of_ble_eq_true rfl) ⟨F159556, (-1), rfl, rfl, hT159565, hs159564, (Nat.le_of_ble_eq_true rfl), (Nat.le_of_ble_eq_true rfl), (gB_w (gBl (show Int32.toInt (-1) = (-1) by decide)) (by decide) (by decide)), (by rw [show fI (F159556 q159406) 26 = p159422 from by rw [he159560]; rfl, show fI (F159405 q159406) 26 = p159422 from by rw [he159410]; rfl] <;> (have qa0 : Int32.toInt (-1) = (-1) := (by decide); omega)), (by rw [show fI (F159556 q159406) 32 = p159425 from by rw [he159560]; rfl, show fI (F159405 q159406) 32 = p159425 from by rw [he159410]; rfl] <;> (have qa0 : Int32.toInt (-1) = (-1) := (by decide); omega))⟩
  by_cases hs159566 : p159458 = 22
  · have ehs159566 : p159458.toInt = 22 := gj_eq hs159566 (show Int32.toInt 22 = 22 by decide)
    have bp159458' : gB p159458 22 22 := ⟨by omega, by omega⟩
    refine G_eqi (y := 22) hs159566 ?_
    refine G_lookup 110 dr_cX17_step_4 (by decide) (by first | rfl | decide) (by decide) ?_
    refine G_aload_n 0 dr_cX17_step_110 rfl ?_
    refine Gp_get 25 hm159409 he159410 dr_cX17_step_111 (gk_X17 D I) (Nat.le_of_ble_eq_true rfl) wr_7_99 rfl ?_
    have bp159421 : gB p159421 0 512 := (hB159454.2.2.2.2.1)
    refine G_sipush 512 dr_cX17_step_114 (by decide +kernel) ?_
    refine G_icmp_ne 122 dr_cX17_step_117 (by decide +kernel) (fun hc159567 => ?_) (fun hc159567 => ?_)
    · have r159568 : p159421.toInt ≠ 512 := gj_neq hc159567 (show Int32.toInt 512 = 512 by decide)
      have bp159421' : gB p159421 0 511 := ⟨by omega, by omega⟩
      refine G_aload_n 0 dr_cX17_step_122 rfl ?_
      refine Gp_get 22 hm159409 he159410 dr_cX17_step_123 (gk_X17 D I) (Nat.le_of_ble_eq_true rfl) wr_7_96 rfl ?_
      refine G_aload_n 0 dr_cX17_step_126 rfl ?_
      refine Gp_get 25 hm159409 he159410 dr_cX17_step_127 (gk_X17 D I) (Nat.le_of_ble_eq_true rfl) wr_7_99 rfl ?_
      refine G_aload_n 0 dr_cX17_step_130 rfl ?_
      refine G_aload_n 1 dr_cX17_step_131 rfl ?_
      refine Gp_get 5 hm159456 he159457 dr_cX17_step_132 (gk_X15 D I) (Nat.le_of_ble_eq_true rfl) wr_9_197 rfl ?_
      refine G_aload_n 1 dr_cX17_step_135 rfl ?_
      refine Gp_get 2 hm159456 he159457 dr_cX17_step_136 (gk_X15 D I) (Nat.le_of_ble_eq_true rfl) wr_9_186 rfl ?_
      refine Gw_callV (As := [.int p159463, .int p159460]) (gV_ok D I) (ct_7373_SpillForgeModel_value l hl0 D I γ el P159404 F159405 q159406 p159463 p159460 hT htq159406 bp159463 (by omega)) dr_cX17_step_139 ⟨wr_11_100, wr_1_14, wr_11_103, by decide, rfl, (Nat.le_of_ble_eq_true rfl), (Nat.le_of_ble_eq_true rfl)⟩ wr_11_102 wr_p_115 hm159409 he159410 rfl (show 0 + 0 ≤ 0 by first | omega | decide) (show 0 + 0 ≤ 0 by first | omega | decide) (Nat.le_of_ble_eq_true rfl) (fun r159572 w159573 dc159569 ds159570 hp159571 => ?_) (fun _ _ _ _ _ z => z.elim)
      obtain ⟨o159574, rfl, rfl, hdc, hds⟩ := hp159571
      have bo159574 := gB_any o159574
      change G _ _ _ _ _ _ _ (.int o159574 :: _) _ _ _
      refine G_widen (cs' := 0) (sl' := 0) (by omega) (by omega) ?_
      have hm159575 : (γ 9 22) ∈ P159404 := RS_m hT ht159446 (by decide)
      obtain ⟨f159577, he159576⟩ := show rk_24 I (F159405 (γ 9 22)) from RS_o hT ht159446
      refine Gp_iast 0 hm159575 he159576 dr_cX17_step_142 rfl (gB_in bp159421' (by decide) (by decide)) (fun F159578 e159579 n159580 => ?_)
      obtain ⟨f159581, hf159581⟩ : ∃ z, z = upd f159577 p159421.toNatClampNeg o159574 := ⟨_, rfl⟩
      rw [← hf159581] at e159579
      have he159582 : F159578 q159406 = .inr (22, [.ref (γ 9 0), .ref (γ 9 1), .ref (γ 9 2), .ref (γ 9 3), .ref (γ 9 4), .ref (γ 9 5), .ref (γ 9 6), .ref (γ 9 7), .ref (γ 9 8), .int p159413, .int p159414, .int p159415, .int p159416, .int p159417, .int p159418, .ref (γ 9 15), .ref (γ 9 16), .ref (γ 9 17), .ref (γ 9 18), .ref (γ 9 19), .ref (γ 9 20), .ref (γ 9 21), .ref (γ 9 22), .int p159419, .int p159420, .int p159421, .int p159422, .int p159423, .ref q159411, .ref (γ 9 29), .int p159424, .ref (γ 9 31), .int p159425, .int p159426, .int p159427, .ref q159412]) := (n159580 q159406 (rn_oa he159410 he159576)).trans he159410
      have he159583 : F159578 q159407 = .inr (20, [.int p159458, .int p159459, .int p159460, .int p159461, .int p159462, .int p159463, .int p159464]) := (n159580 q159407 (rn_oa he159457 he159576)).trans he159457
      have he159584 : F159578 (γ 9 22) = .inl (I .int, 512, .inl f159581) := e159579
      have hs159585 : rStr γ [] F159405 F159578 := rStr_put (rStr_rf (γ := γ) (W := []) (F := F159405)) n159580 ht159446 (by decide)
      refine G_aload_n 0 dr_cX17_step_143 rfl ?_
      refine G_dup dr_cX17_step_144 rfl ?_
      refine Gp_get 25 hm159409 he159582 dr_cX17_step_145 (gk_X17 D I) (Nat.le_of_ble_eq_true rfl) wr_7_99 rfl ?_
      refine G_iconst 1 dr_cX17_step_148 (by decide +kernel) ?_
      refine G_iadd dr_cX17_step_149 (G_nam fun z159586 hz159586 => ?_)
      have ez159586 : z159586.toInt = p159421.toInt + 1 := by rw [gI_add hz159586 bp159421' (gBl (show Int32.toInt 1 = 1 by decide)) (by decide) (by decide), show Int32.toInt 1 = 1 from by decide]
      have bz159586 : gB z159586 1 512 := gB_add (gI_add hz159586 bp159421' (gBl (show Int32.toInt 1 = 1 by decide)) (by decide) (by decide)) bp159421' (gBl (show Int32.toInt 1 = 1 by decide)) (by decide) (by decide)
      have hT159587 : RS D I P159404 F159578 γ el := RS_set hT n159580 ht159446 (by decide) ⟨f159581, he159584⟩
      refine Gp_put 25 hm159409 he159582 dr_cX17_step_150 (gk_X17 D I) (Nat.le_of_ble_eq_true rfl) wr_7_99 rfl rfl rfl (Nat.le_of_ble_eq_true rfl) (fun F159588 e159589 n159590 => ?_)
      have he159591 : F159588 q159407 = .inr (20, [.int p159458, .int p159459, .int p159460, .int p159461, .int p159462, .int p159463, .int p159464]) := (n159590 q159407 (rn_oo he159583 he159582 (by decide))).trans he159583
      have he159592 : F159588 (γ 9 22) = .inl (I .int, 512, .inl f159581) := (n159590 (γ 9 22) (rn_ao he159584 he159582)).trans he159584
      have he159593 : F159588 q159406 = .inr (22, [.ref (γ 9 0), .ref (γ 9 1), .ref (γ 9 2), .ref (γ 9 3), .ref (γ 9 4), .ref (γ 9 5), .ref (γ 9 6), .ref (γ 9 7), .ref (γ 9 8), .int p159413, .int p159414, .int p159415, .int p159416, .int p159417, .int p159418, .ref (γ 9 15), .ref (γ 9 16), .ref (γ 9 17), .ref (γ 9 18), .ref (γ 9 19), .ref (γ 9 20), .ref (γ 9 21), .ref (γ 9 22), .int p159419, .int p159420, .int z159586, .int p159422, .int p159423, .ref q159411, .ref (γ 9 29), .int p159424, .ref (γ 9 31), .int p159425, .int p159426, .int p159427, .ref q159412]) := e159589
      have hs159594 : rStr γ [] F159405 F159588 := rStr_put hs159585 n159590 htq159406 (by decide)
      refine G_iconst (-1) dr_cX17_step_153 (by decide +kernel) ?_
      have hT159595 : RS D I P159404 F159588 γ el := RS_set hT159587 n159590 htq159406 (by decide) ⟨q159411, q159412, p159413, p159414, p159415, p159416, p159417, p159418, p159419, p159420, z159586, p159422, p159423, p159424, p159425, p159426, p159427, he159593, ⟨(hB159454.1), (hB159454.2.1), (hB159454.2.2.1), (hB159454.2.2.2.1), (gB_w bz159586 (by decide) (by decide)), (hB159454.2.2.2.2.2.1), (hB159454.2.2.2.2.2.2.1), (hB159454.2.2.2.2.2.2.2.1), (hB159454.2.2.2.2.2.2.2.2)⟩, ht159428, ht159429, ht159430, ht159431, ht159432, ht159433, ht159434, ht159435, ht159436, ht159437, ht159438, ht159439, ht159440, ht159441, ht159442, ht159443, ht159444, ht159445, ht159446, ht159447, ht159448, ht159449, ht159450, ht159451, hB159455⟩
      exact G_iretA dr_cX17_step_154 rfl (Nat.le_of_ble_eq_true rfl) (Nat.le_of_ble_eq_true rfl) ⟨F159588, (-1), rfl, rfl, hT159595, hs159594, (Nat.le_of_ble_eq_true rfl), (Nat.le_of_ble_eq_true rfl), (gB_w (gBl (show Int32.toInt (-1) = (-1) by decide)) (by decide) (by decide)), (by rw [show fI (F159588 q159406) 26 = p159422 from by rw [he159593]; rfl, show fI (F159405 q159406) 26 = p159422 from by rw [he159410]; rfl] <;> (have qa0 : Int32.toInt (-1) = (-1) := (by decide); omega)), (by rw [show fI (F159588 q159406) 32 = p159425 from by rw [he159593]; rfl, show fI (F159405 q159406) 32 = p159425 from by rw [he159410]; rfl] <;> (have qa0 : Int32.toInt (-1) = (-1) := (by decide); omega))⟩
    · have r159596 : p159421.toInt = 512 := gj_eq hc159567 (show Int32.toInt 512 = 512 by decide)
      have bp159421' : gB p159421 512 512 := ⟨by omega, by omega⟩
      refine G_iconst 5 dr_cX17_step_120 (by decide +kernel) ?_
      exact G_iretA dr_cX17_step_121 rfl (Nat.le_of_ble_eq_true rfl) (Nat.le_of_ble_eq_true rfl) ⟨F159405, 5, rfl, rfl, hT, (rStr_rf (γ := γ) (W := []) (F := F159405)), (Nat.le_of_ble_eq_true rfl), (Nat.le_of_ble_eq_true rfl), (gB_w (gBl (show Int32.toInt 5 = 5 by decide)) (by decide) (by decide)), (by rw [show fI (F159405 q159406) 26 = p159422 from by rw [he159410]; rfl] <;> (have qa0 : Int32.toInt 5 = 5 := (by decide); omega)), (by rw [show fI (F159405 q159406) 32 = p159425 from by rw [he159410]; rfl] <;> (have qa0 : Int32.toInt 5 = 5 := (by decide); omega))⟩
  by_cases hs159597 : p159458 = 23
  · have ehs159597 : p159458.toInt = 23 := gj_eq hs159597 (show Int32.toInt 23 = 23 by decide)
    have bp159458' : gB p159458 23 23 := ⟨by omega, by omega⟩
    refine G_eqi (y := 23) hs159597 ?_
    refine G_lookup 175 dr_cX17_step_4 (by decide) (by first | rfl | decide) (by decide) ?_
    refine G_aload_n 0 dr_cX17_step_175 rfl ?_
    refine Gp_get 21 hm159409 he159410 dr_cX17_step_176 (gk_X17 D I) (Nat.le_of_ble_eq_true rfl) wr_7_95 rfl ?_
    refine G_aload_n 1 dr_cX17_step_179 rfl ?_
    refine Gp_get 4 hm159456 he159457 dr_cX17_step_180 (gk_X15 D I) (Nat.le_of_ble_eq_true rfl) wr_9_193 rfl ?_
    refine G_aload_n 0 dr_cX17_step_183 rfl ?_
    refine G_aload_n 1 dr_cX17_step_184 rfl ?_
    refine Gp_get 5 hm159456 he159457 dr_cX17_step_185 (gk_X15 D I) (Nat.le_of_ble_eq_true rfl) wr_9_197 rfl ?_
    refine G_aload_n 1 dr_cX17_step_188 rfl ?_
    refine Gp_get 2 hm159456 he159457 dr_cX17_step_189 (gk_X15 D I) (Nat.le_of_ble_eq_true rfl) wr_9_186 rfl ?_
    refine Gw_callV (As := [.int p159463, .int p159460]) (gV_ok D I) (ct_7373_SpillForgeModel_value l hl0 D I γ el P159404 F159405 q159406 p159463 p159460 hT htq159406 bp159463 (by omega)) dr_cX17_step_192 ⟨wr_11_100, wr_1_14, wr_11_103, by decide, rfl, (Nat.le_of_ble_eq_true rfl), (Nat.le_of_ble_eq_true rfl)⟩ wr_11_102 wr_p_115 hm159409 he159410 rfl (show 0 + 0 ≤ 0 by first | omega | decide) (show 0 + 0 ≤ 0 by first | omega | decide) (Nat.le_of_ble_eq_true rfl) (fun r159601 w159602 dc159598 ds159599 hp159600 => ?_) (fun _ _ _ _ _ z => z.elim)
    obtain ⟨o159603, rfl, rfl, hdc, hds⟩ := hp159600
    have bo159603 := gB_any o159603
    change G _ _ _ _ _ _ _ (.int o159603 :: _) _ _ _
    refine G_widen (cs' := 0) (sl' := 0) (by omega) (by omega) ?_
    have hm159604 : (γ 9 21) ∈ P159404 := RS_m hT ht159445 (by decide)
    obtain ⟨f159606, he159605⟩ := show rk_23 I (F159405 (γ 9 21)) from RS_o hT ht159445
    refine Gp_iast 0 hm159604 he159605 dr_cX17_step_195 rfl (gB_in bp159462 (by decide) (by decide)) (fun F159607 e159608 n159609 => ?_)
    obtain ⟨f159610, hf159610⟩ : ∃ z, z = upd f159606 p159462.toNatClampNeg o159603 := ⟨_, rfl⟩
    rw [← hf159610] at e159608
    have he159611 : F159607 q159406 = .inr (22, [.ref (γ 9 0), .ref (γ 9 1), .ref (γ 9 2), .ref (γ 9 3), .ref (γ 9 4), .ref (γ 9 5), .ref (γ 9 6), .ref (γ 9 7), .ref (γ 9 8), .int p159413, .int p159414, .int p159415, .int p159416, .int p159417, .int p159418, .ref (γ 9 15), .ref (γ 9 16), .ref (γ 9 17), .ref (γ 9 18), .ref (γ 9 19), .ref (γ 9 20), .ref (γ 9 21), .ref (γ 9 22), .int p159419, .int p159420, .int p159421, .int p159422, .int p159423, .ref q159411, .ref (γ 9 29), .int p159424, .ref (γ 9 31), .int p159425, .int p159426, .int p159427, .ref q159412]) := (n159609 q159406 (rn_oa he159410 he159605)).trans he159410
    have he159612 : F159607 q159407 = .inr (20, [.int p159458, .int p159459, .int p159460, .int p159461, .int p159462, .int p159463, .int p159464]) := (n159609 q159407 (rn_oa he159457 he159605)).trans he159457
    have he159613 : F159607 (γ 9 21) = .inl (I .int, 2000, .inl f159610) := e159608
    have hs159614 : rStr γ [] F159405 F159607 := rStr_put (rStr_rf (γ := γ) (W := []) (F := F159405)) n159609 ht159445 (by decide)
    refine G_iconst (-1) dr_cX17_step_196 (by decide +kernel) ?_
    have hT159615 : RS D I P159404 F159607 γ el := RS_set hT n159609 ht159445 (by decide) ⟨f159610, he159613⟩
    exact G_iretA dr_cX17_step_197 rfl (Nat.le_of_ble_eq_true rfl) (Nat.le_of_ble_eq_true rfl) ⟨F159607, (-1), rfl, rfl, hT159615, hs159614, (Nat.le_of_ble_eq_true rfl), (Nat.le_of_ble_eq_true rfl), (gB_w (gBl (show Int32.toInt (-1) = (-1) by decide)) (by decide) (by decide)), (by rw [show fI (F159607 q159406) 26 = p159422 from by rw [he159611]; rfl, show fI (F159405 q159406) 26 = p159422 from by rw [he159410]; rfl] <;> (have qa0 : Int32.toInt (-1) = (-1) := (by decide); omega)), (by rw [show fI (F159607 q159406) 32 = p159425 from by rw [he159611]; rfl, show fI (F159405 q159406) 32 = p159425 from by rw [he159410]; rfl] <;> (have qa0 : Int32.toInt (-1) = (-1) := (by decide); omega))⟩
  have ehs159469 := lv_neT hs159469 (show Int32.toInt 0 = 0 by decide)
  have ehs159488 := lv_neT hs159488 (show Int32.toInt 20 = 20 by decide)
  have ehs159548 := lv_neT hs159548 (show Int32.toInt 21 = 21 by decide)
  have ehs159566 := lv_neT hs159566 (show Int32.toInt 22 = 22 by decide)
  have ehs159597 := lv_neT hs159597 (show Int32.toInt 23 = 23 by decide)
  refine G_lookup 221 dr_cX17_step_4 (by decide) (by show Op.lookupswitch.offset [(0, 194), (20, 52), (21, 151), (22, 106), (23, 171)] _ _ = 217; rw [lv_osw hs159469 (show Int32.toInt 0 = 0 by decide), lv_osw hs159488 (show Int32.toInt 20 = 20 by decide), lv_osw hs159548 (show Int32.toInt 21 = 21 by decide), lv_osw hs159566 (show Int32.toInt 22 = 22 by decide), lv_osw hs159597 (show Int32.toInt 23 = 23 by decide)]; first | done | rfl) (by decide) ?_
  refine G_aload_n 1 dr_cX17_step_221 rfl ?_
  refine Gp_get 0 hm159456 he159457 dr_cX17_step_222 (gk_X15 D I) (Nat.le_of_ble_eq_true rfl) wr_9_177 rfl ?_
  refine G_aload_n 0 dr_cX17_step_225 rfl ?_
  refine G_aload_n 1 dr_cX17_step_226 rfl ?_
  refine Gp_get 5 hm159456 he159457 dr_cX17_step_227 (gk_X15 D I) (Nat.le_of_ble_eq_true rfl) wr_9_197 rfl ?_
  refine G_aload_n 1 dr_cX17_step_230 rfl ?_
  refine Gp_get 2 hm159456 he159457 dr_cX17_step_231 (gk_X15 D I) (Nat.le_of_ble_eq_true rfl) wr_9_186 rfl ?_
  refine Gw_callV (As := [.int p159463, .int p159460]) (gV_ok D I) (ct_7373_SpillForgeModel_value l hl0 D I γ el P159404 F159405 q159406 p159463 p159460 hT htq159406 bp159463 (by omega)) dr_cX17_step_234 ⟨wr_11_100, wr_1_14, wr_11_103, by decide, rfl, (Nat.le_of_ble_eq_true rfl), (Nat.le_of_ble_eq_true rfl)⟩ wr_11_102 wr_p_115 hm159409 he159410 rfl (show 0 + 0 ≤ 0 by first | omega | decide) (show 0 + 0 ≤ 0 by first | omega | decide) (Nat.le_of_ble_eq_true rfl) (fun r159619 w159620 dc159616 ds159617 hp159618 => ?_) (fun _ _ _ _ _ z => z.elim)
  obtain ⟨o159621, rfl, rfl, hdc, hds⟩ := hp159618
  have bo159621 := gB_any o159621
  change G _ _ _ _ _ _ _ (.int o159621 :: _) _ _ _
  refine G_widen (cs' := 0) (sl' := 0) (by omega) (by omega) ?_
  refine G_aload_n 0 dr_cX17_step_237 rfl ?_
  refine G_aload_n 1 dr_cX17_step_238 rfl ?_
  refine Gp_get 6 hm159456 he159457 dr_cX17_step_239 (gk_X15 D I) (Nat.le_of_ble_eq_true rfl) wr_9_202 rfl ?_
  refine G_aload_n 1 dr_cX17_step_242 rfl ?_
  refine Gp_get 3 hm159456 he159457 dr_cX17_step_243 (gk_X15 D I) (Nat.le_of_ble_eq_true rfl) wr_9_190 rfl ?_
  refine Gw_callV (As := [.int p159464, .int p159461]) (gV_ok D I) (ct_7373_SpillForgeModel_value l hl0 D I γ el P159404 F159405 q159406 p159464 p159461 hT htq159406 bp159464 (by omega)) dr_cX17_step_246 ⟨wr_11_100, wr_1_14, wr_11_103, by decide, rfl, (Nat.le_of_ble_eq_true rfl), (Nat.le_of_ble_eq_true rfl)⟩ wr_11_102 wr_p_115 hm159409 he159410 rfl (show 0 + 0 ≤ 0 by first | omega | decide) (show 0 + 0 ≤ 0 by first | omega | decide) (Nat.le_of_ble_eq_true rfl) (fun r159625 w159626 dc159622 ds159623 hp159624 => ?_) (fun _ _ _ _ _ z => z.elim)
  obtain ⟨o159627, rfl, rfl, hdc, hds⟩ := hp159624
  have bo159627 := gB_any o159627
  change G _ _ _ _ _ _ _ (.int o159627 :: _) _ _ _
  refine G_widen (cs' := 0) (sl' := 0) (by omega) (by omega) ?_
  refine Gw_callS (As := [.int p159458, .int o159621, .int o159627]) (gV_ok D I) (cp_2019_SpillForgeModel_result l hl0 D I P159404 F159405 p159458 o159621 o159627 ) dr_cX17_step_249 ⟨wr_11_104, wr_1_14, wr_11_106, by decide, rfl, (Nat.le_of_ble_eq_true rfl), (Nat.le_of_ble_eq_true rfl)⟩ wr_11_105 (show 0 + 0 ≤ 0 by first | omega | decide) (show 0 + 0 ≤ 0 by first | omega | decide) (Nat.le_of_ble_eq_true rfl) (fun r159631 w159632 dc159628 ds159629 hp159630 => ?_) (fun _ _ _ _ _ z => z.elim)
  obtain ⟨ol159633, rfl, rfl, hdc, hds⟩ := hp159630
  change G _ _ _ _ _ _ _ (.long ol159633 :: _) _ _ _
  refine G_widen (cs' := 0) (sl' := 0) (by omega) (by omega) ?_
  refine G_lstore_n (L' := [(2, .long ol159633), (0, .ref q159406), (1, .ref q159407)]) dr_cX17_step_252 (Nat.le_of_ble_eq_true rfl) rfl ?_
  refine G_lload_n 0 dr_cX17_step_253 rfl ?_
  refine G_ldc2 4294967296 dr_cX17_step_254 wr_11_107 ?_
  refine G_lcmp dr_cX17_step_257 (G_nam fun z159634 hz159634 => ?_)
  have bz159634 : gB z159634 (-1) 1 := gB_cmp hz159634
  refine G_if_ne 263 dr_cX17_step_258 (by decide +kernel) (fun hc159635 => ?_) (fun hc159635 => ?_)
  · have r159636 : z159634.toInt ≠ 0 := gj_neq hc159635 (show Int32.toInt 0 = 0 by decide)
    have lhc159635 := gC_cmpN hz159634 hc159635
    refine G_aload_n 1 dr_cX17_step_263 rfl ?_
    refine Gp_get 20 hm159409 he159410 dr_cX17_step_264 (gk_X17 D I) (Nat.le_of_ble_eq_true rfl) wr_7_94 rfl ?_
    refine G_aload_n 2 dr_cX17_step_267 rfl ?_
    refine Gp_get 1 hm159456 he159457 dr_cX17_step_268 (gk_X15 D I) (Nat.le_of_ble_eq_true rfl) wr_9_182 rfl ?_
    refine G_lload_n 0 dr_cX17_step_271 rfl ?_
    refine G_l2i dr_cX17_step_272 (G_nam fun z159637 hz159637 => ?_)
    have bz159637 : gB z159637 (-2147483648) 2147483647 := gB_any z159637
    have hm159638 : (γ 9 20) ∈ P159404 := RS_m hT ht159444 (by decide)
    obtain ⟨f159640, he159639⟩ := show rk_22 I (F159405 (γ 9 20)) from RS_o hT ht159444
    refine Gp_iast 0 hm159638 he159639 dr_cX17_step_273 rfl (gB_in bp159459 (by decide) (by decide)) (fun F159641 e159642 n159643 => ?_)
    obtain ⟨f159644, hf159644⟩ : ∃ z, z = upd f159640 p159459.toNatClampNeg z159637 := ⟨_, rfl⟩
    rw [← hf159644] at e159642
    have he159645 : F159641 q159406 = .inr (22, [.ref (γ 9 0), .ref (γ 9 1), .ref (γ 9 2), .ref (γ 9 3), .ref (γ 9 4), .ref (γ 9 5), .ref (γ 9 6), .ref (γ 9 7), .ref (γ 9 8), .int p159413, .int p159414, .int p159415, .int p159416, .int p159417, .int p159418, .ref (γ 9 15), .ref (γ 9 16), .ref (γ 9 17), .ref (γ 9 18), .ref (γ 9 19), .ref (γ 9 20), .ref (γ 9 21), .ref (γ 9 22), .int p159419, .int p159420, .int p159421, .int p159422, .int p159423, .ref q159411, .ref (γ 9 29), .int p159424, .ref (γ 9 31), .int p159425, .int p159426, .int p159427, .ref q159412]) := (n159643 q159406 (rn_oa he159410 he159639)).trans he159410
    have he159646 : F159641 q159407 = .inr (20, [.int p159458, .int p159459, .int p159460, .int p159461, .int p159462, .int p159463, .int p159464]) := (n159643 q159407 (rn_oa he159457 he159639)).trans he159457
    have he159647 : F159641 (γ 9 20) = .inl (I .int, 2000, .inl f159644) := e159642
    have hs159648 : rStr γ [] F159405 F159641 := rStr_put (rStr_rf (γ := γ) (W := []) (F := F159405)) n159643 ht159444 (by decide)
    refine G_iconst (-1) dr_cX17_step_274 (by decide +kernel) ?_
    have hT159649 : RS D I P159404 F159641 γ el := RS_set hT n159643 ht159444 (by decide) ⟨f159644, he159647⟩
    exact G_iretA dr_cX17_step_275 rfl (Nat.le_of_ble_eq_true rfl) (Nat.le_of_ble_eq_true rfl) ⟨F159641, (-1), rfl, rfl, hT159649, hs159648, (Nat.le_of_ble_eq_true rfl), (Nat.le_of_ble_eq_true rfl), (gB_w (gBl (show Int32.toInt (-1) = (-1) by decide)) (by decide) (by decide)), (by rw [show fI (F159641 q159406) 26 = p159422 from by rw [he159645]; rfl, show fI (F159405 q159406) 26 = p159422 from by rw [he159410]; rfl] <;> (have qa0 : Int32.toInt (-1) = (-1) := (by decide); omega)), (by rw [show fI (F159641 q159406) 32 = p159425 from by rw [he159645]; rfl, show fI (F159405 q159406) 32 = p159425 from by rw [he159410]; rfl] <;> (have qa0 : Int32.toInt (-1) = (-1) := (by decide); omega))⟩
  · have r159650 : z159634.toInt = 0 := gj_eq hc159635 (show Int32.toInt 0 = 0 by decide)
    have bz159634' : gB z159634 0 0 := ⟨by omega, by omega⟩
    have lhc159635 := gC_cmpE hz159634 hc159635
    refine G_iconst 1 dr_cX17_step_261 (by decide +kernel) ?_
    exact G_iretA dr_cX17_step_262 rfl (Nat.le_of_ble_eq_true rfl) (Nat.le_of_ble_eq_true rfl) ⟨F159405, 1, rfl, rfl, hT, (rStr_rf (γ := γ) (W := []) (F := F159405)), (Nat.le_of_ble_eq_true rfl), (Nat.le_of_ble_eq_true rfl), (gB_w (gBl (show Int32.toInt 1 = 1 by decide)) (by decide) (by decide)), (by rw [show fI (F159405 q159406) 26 = p159422 from by rw [he159410]; rfl] <;> (have qa0 : Int32.toInt 1 = 1 := (by decide); omega)), (by rw [show fI (F159405 q159406) 32 = p159425 from by rw [he159410]; rfl] <;> (have qa0 : Int32.toInt 1 = 1 := (by decide); omega))⟩
abbrev ky_159736_SpillForgeModel_no : gKey := (cX17_no, 2, "SpillForgeModel", (some FieldType.int), [], "no", fun _ _ => True)
def pt_159736_SpillForgeModel_no (D : va_G) (I : FieldType → ClassId) (γ el : Nat → Nat → Nat) (P159732 : List Nat) (F159733 : Nat → va_E) (q159734 : Nat) (p159735 : Int32) : Option Value → va_W → Nat → Nat → Prop := fun r w dc ds => ∃ (F159790 : Nat → va_E), r = some (.int 0) ∧ w = va_pl P159732 F159790 ∧ RS D I P159732 F159790 γ el ∧ rStr γ [] F159733 F159790 ∧ dc ≤ 0 ∧ ds ≤ 0 ∧ (fI (F159790 q159734) 32).toInt = (fI (F159733 q159734) 32).toInt ∧ (fI (F159790 q159734) 30).toInt = p159735.toInt
set_option maxRecDepth 100000 in
set_option maxHeartbeats 4000000 in
theorem ct_159736_SpillForgeModel_no (l : Launch) (hl0 : l.stackTraces = false) (D : va_G) (I : FieldType → ClassId) (γ el : Nat → Nat → Nat) (P159732 : List Nat) (F159733 : Nat → va_E) (q159734 : Nat) (p159735 : Int32) (hT : RS D I P159732 F159733 γ el) (htq159734 : rKd γ q159734 10) : CtA (gV D I) l yX17_no cX17_no 2 (some FieldType.int) 0 0 0 0 [.ref q159734, .int p159735] (va_pl P159732 F159733) (pt_159736_SpillForgeModel_no D I γ el P159732 F159733 q159734 p159735) gNA := by
  refine CtA_of hl0 (by decide) (Nat.le_of_ble_eq_true rfl) ?_
  have bp159735 := gB_any p159735
  have hm159737 : q159734 ∈ P159732 := RS_m hT htq159734 (by decide)
  obtain ⟨q159739, q159740, p159741, p159742, p159743, p159744, p159745, p159746, p159747, p159748, p159749, p159750, p159751, p159752, p159753, p159754, p159755, he159738, hB159782, ht159756, ht159757, ht159758, ht159759, ht159760, ht159761, ht159762, ht159763, ht159764, ht159765, ht159766, ht159767, ht159768, ht159769, ht159770, ht159771, ht159772, ht159773, ht159774, ht159775, ht159776, ht159777, ht159778, ht159779, hB159783⟩ := show rk_10 γ (F159733 q159734) from RS_o hT htq159734
  refine G_aload_n 0 dr_cX17_no_0 rfl ?_
  refine G_iload_n 1 dr_cX17_no_1 rfl ?_
  refine Gp_put 30 hm159737 he159738 dr_cX17_no_2 (gk_X17 D I) (Nat.le_of_ble_eq_true rfl) wr_7_104 rfl rfl rfl (Nat.le_of_ble_eq_true rfl) (fun F159784 e159785 n159786 => ?_)
  have he159787 : F159784 q159734 = .inr (22, [.ref (γ 9 0), .ref (γ 9 1), .ref (γ 9 2), .ref (γ 9 3), .ref (γ 9 4), .ref (γ 9 5), .ref (γ 9 6), .ref (γ 9 7), .ref (γ 9 8), .int p159741, .int p159742, .int p159743, .int p159744, .int p159745, .int p159746, .ref (γ 9 15), .ref (γ 9 16), .ref (γ 9 17), .ref (γ 9 18), .ref (γ 9 19), .ref (γ 9 20), .ref (γ 9 21), .ref (γ 9 22), .int p159747, .int p159748, .int p159749, .int p159750, .int p159751, .ref q159739, .ref (γ 9 29), .int p159735, .ref (γ 9 31), .int p159753, .int p159754, .int p159755, .ref q159740]) := e159785
  have hs159788 : rStr γ [] F159733 F159784 := rStr_put (rStr_rf (γ := γ) (W := []) (F := F159733)) n159786 htq159734 (by decide)
  refine G_iconst 0 dr_cX17_no_5 (by decide +kernel) ?_
  have hT159789 : RS D I P159732 F159784 γ el := RS_set hT n159786 htq159734 (by decide) ⟨q159739, q159740, p159741, p159742, p159743, p159744, p159745, p159746, p159747, p159748, p159749, p159750, p159751, p159735, p159753, p159754, p159755, he159787, ⟨(hB159782.1), (hB159782.2.1), (hB159782.2.2.1), (hB159782.2.2.2.1), (hB159782.2.2.2.2.1), (hB159782.2.2.2.2.2.1), (hB159782.2.2.2.2.2.2.1), (hB159782.2.2.2.2.2.2.2.1), (hB159782.2.2.2.2.2.2.2.2)⟩, ht159756, ht159757, ht159758, ht159759, ht159760, ht159761, ht159762, ht159763, ht159764, ht159765, ht159766, ht159767, ht159768, ht159769, ht159770, ht159771, ht159772, ht159773, ht159774, ht159775, ht159776, ht159777, ht159778, ht159779, hB159783⟩
  exact G_iretA dr_cX17_no_6 rfl (Nat.le_of_ble_eq_true rfl) (Nat.le_of_ble_eq_true rfl) ⟨F159784, rfl, rfl, hT159789, hs159788, (Nat.le_of_ble_eq_true rfl), (Nat.le_of_ble_eq_true rfl), (by rw [show fI (F159784 q159734) 32 = p159753 from by rw [he159787]; rfl, show fI (F159733 q159734) 32 = p159753 from by rw [he159738]; rfl] <;> (have qa0 : Int32.toInt 0 = 0 := (by decide); omega)), (by rw [show fI (F159784 q159734) 30 = p159735 from by rw [he159787]; rfl] <;> (have qa0 : Int32.toInt 0 = 0 := (by decide); omega))⟩
abbrev ky_159657_SpillForgeModel_told : gKey := (cX17_told, 2, "SpillForgeModel", (some FieldType.int), [], "told", fun _ _ => True)
def pt_159657_SpillForgeModel_told (D : va_G) (I : FieldType → ClassId) (γ el : Nat → Nat → Nat) (P159653 : List Nat) (F159654 : Nat → va_E) (q159655 : Nat) (p159656 : Int32) : Option Value → va_W → Nat → Nat → Prop := fun r w dc ds => ∃ (F159853 : Nat → va_E) (o159852 : Int32), r = some (.int o159852) ∧ w = va_pl P159653 F159853 ∧ RS D I P159653 F159853 γ el ∧ rStr γ [] F159654 F159853 ∧ dc ≤ 0 ∧ ds ≤ 0 ∧ (fI (F159853 q159655) 32).toInt = (fI (F159654 q159655) 32).toInt
set_option maxRecDepth 100000 in
set_option maxHeartbeats 4000000 in
theorem ct_159657_SpillForgeModel_told (l : Launch) (hl0 : l.stackTraces = false) (D : va_G) (I : FieldType → ClassId) (γ el : Nat → Nat → Nat) (P159653 : List Nat) (F159654 : Nat → va_E) (q159655 : Nat) (p159656 : Int32) (hT : RS D I P159653 F159654 γ el) (htq159655 : rKd γ q159655 10) : CtA (gV D I) l yX17_told cX17_told 2 (some FieldType.int) 1 21 0 0 [.ref q159655, .int p159656] (va_pl P159653 F159654) (pt_159657_SpillForgeModel_told D I γ el P159653 F159654 q159655 p159656) gNA := by
  refine CtA_of hl0 (by decide) (Nat.le_of_ble_eq_true rfl) ?_
  have bp159656 := gB_any p159656
  have hm159658 : q159655 ∈ P159653 := RS_m hT htq159655 (by decide)
  obtain ⟨q159660, q159661, p159662, p159663, p159664, p159665, p159666, p159667, p159668, p159669, p159670, p159671, p159672, p159673, p159674, p159675, p159676, he159659, hB159703, ht159677, ht159678, ht159679, ht159680, ht159681, ht159682, ht159683, ht159684, ht159685, ht159686, ht159687, ht159688, ht159689, ht159690, ht159691, ht159692, ht159693, ht159694, ht159695, ht159696, ht159697, ht159698, ht159699, ht159700, hB159704⟩ := show rk_10 γ (F159654 q159655) from RS_o hT htq159655
  have ac159705 : (fI (F159654 q159655) 32).toInt = p159674.toInt := by rw [he159659]; rfl
  have bp159674 : gB p159674 0 8192 := (hB159703.2.2.2.2.2.2.2.1)
  refine G_aload_n 0 dr_cX17_told_0 rfl ?_
  refine G_iconst 0 dr_cX17_told_1 (by decide +kernel) ?_
  refine Gp_put 30 hm159658 he159659 dr_cX17_told_2 (gk_X17 D I) (Nat.le_of_ble_eq_true rfl) wr_7_104 rfl rfl rfl (Nat.le_of_ble_eq_true rfl) (fun F159706 e159707 n159708 => ?_)
  have he159709 : F159706 q159655 = .inr (22, [.ref (γ 9 0), .ref (γ 9 1), .ref (γ 9 2), .ref (γ 9 3), .ref (γ 9 4), .ref (γ 9 5), .ref (γ 9 6), .ref (γ 9 7), .ref (γ 9 8), .int p159662, .int p159663, .int p159664, .int p159665, .int p159666, .int p159667, .ref (γ 9 15), .ref (γ 9 16), .ref (γ 9 17), .ref (γ 9 18), .ref (γ 9 19), .ref (γ 9 20), .ref (γ 9 21), .ref (γ 9 22), .int p159668, .int p159669, .int p159670, .int p159671, .int p159672, .ref q159660, .ref (γ 9 29), .int 0, .ref (γ 9 31), .int p159674, .int p159675, .int p159676, .ref q159661]) := e159707
  have hs159710 : rStr γ [] F159654 F159706 := rStr_put (rStr_rf (γ := γ) (W := []) (F := F159654)) n159708 htq159655 (by decide)
  refine G_iload_n 1 dr_cX17_told_5 rfl ?_
  by_cases hs159711 : p159656 = 0
  · have ehs159711 : p159656.toInt = 0 := gj_eq hs159711 (show Int32.toInt 0 = 0 by decide)
    have bp159656' : gB p159656 0 0 := ⟨by omega, by omega⟩
    refine G_eqi (y := 0) hs159711 ?_
    refine G_tableIn 40 dr_cX17_told_6 (by decide) (by decide) (by first | rfl | decide) (by decide) ?_
    refine G_aload_n 0 dr_cX17_told_40 rfl ?_
    refine Gp_get 23 hm159658 he159709 dr_cX17_told_41 (gk_X17 D I) (Nat.le_of_ble_eq_true rfl) wr_7_97 rfl ?_
    have bp159668 : gB p159668 (-2147483648) 2147483647 := (gB_any p159668)
    refine G_if_ne 54 dr_cX17_told_44 (by decide +kernel) (fun hc159712 => ?_) (fun hc159712 => ?_)
    · have r159713 : p159668.toInt ≠ 0 := gj_neq hc159712 (show Int32.toInt 0 = 0 by decide)
      refine G_iconst 0 dr_cX17_told_54 (by decide +kernel) ?_
      have hT159714 : RS D I P159653 F159706 γ el := RS_set hT n159708 htq159655 (by decide) ⟨q159660, q159661, p159662, p159663, p159664, p159665, p159666, p159667, p159668, p159669, p159670, p159671, p159672, 0, p159674, p159675, p159676, he159709, ⟨(hB159703.1), (hB159703.2.1), (hB159703.2.2.1), (hB159703.2.2.2.1), (hB159703.2.2.2.2.1), (hB159703.2.2.2.2.2.1), (hB159703.2.2.2.2.2.2.1), bp159674, (hB159703.2.2.2.2.2.2.2.2)⟩, ht159677, ht159678, ht159679, ht159680, ht159681, ht159682, ht159683, ht159684, ht159685, ht159686, ht159687, ht159688, ht159689, ht159690, ht159691, ht159692, ht159693, ht159694, ht159695, ht159696, ht159697, ht159698, ht159699, ht159700, hB159704⟩
      have ac159715 : (fI (F159706 q159655) 32).toInt = p159674.toInt := by rw [he159709]; rfl
      exact G_iretA dr_cX17_told_55 rfl (Nat.le_of_ble_eq_true rfl) (Nat.le_of_ble_eq_true rfl) ⟨F159706, 0, rfl, rfl, hT159714, hs159710, (Nat.le_of_ble_eq_true rfl), (Nat.le_of_ble_eq_true rfl), (by have qa0 : Int32.toInt 0 = 0 := (by decide); omega)⟩
    · have r159716 : p159668.toInt = 0 := gj_eq hc159712 (show Int32.toInt 0 = 0 by decide)
      have bp159668' : gB p159668 0 0 := ⟨by omega, by omega⟩
      refine G_aload_n 0 dr_cX17_told_47 rfl ?_
      refine Gp_get 24 hm159658 he159709 dr_cX17_told_48 (gk_X17 D I) (Nat.le_of_ble_eq_true rfl) wr_7_98 rfl ?_
      have bp159669 : gB p159669 (-2147483648) 2147483647 := (gB_any p159669)
      refine G_goto 55 dr_cX17_told_51 (by decide +kernel) ?_
      have hT159717 : RS D I P159653 F159706 γ el := RS_set hT n159708 htq159655 (by decide) ⟨q159660, q159661, p159662, p159663, p159664, p159665, p159666, p159667, p159668, p159669, p159670, p159671, p159672, 0, p159674, p159675, p159676, he159709, ⟨(hB159703.1), (hB159703.2.1), (hB159703.2.2.1), (hB159703.2.2.2.1), (hB159703.2.2.2.2.1), (hB159703.2.2.2.2.2.1), (hB159703.2.2.2.2.2.2.1), bp159674, (hB159703.2.2.2.2.2.2.2.2)⟩, ht159677, ht159678, ht159679, ht159680, ht159681, ht159682, ht159683, ht159684, ht159685, ht159686, ht159687, ht159688, ht159689, ht159690, ht159691, ht159692, ht159693, ht159694, ht159695, ht159696, ht159697, ht159698, ht159699, ht159700, hB159704⟩
      have ac159718 : (fI (F159706 q159655) 32).toInt = p159674.toInt := by rw [he159709]; rfl
      exact G_iretA dr_cX17_told_55 rfl (Nat.le_of_ble_eq_true rfl) (Nat.le_of_ble_eq_true rfl) ⟨F159706, p159669, rfl, rfl, hT159717, hs159710, (Nat.le_of_ble_eq_true rfl), (Nat.le_of_ble_eq_true rfl), (by omega)⟩
  by_cases hs159719 : p159656 = 1
  · have ehs159719 : p159656.toInt = 1 := gj_eq hs159719 (show Int32.toInt 1 = 1 by decide)
    have bp159656' : gB p159656 1 1 := ⟨by omega, by omega⟩
    refine G_eqi (y := 1) hs159719 ?_
    refine G_tableIn 56 dr_cX17_told_6 (by decide) (by decide) (by first | rfl | decide) (by decide) ?_
    refine G_aload_n 0 dr_cX17_told_56 rfl ?_
    refine Gp_get 25 hm159658 he159709 dr_cX17_told_57 (gk_X17 D I) (Nat.le_of_ble_eq_true rfl) wr_7_99 rfl ?_
    have bp159670 : gB p159670 0 512 := (hB159703.2.2.2.2.1)
    have hT159720 : RS D I P159653 F159706 γ el := RS_set hT n159708 htq159655 (by decide) ⟨q159660, q159661, p159662, p159663, p159664, p159665, p159666, p159667, p159668, p159669, p159670, p159671, p159672, 0, p159674, p159675, p159676, he159709, ⟨(hB159703.1), (hB159703.2.1), (hB159703.2.2.1), (hB159703.2.2.2.1), bp159670, (hB159703.2.2.2.2.2.1), (hB159703.2.2.2.2.2.2.1), bp159674, (hB159703.2.2.2.2.2.2.2.2)⟩, ht159677, ht159678, ht159679, ht159680, ht159681, ht159682, ht159683, ht159684, ht159685, ht159686, ht159687, ht159688, ht159689, ht159690, ht159691, ht159692, ht159693, ht159694, ht159695, ht159696, ht159697, ht159698, ht159699, ht159700, hB159704⟩
    have ac159721 : (fI (F159706 q159655) 32).toInt = p159674.toInt := by rw [he159709]; rfl
    exact G_iretA dr_cX17_told_60 rfl (Nat.le_of_ble_eq_true rfl) (Nat.le_of_ble_eq_true rfl) ⟨F159706, p159670, rfl, rfl, hT159720, hs159710, (Nat.le_of_ble_eq_true rfl), (Nat.le_of_ble_eq_true rfl), (by omega)⟩
  by_cases hs159722 : p159656 = 2
  · have ehs159722 : p159656.toInt = 2 := gj_eq hs159722 (show Int32.toInt 2 = 2 by decide)
    have bp159656' : gB p159656 2 2 := ⟨by omega, by omega⟩
    refine G_eqi (y := 2) hs159722 ?_
    refine G_tableIn 61 dr_cX17_told_6 (by decide) (by decide) (by first | rfl | decide) (by decide) ?_
    refine G_aload_n 0 dr_cX17_told_61 rfl ?_
    refine Gp_get 26 hm159658 he159709 dr_cX17_told_62 (gk_X17 D I) (Nat.le_of_ble_eq_true rfl) wr_7_100 rfl ?_
    have bp159671 : gB p159671 0 100000 := (hB159703.2.2.2.2.2.1)
    have hT159723 : RS D I P159653 F159706 γ el := RS_set hT n159708 htq159655 (by decide) ⟨q159660, q159661, p159662, p159663, p159664, p159665, p159666, p159667, p159668, p159669, p159670, p159671, p159672, 0, p159674, p159675, p159676, he159709, ⟨(hB159703.1), (hB159703.2.1), (hB159703.2.2.1), (hB159703.2.2.2.1), (hB159703.2.2.2.2.1), bp159671, (hB159703.2.2.2.2.2.2.1), bp159674, (hB159703.2.2.2.2.2.2.2.2)⟩, ht159677, ht159678, ht159679, ht159680, ht159681, ht159682, ht159683, ht159684, ht159685, ht159686, ht159687, ht159688, ht159689, ht159690, ht159691, ht159692, ht159693, ht159694, ht159695, ht159696, ht159697, ht159698, ht159699, ht159700, hB159704⟩
    have ac159724 : (fI (F159706 q159655) 32).toInt = p159674.toInt := by rw [he159709]; rfl
    exact G_iretA dr_cX17_told_65 rfl (Nat.le_of_ble_eq_true rfl) (Nat.le_of_ble_eq_true rfl) ⟨F159706, p159671, rfl, rfl, hT159723, hs159710, (Nat.le_of_ble_eq_true rfl), (Nat.le_of_ble_eq_true rfl), (by omega)⟩
  by_cases hs159725 : p159656 = 3
  · have ehs159725 : p159656.toInt = 3 := gj_eq hs159725 (show Int32.toInt 3 = 3 by decide)
    have bp159656' : gB p159656 3 3 := ⟨by omega, by omega⟩
    refine G_eqi (y := 3) hs159725 ?_
    refine G_tableIn 66 dr_cX17_told_6 (by decide) (by decide) (by first | rfl | decide) (by decide) ?_
    refine G_aload_n 0 dr_cX17_told_66 rfl ?_
    refine Gp_get 27 hm159658 he159709 dr_cX17_told_67 (gk_X17 D I) (Nat.le_of_ble_eq_true rfl) wr_7_101 rfl ?_
    have bp159672 : gB p159672 0 2048 := (hB159703.2.2.2.2.2.2.1)
    have hT159726 : RS D I P159653 F159706 γ el := RS_set hT n159708 htq159655 (by decide) ⟨q159660, q159661, p159662, p159663, p159664, p159665, p159666, p159667, p159668, p159669, p159670, p159671, p159672, 0, p159674, p159675, p159676, he159709, ⟨(hB159703.1), (hB159703.2.1), (hB159703.2.2.1), (hB159703.2.2.2.1), (hB159703.2.2.2.2.1), (hB159703.2.2.2.2.2.1), bp159672, bp159674, (hB159703.2.2.2.2.2.2.2.2)⟩, ht159677, ht159678, ht159679, ht159680, ht159681, ht159682, ht159683, ht159684, ht159685, ht159686, ht159687, ht159688, ht159689, ht159690, ht159691, ht159692, ht159693, ht159694, ht159695, ht159696, ht159697, ht159698, ht159699, ht159700, hB159704⟩
    have ac159727 : (fI (F159706 q159655) 32).toInt = p159674.toInt := by rw [he159709]; rfl
    exact G_iretA dr_cX17_told_70 rfl (Nat.le_of_ble_eq_true rfl) (Nat.le_of_ble_eq_true rfl) ⟨F159706, p159672, rfl, rfl, hT159726, hs159710, (Nat.le_of_ble_eq_true rfl), (Nat.le_of_ble_eq_true rfl), (by omega)⟩
  by_cases hs159728 : p159656 = 4
  · have ehs159728 : p159656.toInt = 4 := gj_eq hs159728 (show Int32.toInt 4 = 4 by decide)
    have bp159656' : gB p159656 4 4 := ⟨by omega, by omega⟩
    refine G_eqi (y := 4) hs159728 ?_
    refine G_tableIn 71 dr_cX17_told_6 (by decide) (by decide) (by first | rfl | decide) (by decide) ?_
    refine G_aload_n 0 dr_cX17_told_71 rfl ?_
    refine Gp_get 23 hm159658 he159709 dr_cX17_told_72 (gk_X17 D I) (Nat.le_of_ble_eq_true rfl) wr_7_97 rfl ?_
    have bp159668 : gB p159668 (-2147483648) 2147483647 := (gB_any p159668)
    have hT159729 : RS D I P159653 F159706 γ el := RS_set hT n159708 htq159655 (by decide) ⟨q159660, q159661, p159662, p159663, p159664, p159665, p159666, p159667, p159668, p159669, p159670, p159671, p159672, 0, p159674, p159675, p159676, he159709, ⟨(hB159703.1), (hB159703.2.1), (hB159703.2.2.1), (hB159703.2.2.2.1), (hB159703.2.2.2.2.1), (hB159703.2.2.2.2.2.1), (hB159703.2.2.2.2.2.2.1), bp159674, (hB159703.2.2.2.2.2.2.2.2)⟩, ht159677, ht159678, ht159679, ht159680, ht159681, ht159682, ht159683, ht159684, ht159685, ht159686, ht159687, ht159688, ht159689, ht159690, ht159691, ht159692, ht159693, ht159694, ht159695, ht159696, ht159697, ht159698, ht159699, ht159700, hB159704⟩
    have ac159730 : (fI (F159706 q159655) 32).toInt = p159674.toInt := by rw [he159709]; rfl
    exact G_iretA dr_cX17_told_75 rfl (Nat.le_of_ble_eq_true rfl) (Nat.le_of_ble_eq_true rfl) ⟨F159706, p159668, rfl, rfl, hT159729, hs159710, (Nat.le_of_ble_eq_true rfl), (Nat.le_of_ble_eq_true rfl), (by omega)⟩
  have ehs159711 := lv_neT hs159711 (show Int32.toInt 0 = 0 by decide)
  have ehs159719 := lv_neT hs159719 (show Int32.toInt 1 = 1 by decide)
  have ehs159722 := lv_neT hs159722 (show Int32.toInt 2 = 2 by decide)
  have ehs159725 := lv_neT hs159725 (show Int32.toInt 3 = 3 by decide)
  have ehs159728 := lv_neT hs159728 (show Int32.toInt 4 = 4 by decide)
  refine G_tableOut 76 dr_cX17_told_6 (by omega) (by decide) ?_
  refine G_aload_n 0 dr_cX17_told_76 rfl ?_
  refine G_iconst 1 dr_cX17_told_77 (by decide +kernel) ?_
  have hT159731 : RS D I P159653 F159706 γ el := RS_set hT n159708 htq159655 (by decide) ⟨q159660, q159661, p159662, p159663, p159664, p159665, p159666, p159667, p159668, p159669, p159670, p159671, p159672, 0, p159674, p159675, p159676, he159709, ⟨(hB159703.1), (hB159703.2.1), (hB159703.2.2.1), (hB159703.2.2.2.1), (hB159703.2.2.2.2.1), (hB159703.2.2.2.2.2.1), (hB159703.2.2.2.2.2.2.1), bp159674, (hB159703.2.2.2.2.2.2.2.2)⟩, ht159677, ht159678, ht159679, ht159680, ht159681, ht159682, ht159683, ht159684, ht159685, ht159686, ht159687, ht159688, ht159689, ht159690, ht159691, ht159692, ht159693, ht159694, ht159695, ht159696, ht159697, ht159698, ht159699, ht159700, hB159704⟩
  have ac159791 : (fI (F159706 q159655) 32).toInt = p159674.toInt := by rw [he159709]; rfl
  refine Gw_callV (As := [.int 1]) (gV_ok D I) (ct_159736_SpillForgeModel_no l hl0 D I γ el P159653 F159706 q159655 1 hT159731 htq159655) dr_cX17_told_78 ⟨wr_7_191, wr_1_14, wr_7_194, by decide, rfl, (Nat.le_of_ble_eq_true rfl), (Nat.le_of_ble_eq_true rfl)⟩ wr_7_193 wr_p_73 hm159658 he159709 rfl (show 0 + 0 ≤ 0 by first | omega | decide) (show 0 + 0 ≤ 0 by first | omega | decide) (Nat.le_of_ble_eq_true rfl) (fun r159795 w159796 dc159792 ds159793 hp159794 => ?_) (fun _ _ _ _ _ z => z.elim)
  obtain ⟨F159799, rfl, rfl, hT159800, hs159801, hdc, hds, x159797, x159798⟩ := hp159794
  have hs159802 : rStr γ [] F159654 F159799 := rStr_tr hs159710 hs159801
  rw [show Int32.toInt 1 = 1 from by decide] at x159798
  change G _ _ _ _ _ _ _ (.int 0 :: _) _ _ _
  refine G_widen (cs' := 0) (sl' := 0) (by omega) (by omega) ?_
  have hm159803 : q159655 ∈ P159653 := RS_m hT159800 htq159655 (by decide)
  obtain ⟨q159805, q159806, p159807, p159808, p159809, p159810, p159811, p159812, p159813, p159814, p159815, p159816, p159817, p159818, p159819, p159820, p159821, he159804, hB159848, ht159822, ht159823, ht159824, ht159825, ht159826, ht159827, ht159828, ht159829, ht159830, ht159831, ht159832, ht159833, ht159834, ht159835, ht159836, ht159837, ht159838, ht159839, ht159840, ht159841, ht159842, ht159843, ht159844, ht159845, hB159849⟩ := show rk_10 γ (F159799 q159655) from RS_o hT159800 htq159655
  have ac159850 : (fI (F159799 q159655) 32).toInt = p159819.toInt := by rw [he159804]; rfl
  have bp159819 : gB p159819 0 8192 := (hB159848.2.2.2.2.2.2.2.1)
  have ac159851 : (fI (F159799 q159655) 32).toInt = p159819.toInt := by rw [he159804]; rfl
  exact G_iretA dr_cX17_told_81 rfl (Nat.le_of_ble_eq_true rfl) (Nat.le_of_ble_eq_true rfl) ⟨F159799, 0, rfl, rfl, hT159800, hs159802, (Nat.le_of_ble_eq_true rfl), (Nat.le_of_ble_eq_true rfl), (by have qa0 : Int32.toInt 0 = 0 := (by decide); omega)⟩
