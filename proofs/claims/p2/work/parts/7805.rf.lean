theorem dr_cX17_step_0 : decode cX17_step 0 = .ok (.aload_n 1, 1) := by decide +kernel
theorem dr_cX17_step_1 : decode cX17_step 1 = .ok (.getfield 39, 3) := by decide +kernel
theorem dr_cX17_step_4 : decode cX17_step 4 = .ok (.lookupswitch 217 #[(0, 194), (20, 52), (21, 151), (22, 106), (23, 171)], 52) := by decide +kernel
theorem dr_cX17_step_198 : decode cX17_step 198 = .ok (.aload_n 0, 1) := by decide +kernel
theorem dr_cX17_step_199 : decode cX17_step 199 = .ok (.getfield 271, 3) := by decide +kernel
theorem dr_cX17_step_202 : decode cX17_step 202 = .ok (.aload_n 1, 1) := by decide +kernel
theorem dr_cX17_step_203 : decode cX17_step 203 = .ok (.getfield 52, 3) := by decide +kernel
theorem dr_cX17_step_206 : decode cX17_step 206 = .ok (.aload_n 0, 1) := by decide +kernel
theorem dr_cX17_step_207 : decode cX17_step 207 = .ok (.aload_n 1, 1) := by decide +kernel
theorem dr_cX17_step_208 : decode cX17_step 208 = .ok (.getfield 141, 3) := by decide +kernel
theorem wr_9_197 : (Jvm.Cond.fieldLink "SpillForgeModel" (141 : Nat) "SpillForgeModel$Row" "regA" "Z") ∈ gw := gw_9 197 rfl rfl
theorem dr_cX17_step_211 : decode cX17_step 211 = .ok (.aload_n 1, 1) := by decide +kernel
theorem dr_cX17_step_212 : decode cX17_step 212 = .ok (.getfield 73, 3) := by decide +kernel
theorem dr_cX17_step_215 : decode cX17_step 215 = .ok (.invokevirtual 293, 3) := by decide +kernel
theorem wr_11_100 : (Jvm.Cond.methodLink "SpillForgeModel" (293 : Nat) ({ cls := "SpillForgeModel", name := "value", desc := "(ZI)I" } : Jvm.MethodName)) ∈ gw := gw_11 100 rfl rfl
theorem wr_11_103 : (Jvm.Cond.code ({ cls := "SpillForgeModel", name := "value", desc := "(ZI)I" } : Jvm.MethodName) prog_14_method_28_code (3 : Nat) (Option.some Jvm.ClassFile.FieldType.int)) ∈ gw := gw_11 103 rfl rfl
theorem wr_11_102 : (Jvm.Cond.instanceMethod ({ cls := "SpillForgeModel", name := "value", desc := "(ZI)I" } : Jvm.MethodName)) ∈ gw := gw_11 102 rfl rfl
theorem wr_p_115 : Cond.selects "SpillForgeModel" ⟨"SpillForgeModel", "value", "(ZI)I"⟩ ⟨"SpillForgeModel", "value", "(ZI)I"⟩ ∈ gw := gw_p _ 115 rfl rfl rfl
theorem dr_cX17_step_218 : decode cX17_step 218 = .ok (.iastore, 1) := by decide +kernel
theorem dr_cX17_step_219 : decode cX17_step 219 = .ok (.iconst (-1), 1) := by decide +kernel
theorem dr_cX17_step_220 : decode cX17_step 220 = .ok (.ireturn, 1) := by decide +kernel
theorem dr_cX17_step_56 : decode cX17_step 56 = .ok (.aload_n 0, 1) := by decide +kernel
theorem dr_cX17_step_57 : decode cX17_step 57 = .ok (.getfield 271, 3) := by decide +kernel
theorem dr_cX17_step_60 : decode cX17_step 60 = .ok (.aload_n 1, 1) := by decide +kernel
theorem dr_cX17_step_61 : decode cX17_step 61 = .ok (.getfield 52, 3) := by decide +kernel
theorem dr_cX17_step_64 : decode cX17_step 64 = .ok (.aload_n 0, 1) := by decide +kernel
theorem dr_cX17_step_65 : decode cX17_step 65 = .ok (.getfield 286, 3) := by decide +kernel
theorem wr_7_101 : (Jvm.Cond.fieldLink "SpillForgeModel" (286 : Nat) "SpillForgeModel" "read" "I") ∈ gw := gw_7 101 rfl rfl
theorem dr_cX17_step_68 : decode cX17_step 68 = .ok (.aload_n 0, 1) := by decide +kernel
theorem dr_cX17_step_69 : decode cX17_step 69 = .ok (.getfield 303, 3) := by decide +kernel
theorem wr_7_102 : (Jvm.Cond.fieldLink "SpillForgeModel" (303 : Nat) "SpillForgeModel" "input" "[I") ∈ gw := gw_7 102 rfl rfl
theorem dr_cX17_step_72 : decode cX17_step 72 = .ok (.arraylength, 1) := by decide +kernel
theorem dr_cX17_step_73 : decode cX17_step 73 = .ok (.if_icmp .ge 15, 3) := by decide +kernel
theorem dr_cX17_step_88 : decode cX17_step 88 = .ok (.iconst 0, 1) := by decide +kernel
theorem dr_cX17_step_89 : decode cX17_step 89 = .ok (.iastore, 1) := by decide +kernel
theorem dr_cX17_step_90 : decode cX17_step 90 = .ok (.aload_n 0, 1) := by decide +kernel
theorem dr_cX17_step_91 : decode cX17_step 91 = .ok (.aload_n 0, 1) := by decide +kernel
theorem dr_cX17_step_92 : decode cX17_step 92 = .ok (.getfield 286, 3) := by decide +kernel
theorem dr_cX17_step_95 : decode cX17_step 95 = .ok (.iconst 1, 1) := by decide +kernel
theorem dr_cX17_step_96 : decode cX17_step 96 = .ok (.iadd, 1) := by decide +kernel
theorem dr_cX17_step_97 : decode cX17_step 97 = .ok (.aload_n 0, 1) := by decide +kernel
theorem dr_cX17_step_98 : decode cX17_step 98 = .ok (.getfield 303, 3) := by decide +kernel
theorem dr_cX17_step_101 : decode cX17_step 101 = .ok (.arraylength, 1) := by decide +kernel
theorem dr_cX17_step_102 : decode cX17_step 102 = .ok (.invokestatic 164, 3) := by decide +kernel
theorem dr_cX17_step_105 : decode cX17_step 105 = .ok (.putfield 286, 3) := by decide +kernel
theorem dr_cX17_step_108 : decode cX17_step 108 = .ok (.iconst (-1), 1) := by decide +kernel
theorem dr_cX17_step_109 : decode cX17_step 109 = .ok (.ireturn, 1) := by decide +kernel
theorem dr_cX17_step_76 : decode cX17_step 76 = .ok (.aload_n 0, 1) := by decide +kernel
theorem dr_cX17_step_77 : decode cX17_step 77 = .ok (.getfield 303, 3) := by decide +kernel
theorem dr_cX17_step_80 : decode cX17_step 80 = .ok (.aload_n 0, 1) := by decide +kernel
theorem dr_cX17_step_81 : decode cX17_step 81 = .ok (.getfield 286, 3) := by decide +kernel
theorem dr_cX17_step_84 : decode cX17_step 84 = .ok (.iaload, 1) := by decide +kernel
theorem dr_cX17_step_85 : decode cX17_step 85 = .ok (.goto 4, 3) := by decide +kernel
theorem dr_cX17_step_155 : decode cX17_step 155 = .ok (.aload_n 0, 1) := by decide +kernel
theorem dr_cX17_step_156 : decode cX17_step 156 = .ok (.getfield 271, 3) := by decide +kernel
theorem dr_cX17_step_159 : decode cX17_step 159 = .ok (.aload_n 1, 1) := by decide +kernel
theorem dr_cX17_step_160 : decode cX17_step 160 = .ok (.getfield 52, 3) := by decide +kernel
theorem dr_cX17_step_163 : decode cX17_step 163 = .ok (.aload_n 0, 1) := by decide +kernel
theorem dr_cX17_step_164 : decode cX17_step 164 = .ok (.getfield 274, 3) := by decide +kernel
theorem wr_7_95 : (Jvm.Cond.fieldLink "SpillForgeModel" (274 : Nat) "SpillForgeModel" "slotNow" "[I") ∈ gw := gw_7 95 rfl rfl
theorem dr_cX17_step_167 : decode cX17_step 167 = .ok (.aload_n 1, 1) := by decide +kernel
theorem dr_cX17_step_168 : decode cX17_step 168 = .ok (.getfield 45, 3) := by decide +kernel
theorem dr_cX17_step_171 : decode cX17_step 171 = .ok (.iaload, 1) := by decide +kernel
theorem dr_cX17_step_172 : decode cX17_step 172 = .ok (.iastore, 1) := by decide +kernel
theorem dr_cX17_step_173 : decode cX17_step 173 = .ok (.iconst (-1), 1) := by decide +kernel
theorem dr_cX17_step_174 : decode cX17_step 174 = .ok (.ireturn, 1) := by decide +kernel
theorem dr_cX17_step_110 : decode cX17_step 110 = .ok (.aload_n 0, 1) := by decide +kernel
theorem dr_cX17_step_111 : decode cX17_step 111 = .ok (.getfield 280, 3) := by decide +kernel
theorem wr_7_99 : (Jvm.Cond.fieldLink "SpillForgeModel" (280 : Nat) "SpillForgeModel" "shown" "I") ∈ gw := gw_7 99 rfl rfl
theorem dr_cX17_step_114 : decode cX17_step 114 = .ok (.sipush 512, 3) := by decide +kernel
theorem dr_cX17_step_117 : decode cX17_step 117 = .ok (.if_icmp .ne 5, 3) := by decide +kernel
theorem dr_cX17_step_122 : decode cX17_step 122 = .ok (.aload_n 0, 1) := by decide +kernel
theorem dr_cX17_step_123 : decode cX17_step 123 = .ok (.getfield 306, 3) := by decide +kernel
theorem wr_7_96 : (Jvm.Cond.fieldLink "SpillForgeModel" (306 : Nat) "SpillForgeModel" "shows" "[I") ∈ gw := gw_7 96 rfl rfl
theorem dr_cX17_step_126 : decode cX17_step 126 = .ok (.aload_n 0, 1) := by decide +kernel
theorem dr_cX17_step_127 : decode cX17_step 127 = .ok (.getfield 280, 3) := by decide +kernel
theorem dr_cX17_step_130 : decode cX17_step 130 = .ok (.aload_n 0, 1) := by decide +kernel
theorem dr_cX17_step_131 : decode cX17_step 131 = .ok (.aload_n 1, 1) := by decide +kernel
theorem dr_cX17_step_132 : decode cX17_step 132 = .ok (.getfield 141, 3) := by decide +kernel
theorem dr_cX17_step_135 : decode cX17_step 135 = .ok (.aload_n 1, 1) := by decide +kernel
theorem dr_cX17_step_136 : decode cX17_step 136 = .ok (.getfield 73, 3) := by decide +kernel
theorem dr_cX17_step_139 : decode cX17_step 139 = .ok (.invokevirtual 293, 3) := by decide +kernel
theorem dr_cX17_step_142 : decode cX17_step 142 = .ok (.iastore, 1) := by decide +kernel
theorem dr_cX17_step_143 : decode cX17_step 143 = .ok (.aload_n 0, 1) := by decide +kernel
theorem dr_cX17_step_144 : decode cX17_step 144 = .ok (.dup, 1) := by decide +kernel
theorem dr_cX17_step_145 : decode cX17_step 145 = .ok (.getfield 280, 3) := by decide +kernel
theorem dr_cX17_step_148 : decode cX17_step 148 = .ok (.iconst 1, 1) := by decide +kernel
theorem dr_cX17_step_149 : decode cX17_step 149 = .ok (.iadd, 1) := by decide +kernel
theorem dr_cX17_step_150 : decode cX17_step 150 = .ok (.putfield 280, 3) := by decide +kernel
theorem dr_cX17_step_153 : decode cX17_step 153 = .ok (.iconst (-1), 1) := by decide +kernel
theorem dr_cX17_step_154 : decode cX17_step 154 = .ok (.ireturn, 1) := by decide +kernel
theorem dr_cX17_step_120 : decode cX17_step 120 = .ok (.iconst 5, 1) := by decide +kernel
theorem dr_cX17_step_121 : decode cX17_step 121 = .ok (.ireturn, 1) := by decide +kernel
theorem dr_cX17_step_175 : decode cX17_step 175 = .ok (.aload_n 0, 1) := by decide +kernel
theorem dr_cX17_step_176 : decode cX17_step 176 = .ok (.getfield 274, 3) := by decide +kernel
theorem dr_cX17_step_179 : decode cX17_step 179 = .ok (.aload_n 1, 1) := by decide +kernel
theorem dr_cX17_step_180 : decode cX17_step 180 = .ok (.getfield 45, 3) := by decide +kernel
theorem dr_cX17_step_183 : decode cX17_step 183 = .ok (.aload_n 0, 1) := by decide +kernel
theorem dr_cX17_step_184 : decode cX17_step 184 = .ok (.aload_n 1, 1) := by decide +kernel
theorem dr_cX17_step_185 : decode cX17_step 185 = .ok (.getfield 141, 3) := by decide +kernel
theorem dr_cX17_step_188 : decode cX17_step 188 = .ok (.aload_n 1, 1) := by decide +kernel
theorem dr_cX17_step_189 : decode cX17_step 189 = .ok (.getfield 73, 3) := by decide +kernel
theorem dr_cX17_step_192 : decode cX17_step 192 = .ok (.invokevirtual 293, 3) := by decide +kernel
theorem dr_cX17_step_195 : decode cX17_step 195 = .ok (.iastore, 1) := by decide +kernel
theorem dr_cX17_step_196 : decode cX17_step 196 = .ok (.iconst (-1), 1) := by decide +kernel
theorem dr_cX17_step_197 : decode cX17_step 197 = .ok (.ireturn, 1) := by decide +kernel
theorem dr_cX17_step_221 : decode cX17_step 221 = .ok (.aload_n 1, 1) := by decide +kernel
theorem dr_cX17_step_222 : decode cX17_step 222 = .ok (.getfield 39, 3) := by decide +kernel
theorem dr_cX17_step_225 : decode cX17_step 225 = .ok (.aload_n 0, 1) := by decide +kernel
theorem dr_cX17_step_226 : decode cX17_step 226 = .ok (.aload_n 1, 1) := by decide +kernel
theorem dr_cX17_step_227 : decode cX17_step 227 = .ok (.getfield 141, 3) := by decide +kernel
theorem dr_cX17_step_230 : decode cX17_step 230 = .ok (.aload_n 1, 1) := by decide +kernel
theorem dr_cX17_step_231 : decode cX17_step 231 = .ok (.getfield 73, 3) := by decide +kernel
theorem dr_cX17_step_234 : decode cX17_step 234 = .ok (.invokevirtual 293, 3) := by decide +kernel
theorem dr_cX17_step_237 : decode cX17_step 237 = .ok (.aload_n 0, 1) := by decide +kernel
theorem dr_cX17_step_238 : decode cX17_step 238 = .ok (.aload_n 1, 1) := by decide +kernel
theorem dr_cX17_step_239 : decode cX17_step 239 = .ok (.getfield 309, 3) := by decide +kernel
theorem wr_9_202 : (Jvm.Cond.fieldLink "SpillForgeModel" (309 : Nat) "SpillForgeModel$Row" "regB" "Z") ∈ gw := gw_9 202 rfl rfl
theorem dr_cX17_step_242 : decode cX17_step 242 = .ok (.aload_n 1, 1) := by decide +kernel
theorem dr_cX17_step_243 : decode cX17_step 243 = .ok (.getfield 79, 3) := by decide +kernel
theorem dr_cX17_step_246 : decode cX17_step 246 = .ok (.invokevirtual 293, 3) := by decide +kernel
theorem dr_cX17_step_249 : decode cX17_step 249 = .ok (.invokestatic 312, 3) := by decide +kernel
theorem wr_11_104 : (Jvm.Cond.methodLink "SpillForgeModel" (312 : Nat) ({ cls := "SpillForgeModel", name := "result", desc := "(III)J" } : Jvm.MethodName)) ∈ gw := gw_11 104 rfl rfl
theorem wr_11_106 : (Jvm.Cond.code ({ cls := "SpillForgeModel", name := "result", desc := "(III)J" } : Jvm.MethodName) prog_14_method_27_code (4 : Nat) (Option.some Jvm.ClassFile.FieldType.long)) ∈ gw := gw_11 106 rfl rfl
theorem wr_11_105 : (Jvm.Cond.static ({ cls := "SpillForgeModel", name := "result", desc := "(III)J" } : Jvm.MethodName)) ∈ gw := gw_11 105 rfl rfl
theorem dr_cX17_step_252 : decode cX17_step 252 = .ok (.lstore_n 2, 1) := by decide +kernel
theorem dr_cX17_step_253 : decode cX17_step 253 = .ok (.lload_n 2, 1) := by decide +kernel
theorem dr_cX17_step_254 : decode cX17_step 254 = .ok (.ldc2_w 267, 3) := by decide +kernel
theorem dr_cX17_step_257 : decode cX17_step 257 = .ok (.lcmp, 1) := by decide +kernel
theorem dr_cX17_step_258 : decode cX17_step 258 = .ok (.ifCond .ne 5, 3) := by decide +kernel
theorem dr_cX17_step_263 : decode cX17_step 263 = .ok (.aload_n 0, 1) := by decide +kernel
theorem dr_cX17_step_264 : decode cX17_step 264 = .ok (.getfield 271, 3) := by decide +kernel
theorem dr_cX17_step_267 : decode cX17_step 267 = .ok (.aload_n 1, 1) := by decide +kernel
theorem dr_cX17_step_268 : decode cX17_step 268 = .ok (.getfield 52, 3) := by decide +kernel
theorem dr_cX17_step_271 : decode cX17_step 271 = .ok (.lload_n 2, 1) := by decide +kernel
theorem dr_cX17_step_272 : decode cX17_step 272 = .ok (.l2i, 1) := by decide +kernel
theorem dr_cX17_step_273 : decode cX17_step 273 = .ok (.iastore, 1) := by decide +kernel
theorem dr_cX17_step_274 : decode cX17_step 274 = .ok (.iconst (-1), 1) := by decide +kernel
theorem dr_cX17_step_275 : decode cX17_step 275 = .ok (.ireturn, 1) := by decide +kernel
theorem dr_cX17_step_261 : decode cX17_step 261 = .ok (.iconst 1, 1) := by decide +kernel
theorem dr_cX17_step_262 : decode cX17_step 262 = .ok (.ireturn, 1) := by decide +kernel
theorem dr_cX17_no_0 : decode cX17_no 0 = .ok (.aload_n 0, 1) := by decide +kernel
theorem dr_cX17_no_1 : decode cX17_no 1 = .ok (.iload_n 1, 1) := by decide +kernel
theorem dr_cX17_no_2 : decode cX17_no 2 = .ok (.putfield 380, 3) := by decide +kernel
theorem wr_7_104 : (Jvm.Cond.fieldLink "SpillForgeModel" (380 : Nat) "SpillForgeModel" "thrown" "I") ∈ gw := gw_7 104 rfl rfl
theorem dr_cX17_no_5 : decode cX17_no 5 = .ok (.iconst 0, 1) := by decide +kernel
theorem dr_cX17_no_6 : decode cX17_no 6 = .ok (.ireturn, 1) := by decide +kernel
theorem dr_cX17_told_0 : decode cX17_told 0 = .ok (.aload_n 0, 1) := by decide +kernel
theorem dr_cX17_told_1 : decode cX17_told 1 = .ok (.iconst 0, 1) := by decide +kernel
theorem dr_cX17_told_2 : decode cX17_told 2 = .ok (.putfield 380, 3) := by decide +kernel
theorem dr_cX17_told_5 : decode cX17_told 5 = .ok (.iload_n 1, 1) := by decide +kernel
theorem dr_cX17_told_6 : decode cX17_told 6 = .ok (.tableswitch 70 0 4 #[34, 50, 55, 60, 65], 34) := by decide +kernel
theorem dr_cX17_told_40 : decode cX17_told 40 = .ok (.aload_n 0, 1) := by decide +kernel
theorem dr_cX17_told_41 : decode cX17_told 41 = .ok (.getfield 371, 3) := by decide +kernel
theorem wr_7_97 : (Jvm.Cond.fieldLink "SpillForgeModel" (371 : Nat) "SpillForgeModel" "ended" "I") ∈ gw := gw_7 97 rfl rfl
theorem dr_cX17_told_44 : decode cX17_told 44 = .ok (.ifCond .ne 10, 3) := by decide +kernel
theorem dr_cX17_told_54 : decode cX17_told 54 = .ok (.iconst 0, 1) := by decide +kernel
theorem dr_cX17_told_55 : decode cX17_told 55 = .ok (.ireturn, 1) := by decide +kernel
theorem dr_cX17_told_47 : decode cX17_told 47 = .ok (.aload_n 0, 1) := by decide +kernel
theorem dr_cX17_told_48 : decode cX17_told 48 = .ok (.getfield 277, 3) := by decide +kernel
theorem wr_7_98 : (Jvm.Cond.fieldLink "SpillForgeModel" (277 : Nat) "SpillForgeModel" "answer" "I") ∈ gw := gw_7 98 rfl rfl
theorem dr_cX17_told_51 : decode cX17_told 51 = .ok (.goto 4, 3) := by decide +kernel
theorem dr_cX17_told_56 : decode cX17_told 56 = .ok (.aload_n 0, 1) := by decide +kernel
theorem dr_cX17_told_57 : decode cX17_told 57 = .ok (.getfield 280, 3) := by decide +kernel
theorem dr_cX17_told_60 : decode cX17_told 60 = .ok (.ireturn, 1) := by decide +kernel
theorem dr_cX17_told_61 : decode cX17_told 61 = .ok (.aload_n 0, 1) := by decide +kernel
theorem dr_cX17_told_62 : decode cX17_told 62 = .ok (.getfield 283, 3) := by decide +kernel
theorem wr_7_100 : (Jvm.Cond.fieldLink "SpillForgeModel" (283 : Nat) "SpillForgeModel" "steps" "I") ∈ gw := gw_7 100 rfl rfl
theorem dr_cX17_told_65 : decode cX17_told 65 = .ok (.ireturn, 1) := by decide +kernel
theorem dr_cX17_told_66 : decode cX17_told 66 = .ok (.aload_n 0, 1) := by decide +kernel
theorem dr_cX17_told_67 : decode cX17_told 67 = .ok (.getfield 286, 3) := by decide +kernel
theorem dr_cX17_told_70 : decode cX17_told 70 = .ok (.ireturn, 1) := by decide +kernel
theorem dr_cX17_told_71 : decode cX17_told 71 = .ok (.aload_n 0, 1) := by decide +kernel
theorem dr_cX17_told_72 : decode cX17_told 72 = .ok (.getfield 371, 3) := by decide +kernel
theorem dr_cX17_told_75 : decode cX17_told 75 = .ok (.ireturn, 1) := by decide +kernel
theorem dr_cX17_told_76 : decode cX17_told 76 = .ok (.aload_n 0, 1) := by decide +kernel
theorem dr_cX17_told_77 : decode cX17_told 77 = .ok (.iconst 1, 1) := by decide +kernel
theorem dr_cX17_told_78 : decode cX17_told 78 = .ok (.invokevirtual 385, 3) := by decide +kernel
theorem wr_7_191 : (Jvm.Cond.methodLink "SpillForgeModel" (385 : Nat) ({ cls := "SpillForgeModel", name := "no", desc := "(I)I" } : Jvm.MethodName)) ∈ gw := gw_7 191 rfl rfl
theorem wr_7_194 : (Jvm.Cond.code ({ cls := "SpillForgeModel", name := "no", desc := "(I)I" } : Jvm.MethodName) prog_14_method_37_code (2 : Nat) (Option.some Jvm.ClassFile.FieldType.int)) ∈ gw := gw_7 194 rfl rfl
theorem wr_7_193 : (Jvm.Cond.instanceMethod ({ cls := "SpillForgeModel", name := "no", desc := "(I)I" } : Jvm.MethodName)) ∈ gw := gw_7 193 rfl rfl
theorem wr_p_73 : Cond.selects "SpillForgeModel" ⟨"SpillForgeModel", "no", "(I)I"⟩ ⟨"SpillForgeModel", "no", "(I)I"⟩ ∈ gw := gw_p _ 73 rfl rfl rfl
theorem dr_cX17_told_81 : decode cX17_told 81 = .ok (.ireturn, 1) := by decide +kernel
abbrev ky_160201_SpillForgeModel_step : gKey := (cX17_step, 4, "SpillForgeModel", (some FieldType.int), [], "step", fun _ _ => True)
def pt_160201_SpillForgeModel_step (D : va_G) (I : FieldType → ClassId) (γ el : Nat → Nat → Nat) (P160197 : List Nat) (F160198 : Nat → va_E) (q160199 : Nat) (q160200 : Nat) : Option Value → va_W → Nat → Nat → Prop := fun r w dc ds => ∃ (F160446 : Nat → va_E) (o160445 : Int32), r = some (.int o160445) ∧ w = va_pl P160197 F160446 ∧ RS D I P160197 F160446 γ el ∧ rStr γ [] F160198 F160446 ∧ dc ≤ 0 ∧ ds ≤ 0 ∧ gB o160445 (-1) 5 ∧ (fI (F160446 q160199) 26).toInt = (fI (F160198 q160199) 26).toInt ∧ (fI (F160446 q160199) 32).toInt = (fI (F160198 q160199) 32).toInt
set_option maxRecDepth 100000 in
set_option maxHeartbeats 4000000 in
theorem ct_160201_SpillForgeModel_step (l : Launch) (hl0 : l.stackTraces = false) (D : va_G) (I : FieldType → ClassId) (γ el : Nat → Nat → Nat) (P160197 : List Nat) (F160198 : Nat → va_E) (q160199 : Nat) (q160200 : Nat) (hT : RS D I P160197 F160198 γ el) (htq160199 : rKd γ q160199 10) (htq160200 : rKd γ q160200 1) : CtA (gV D I) l yX17_step cX17_step 4 (some FieldType.int) 1 23 0 0 [.ref q160199, .ref q160200] (va_pl P160197 F160198) (pt_160201_SpillForgeModel_step D I γ el P160197 F160198 q160199 q160200) gNA := by
  refine CtA_of hl0 (by decide) (Nat.le_of_ble_eq_true rfl) ?_
  have hm160202 : q160199 ∈ P160197 := RS_m hT htq160199 (by decide)
  obtain ⟨q160204, q160205, p160206, p160207, p160208, p160209, p160210, p160211, p160212, p160213, p160214, p160215, p160216, p160217, p160218, p160219, p160220, he160203, hB160247, ht160221, ht160222, ht160223, ht160224, ht160225, ht160226, ht160227, ht160228, ht160229, ht160230, ht160231, ht160232, ht160233, ht160234, ht160235, ht160236, ht160237, ht160238, ht160239, ht160240, ht160241, ht160242, ht160243, ht160244, hB160248⟩ := show rk_10 γ (F160198 q160199) from RS_o hT htq160199
  refine G_aload_n 1 dr_cX17_step_0 rfl ?_
  have hm160249 : q160200 ∈ P160197 := RS_m hT htq160200 (by decide)
  obtain ⟨p160251, p160252, p160253, p160254, p160255, p160256, p160257, he160250, bp160251, bp160252, bp160255, bp160256, bp160257, r160258, r160259, r160260, r160261, r160262⟩ := show rk_1 γ q160200 (F160198 q160200) from RS_o hT htq160200
  have bp160253 := gB_any p160253
  have bp160254 := gB_any p160254
  refine Gp_get 0 hm160249 he160250 dr_cX17_step_1 (gk_X15 D I) (Nat.le_of_ble_eq_true rfl) wr_9_177 rfl ?_
  by_cases hs160263 : p160251 = 0
  · have ehs160263 : p160251.toInt = 0 := gj_eq hs160263 (show Int32.toInt 0 = 0 by decide)
    have bp160251' : gB p160251 0 0 := ⟨by omega, by omega⟩
    refine G_eqi (y := 0) hs160263 ?_
    refine G_lookup 198 dr_cX17_step_4 (by decide) (by first | rfl | decide) (by decide) ?_
    refine G_aload_n 0 dr_cX17_step_198 rfl ?_
    refine Gp_get 20 hm160202 he160203 dr_cX17_step_199 (gk_X17 D I) (Nat.le_of_ble_eq_true rfl) wr_7_94 rfl ?_
    refine G_aload_n 1 dr_cX17_step_202 rfl ?_
    refine Gp_get 1 hm160249 he160250 dr_cX17_step_203 (gk_X15 D I) (Nat.le_of_ble_eq_true rfl) wr_9_182 rfl ?_
    refine G_aload_n 0 dr_cX17_step_206 rfl ?_
    refine G_aload_n 1 dr_cX17_step_207 rfl ?_
    refine Gp_get 5 hm160249 he160250 dr_cX17_step_208 (gk_X15 D I) (Nat.le_of_ble_eq_true rfl) wr_9_197 rfl ?_
    refine G_aload_n 1 dr_cX17_step_211 rfl ?_
    refine Gp_get 2 hm160249 he160250 dr_cX17_step_212 (gk_X15 D I) (Nat.le_of_ble_eq_true rfl) wr_9_186 rfl ?_
    refine Gw_callV (As := [.int p160256, .int p160253]) (gV_ok D I) (ct_7383_SpillForgeModel_value l hl0 D I γ el P160197 F160198 q160199 p160256 p160253 hT htq160199 bp160256 (by omega)) dr_cX17_step_215 ⟨wr_11_100, wr_1_14, wr_11_103, by decide, rfl, (Nat.le_of_ble_eq_true rfl), (Nat.le_of_ble_eq_true rfl)⟩ wr_11_102 wr_p_115 hm160202 he160203 rfl (show 0 + 0 ≤ 0 by first | omega | decide) (show 0 + 0 ≤ 0 by first | omega | decide) (Nat.le_of_ble_eq_true rfl) (fun r160267 w160268 dc160264 ds160265 hp160266 => ?_) (fun _ _ _ _ _ z => z.elim)
    obtain ⟨o160269, rfl, rfl, hdc, hds⟩ := hp160266
    have bo160269 := gB_any o160269
    change G _ _ _ _ _ _ _ (.int o160269 :: _) _ _ _
    refine G_widen (cs' := 0) (sl' := 0) (by omega) (by omega) ?_
    have hm160270 : (γ 9 20) ∈ P160197 := RS_m hT ht160237 (by decide)
    obtain ⟨f160272, he160271⟩ := show rk_22 I (F160198 (γ 9 20)) from RS_o hT ht160237
    refine Gp_iast 0 hm160270 he160271 dr_cX17_step_218 rfl (gB_in bp160252 (by decide) (by decide)) (fun F160273 e160274 n160275 => ?_)
    obtain ⟨f160276, hf160276⟩ : ∃ z, z = upd f160272 p160252.toNatClampNeg o160269 := ⟨_, rfl⟩
    rw [← hf160276] at e160274
    have he160277 : F160273 q160199 = .inr (22, [.ref (γ 9 0), .ref (γ 9 1), .ref (γ 9 2), .ref (γ 9 3), .ref (γ 9 4), .ref (γ 9 5), .ref (γ 9 6), .ref (γ 9 7), .ref (γ 9 8), .int p160206, .int p160207, .int p160208, .int p160209, .int p160210, .int p160211, .ref (γ 9 15), .ref (γ 9 16), .ref (γ 9 17), .ref (γ 9 18), .ref (γ 9 19), .ref (γ 9 20), .ref (γ 9 21), .ref (γ 9 22), .int p160212, .int p160213, .int p160214, .int p160215, .int p160216, .ref q160204, .ref (γ 9 29), .int p160217, .ref (γ 9 31), .int p160218, .int p160219, .int p160220, .ref q160205]) := (n160275 q160199 (rn_oa he160203 he160271)).trans he160203
    have he160278 : F160273 q160200 = .inr (20, [.int p160251, .int p160252, .int p160253, .int p160254, .int p160255, .int p160256, .int p160257]) := (n160275 q160200 (rn_oa he160250 he160271)).trans he160250
    have he160279 : F160273 (γ 9 20) = .inl (I .int, 2000, .inl f160276) := e160274
    have hs160280 : rStr γ [] F160198 F160273 := rStr_put (rStr_rf (γ := γ) (W := []) (F := F160198)) n160275 ht160237 (by decide)
    refine G_iconst (-1) dr_cX17_step_219 (by decide +kernel) ?_
    have hT160281 : RS D I P160197 F160273 γ el := RS_set hT n160275 ht160237 (by decide) ⟨f160276, he160279⟩
    exact G_iretA dr_cX17_step_220 rfl (Nat.le_of_ble_eq_true rfl) (Nat.le_of_ble_eq_true rfl) ⟨F160273, (-1), rfl, rfl, hT160281, hs160280, (Nat.le_of_ble_eq_true rfl), (Nat.le_of_ble_eq_true rfl), (gB_w (gBl (show Int32.toInt (-1) = (-1) by decide)) (by decide) (by decide)), (by rw [show fI (F160273 q160199) 26 = p160215 from by rw [he160277]; rfl, show fI (F160198 q160199) 26 = p160215 from by rw [he160203]; rfl] <;> (have qa0 : Int32.toInt (-1) = (-1) := (by decide); omega)), (by rw [show fI (F160273 q160199) 32 = p160218 from by rw [he160277]; rfl, show fI (F160198 q160199) 32 = p160218 from by rw [he160203]; rfl] <;> (have qa0 : Int32.toInt (-1) = (-1) := (by decide); omega))⟩
  by_cases hs160282 : p160251 = 20
  · have ehs160282 : p160251.toInt = 20 := gj_eq hs160282 (show Int32.toInt 20 = 20 by decide)
    have bp160251' : gB p160251 20 20 := ⟨by omega, by omega⟩
    refine G_eqi (y := 20) hs160282 ?_
    refine G_lookup 56 dr_cX17_step_4 (by decide) (by first | rfl | decide) (by decide) ?_
    refine G_aload_n 0 dr_cX17_step_56 rfl ?_
    refine Gp_get 20 hm160202 he160203 dr_cX17_step_57 (gk_X17 D I) (Nat.le_of_ble_eq_true rfl) wr_7_94 rfl ?_
    refine G_aload_n 1 dr_cX17_step_60 rfl ?_
    refine Gp_get 1 hm160249 he160250 dr_cX17_step_61 (gk_X15 D I) (Nat.le_of_ble_eq_true rfl) wr_9_182 rfl ?_
    refine G_aload_n 0 dr_cX17_step_64 rfl ?_
    refine Gp_get 27 hm160202 he160203 dr_cX17_step_65 (gk_X17 D I) (Nat.le_of_ble_eq_true rfl) wr_7_101 rfl ?_
    have bp160216 : gB p160216 0 2048 := (hB160247.2.2.2.2.2.2.1)
    refine G_aload_n 0 dr_cX17_step_68 rfl ?_
    refine Gp_get 28 hm160202 he160203 dr_cX17_step_69 (gk_X17 D I) (Nat.le_of_ble_eq_true rfl) wr_7_102 rfl ?_
    have hm160283 : q160204 ∈ P160197 := RS_m hT ht160221 (by decide)
    obtain ⟨n160286, f160285, he160284, hn160286⟩ := show rk_26 I (F160198 q160204) from RS_o hT ht160221
    refine Gp_alen (Int32.ofNat n160286) 0 hm160283 he160284 dr_cX17_step_72 rfl rfl (G_nam fun z160287 hz160287 => ?_)
    have ez160287 : z160287.toInt = (n160286 : Nat) := gI_ofM hz160287 (by omega)
    have bz160287 : gB z160287 0 16777216 := ⟨by omega, by omega⟩
    refine G_icmp_ge 88 dr_cX17_step_73 (by decide +kernel) (fun hc160288 => ?_) (fun hc160288 => ?_)
    · have r160289 : z160287.toInt ≤ p160216.toInt := gC_le hc160288
      have bz160287' : gB z160287 0 2048 := ⟨by omega, by omega⟩
      refine G_iconst 0 dr_cX17_step_88 (by decide +kernel) ?_
      have hm160290 : (γ 9 20) ∈ P160197 := RS_m hT ht160237 (by decide)
      obtain ⟨f160292, he160291⟩ := show rk_22 I (F160198 (γ 9 20)) from RS_o hT ht160237
      refine Gp_iast 0 hm160290 he160291 dr_cX17_step_89 rfl (gB_in bp160252 (by decide) (by decide)) (fun F160293 e160294 n160295 => ?_)
      obtain ⟨f160296, hf160296⟩ : ∃ z, z = upd f160292 p160252.toNatClampNeg 0 := ⟨_, rfl⟩
      rw [← hf160296] at e160294
      have he160297 : F160293 q160199 = .inr (22, [.ref (γ 9 0), .ref (γ 9 1), .ref (γ 9 2), .ref (γ 9 3), .ref (γ 9 4), .ref (γ 9 5), .ref (γ 9 6), .ref (γ 9 7), .ref (γ 9 8), .int p160206, .int p160207, .int p160208, .int p160209, .int p160210, .int p160211, .ref (γ 9 15), .ref (γ 9 16), .ref (γ 9 17), .ref (γ 9 18), .ref (γ 9 19), .ref (γ 9 20), .ref (γ 9 21), .ref (γ 9 22), .int p160212, .int p160213, .int p160214, .int p160215, .int p160216, .ref q160204, .ref (γ 9 29), .int p160217, .ref (γ 9 31), .int p160218, .int p160219, .int p160220, .ref q160205]) := (n160295 q160199 (rn_oa he160203 he160291)).trans he160203
      have he160298 : F160293 q160200 = .inr (20, [.int p160251, .int p160252, .int p160253, .int p160254, .int p160255, .int p160256, .int p160257]) := (n160295 q160200 (rn_oa he160250 he160291)).trans he160250
      have he160299 : F160293 q160204 = .inl (I .int, n160286, .inl f160285) := (n160295 q160204 (rn_ty ht160221 ht160237 (by decide))).trans he160284
      have he160300 : F160293 (γ 9 20) = .inl (I .int, 2000, .inl f160296) := e160294
      have hs160301 : rStr γ [] F160198 F160293 := rStr_put (rStr_rf (γ := γ) (W := []) (F := F160198)) n160295 ht160237 (by decide)
      refine G_aload_n 0 dr_cX17_step_90 rfl ?_
      refine G_aload_n 0 dr_cX17_step_91 rfl ?_
      refine Gp_get 27 hm160202 he160297 dr_cX17_step_92 (gk_X17 D I) (Nat.le_of_ble_eq_true rfl) wr_7_101 rfl ?_
      refine G_iconst 1 dr_cX17_step_95 (by decide +kernel) ?_
      refine G_iadd dr_cX17_step_96 (G_nam fun z160302 hz160302 => ?_)
      have ez160302 : z160302.toInt = p160216.toInt + 1 := by rw [gI_add hz160302 bp160216 (gBl (show Int32.toInt 1 = 1 by decide)) (by decide) (by decide), show Int32.toInt 1 = 1 from by decide]
      have bz160302 : gB z160302 1 2049 := gB_add (gI_add hz160302 bp160216 (gBl (show Int32.toInt 1 = 1 by decide)) (by decide) (by decide)) bp160216 (gBl (show Int32.toInt 1 = 1 by decide)) (by decide) (by decide)
      refine G_aload_n 0 dr_cX17_step_97 rfl ?_
      refine Gp_get 28 hm160202 he160297 dr_cX17_step_98 (gk_X17 D I) (Nat.le_of_ble_eq_true rfl) wr_7_102 rfl ?_
      refine Gp_alen (Int32.ofNat n160286) 0 hm160283 he160299 dr_cX17_step_101 rfl rfl (G_nam fun z160303 hz160303 => ?_)
      have ez160303 : z160303.toInt = (n160286 : Nat) := gI_ofM hz160303 (by omega)
      have bz160303 : gB z160303 0 16777216 := ⟨by omega, by omega⟩
      refine G_mmin dr_cX17_step_102 wr_11_20 wr_3_227 wr_1_6 wr_3_228 (Nat.le_of_ble_eq_true rfl) (Nat.le_of_ble_eq_true rfl) (show 0 ≤ 0 by first | omega | decide) (show 0 ≤ 0 by first | omega | decide) (G_nam fun z160304 hz160304 => ?_)
      have ez160304 : z160302.toInt ≥ z160304.toInt ∧ z160303.toInt ≥ z160304.toInt ∧ (z160304.toInt = z160302.toInt ∨ z160304.toInt = z160303.toInt) := by have := gI_min hz160304; omega
      have bz160304 : gB z160304 0 2049 := ⟨by omega, by omega⟩
      have hT160305 : RS D I P160197 F160293 γ el := RS_set hT n160295 ht160237 (by decide) ⟨f160296, he160300⟩
      refine Gp_put 27 hm160202 he160297 dr_cX17_step_105 (gk_X17 D I) (Nat.le_of_ble_eq_true rfl) wr_7_101 rfl rfl rfl (Nat.le_of_ble_eq_true rfl) (fun F160306 e160307 n160308 => ?_)
      have he160309 : F160306 q160200 = .inr (20, [.int p160251, .int p160252, .int p160253, .int p160254, .int p160255, .int p160256, .int p160257]) := (n160308 q160200 (rn_oo he160298 he160297 (by decide))).trans he160298
      have he160310 : F160306 q160204 = .inl (I .int, n160286, .inl f160285) := (n160308 q160204 (rn_ao he160299 he160297)).trans he160299
      have he160311 : F160306 (γ 9 20) = .inl (I .int, 2000, .inl f160296) := (n160308 (γ 9 20) (rn_ao he160300 he160297)).trans he160300
      have he160312 : F160306 q160199 = .inr (22, [.ref (γ 9 0), .ref (γ 9 1), .ref (γ 9 2), .ref (γ 9 3), .ref (γ 9 4), .ref (γ 9 5), .ref (γ 9 6), .ref (γ 9 7), .ref (γ 9 8), .int p160206, .int p160207, .int p160208, .int p160209, .int p160210, .int p160211, .ref (γ 9 15), .ref (γ 9 16), .ref (γ 9 17), .ref (γ 9 18), .ref (γ 9 19), .ref (γ 9 20), .ref (γ 9 21), .ref (γ 9 22), .int p160212, .int p160213, .int p160214, .int p160215, .int z160304, .ref q160204, .ref (γ 9 29), .int p160217, .ref (γ 9 31), .int p160218, .int p160219, .int p160220, .ref q160205]) := e160307
      have hs160313 : rStr γ [] F160198 F160306 := rStr_put hs160301 n160308 htq160199 (by decide)
      refine G_iconst (-1) dr_cX17_step_108 (by decide +kernel) ?_
      have hT160314 : RS D I P160197 F160306 γ el := RS_set hT160305 n160308 htq160199 (by decide) ⟨q160204, q160205, p160206, p160207, p160208, p160209, p160210, p160211, p160212, p160213, p160214, p160215, z160304, p160217, p160218, p160219, p160220, he160312, ⟨(hB160247.1), (hB160247.2.1), (hB160247.2.2.1), (hB160247.2.2.2.1), (hB160247.2.2.2.2.1), (hB160247.2.2.2.2.2.1), ⟨by omega, by omega⟩, (hB160247.2.2.2.2.2.2.2.1), (hB160247.2.2.2.2.2.2.2.2)⟩, ht160221, ht160222, ht160223, ht160224, ht160225, ht160226, ht160227, ht160228, ht160229, ht160230, ht160231, ht160232, ht160233, ht160234, ht160235, ht160236, ht160237, ht160238, ht160239, ht160240, ht160241, ht160242, ht160243, ht160244, hB160248⟩
      exact G_iretA dr_cX17_step_109 rfl (Nat.le_of_ble_eq_true rfl) (Nat.le_of_ble_eq_true rfl) ⟨F160306, (-1), rfl, rfl, hT160314, hs160313, (Nat.le_of_ble_eq_true rfl), (Nat.le_of_ble_eq_true rfl), (gB_w (gBl (show Int32.toInt (-1) = (-1) by decide)) (by decide) (by decide)), (by rw [show fI (F160306 q160199) 26 = p160215 from by rw [he160312]; rfl, show fI (F160198 q160199) 26 = p160215 from by rw [he160203]; rfl] <;> (have qa0 : Int32.toInt (-1) = (-1) := (by decide); omega)), (by rw [show fI (F160306 q160199) 32 = p160218 from by rw [he160312]; rfl, show fI (F160198 q160199) 32 = p160218 from by rw [he160203]; rfl] <;> (have qa0 : Int32.toInt (-1) = (-1) := (by decide); omega))⟩
    · have r160315 : p160216.toInt < z160287.toInt := gC_nle hc160288
      have bz160287' : gB z160287 1 16777216 := ⟨by omega, by omega⟩
      refine G_aload_n 0 dr_cX17_step_76 rfl ?_
      refine Gp_get 28 hm160202 he160203 dr_cX17_step_77 (gk_X17 D I) (Nat.le_of_ble_eq_true rfl) wr_7_102 rfl ?_
      refine G_aload_n 0 dr_cX17_step_80 rfl ?_
      refine Gp_get 27 hm160202 he160203 dr_cX17_step_81 (gk_X17 D I) (Nat.le_of_ble_eq_true rfl) wr_7_101 rfl ?_
      refine Gp_iald 0 hm160283 he160284 dr_cX17_step_84 rfl (gB_inr (by omega) (by omega)) (G_nam fun z160316 hz160316 => ?_)
      have bz160316 : gB z160316 (-2147483648) 2147483647 := gB_any z160316
      refine G_goto 89 dr_cX17_step_85 (by decide +kernel) ?_
      have hm160317 : (γ 9 20) ∈ P160197 := RS_m hT ht160237 (by decide)
      obtain ⟨f160319, he160318⟩ := show rk_22 I (F160198 (γ 9 20)) from RS_o hT ht160237
      refine Gp_iast 0 hm160317 he160318 dr_cX17_step_89 rfl (gB_in bp160252 (by decide) (by decide)) (fun F160320 e160321 n160322 => ?_)
      obtain ⟨f160323, hf160323⟩ : ∃ z, z = upd f160319 p160252.toNatClampNeg z160316 := ⟨_, rfl⟩
      rw [← hf160323] at e160321
      have he160324 : F160320 q160199 = .inr (22, [.ref (γ 9 0), .ref (γ 9 1), .ref (γ 9 2), .ref (γ 9 3), .ref (γ 9 4), .ref (γ 9 5), .ref (γ 9 6), .ref (γ 9 7), .ref (γ 9 8), .int p160206, .int p160207, .int p160208, .int p160209, .int p160210, .int p160211, .ref (γ 9 15), .ref (γ 9 16), .ref (γ 9 17), .ref (γ 9 18), .ref (γ 9 19), .ref (γ 9 20), .ref (γ 9 21), .ref (γ 9 22), .int p160212, .int p160213, .int p160214, .int p160215, .int p160216, .ref q160204, .ref (γ 9 29), .int p160217, .ref (γ 9 31), .int p160218, .int p160219, .int p160220, .ref q160205]) := (n160322 q160199 (rn_oa he160203 he160318)).trans he160203
      have he160325 : F160320 q160200 = .inr (20, [.int p160251, .int p160252, .int p160253, .int p160254, .int p160255, .int p160256, .int p160257]) := (n160322 q160200 (rn_oa he160250 he160318)).trans he160250
      have he160326 : F160320 q160204 = .inl (I .int, n160286, .inl f160285) := (n160322 q160204 (rn_ty ht160221 ht160237 (by decide))).trans he160284
      have he160327 : F160320 (γ 9 20) = .inl (I .int, 2000, .inl f160323) := e160321
      have hs160328 : rStr γ [] F160198 F160320 := rStr_put (rStr_rf (γ := γ) (W := []) (F := F160198)) n160322 ht160237 (by decide)
      refine G_aload_n 0 dr_cX17_step_90 rfl ?_
      refine G_aload_n 0 dr_cX17_step_91 rfl ?_
      refine Gp_get 27 hm160202 he160324 dr_cX17_step_92 (gk_X17 D I) (Nat.le_of_ble_eq_true rfl) wr_7_101 rfl ?_
      refine G_iconst 1 dr_cX17_step_95 (by decide +kernel) ?_
      refine G_iadd dr_cX17_step_96 (G_nam fun z160329 hz160329 => ?_)
      have ez160329 : z160329.toInt = p160216.toInt + 1 := by rw [gI_add hz160329 bp160216 (gBl (show Int32.toInt 1 = 1 by decide)) (by decide) (by decide), show Int32.toInt 1 = 1 from by decide]
      have bz160329 : gB z160329 1 2049 := gB_add (gI_add hz160329 bp160216 (gBl (show Int32.toInt 1 = 1 by decide)) (by decide) (by decide)) bp160216 (gBl (show Int32.toInt 1 = 1 by decide)) (by decide) (by decide)
      refine G_aload_n 0 dr_cX17_step_97 rfl ?_
      refine Gp_get 28 hm160202 he160324 dr_cX17_step_98 (gk_X17 D I) (Nat.le_of_ble_eq_true rfl) wr_7_102 rfl ?_
      refine Gp_alen (Int32.ofNat n160286) 0 hm160283 he160326 dr_cX17_step_101 rfl rfl (G_nam fun z160330 hz160330 => ?_)
      have ez160330 : z160330.toInt = (n160286 : Nat) := gI_ofM hz160330 (by omega)
      have bz160330 : gB z160330 0 16777216 := ⟨by omega, by omega⟩
      refine G_mmin dr_cX17_step_102 wr_11_20 wr_3_227 wr_1_6 wr_3_228 (Nat.le_of_ble_eq_true rfl) (Nat.le_of_ble_eq_true rfl) (show 0 ≤ 0 by first | omega | decide) (show 0 ≤ 0 by first | omega | decide) (G_nam fun z160331 hz160331 => ?_)
      have ez160331 : z160329.toInt ≥ z160331.toInt ∧ z160330.toInt ≥ z160331.toInt ∧ (z160331.toInt = z160329.toInt ∨ z160331.toInt = z160330.toInt) := by have := gI_min hz160331; omega
      have bz160331 : gB z160331 0 2049 := ⟨by omega, by omega⟩
      have hT160332 : RS D I P160197 F160320 γ el := RS_set hT n160322 ht160237 (by decide) ⟨f160323, he160327⟩
      refine Gp_put 27 hm160202 he160324 dr_cX17_step_105 (gk_X17 D I) (Nat.le_of_ble_eq_true rfl) wr_7_101 rfl rfl rfl (Nat.le_of_ble_eq_true rfl) (fun F160333 e160334 n160335 => ?_)
      have he160336 : F160333 q160200 = .inr (20, [.int p160251, .int p160252, .int p160253, .int p160254, .int p160255, .int p160256, .int p160257]) := (n160335 q160200 (rn_oo he160325 he160324 (by decide))).trans he160325
      have he160337 : F160333 q160204 = .inl (I .int, n160286, .inl f160285) := (n160335 q160204 (rn_ao he160326 he160324)).trans he160326
      have he160338 : F160333 (γ 9 20) = .inl (I .int, 2000, .inl f160323) := (n160335 (γ 9 20) (rn_ao he160327 he160324)).trans he160327
      have he160339 : F160333 q160199 = .inr (22, [.ref (γ 9 0), .ref (γ 9 1), .ref (γ 9 2), .ref (γ 9 3), .ref (γ 9 4), .ref (γ 9 5), .ref (γ 9 6), .ref (γ 9 7), .ref (γ 9 8), .int p160206, .int p160207, .int p160208, .int p160209, .int p160210, .int p160211, .ref (γ 9 15), .ref (γ 9 16), .ref (γ 9 17), .ref (γ 9 18), .ref (γ 9 19), .ref (γ 9 20), .ref (γ 9 21), .ref (γ 9 22), .int p160212, .int p160213, .int p160214, .int p160215, .int z160331, .ref q160204, .ref (γ 9 29), .int p160217, .ref (γ 9 31), .int p160218, .int p160219, .int p160220, .ref q160205]) := e160334
      have hs160340 : rStr γ [] F160198 F160333 := rStr_put hs160328 n160335 htq160199 (by decide)
      refine G_iconst (-1) dr_cX17_step_108 (by decide +kernel) ?_
      have hT160341 : RS D I P160197 F160333 γ el := RS_set hT160332 n160335 htq160199 (by decide) ⟨q160204, q160205, p160206, p160207, p160208, p160209, p160210, p160211, p160212, p160213, p160214, p160215, z160331, p160217, p160218, p160219, p160220, he160339, ⟨(hB160247.1), (hB160247.2.1), (hB160247.2.2.1), (hB160247.2.2.2.1), (hB160247.2.2.2.2.1), (hB160247.2.2.2.2.2.1), ⟨by omega, by omega⟩, (hB160247.2.2.2.2.2.2.2.1), (hB160247.2.2.2.2.2.2.2.2)⟩, ht160221, ht160222, ht160223, ht160224, ht160225, ht160226, ht160227, ht160228, ht160229, ht160230, ht160231, ht160232, ht160233, ht160234, ht160235, ht160236, ht160237, ht160238, ht160239, ht160240, ht160241, ht160242, ht160243, ht160244, hB160248⟩
      exact G_iretA dr_cX17_step_109 rfl (Nat.le_of_ble_eq_true rfl) (Nat.le_of_ble_eq_true rfl) ⟨F160333, (-1), rfl, rfl, hT160341, hs160340, (Nat.le_of_ble_eq_true rfl), (Nat.le_of_ble_eq_true rfl), (gB_w (gBl (show Int32.toInt (-1) = (-1) by decide)) (by decide) (by decide)), (by rw [show fI (F160333 q160199) 26 = p160215 from by rw [he160339]; rfl, show fI (F160198 q160199) 26 = p160215 from by rw [he160203]; rfl] <;> (have qa0 : Int32.toInt (-1) = (-1) := (by decide); omega)), (by rw [show fI (F160333 q160199) 32 = p160218 from by rw [he160339]; rfl, show fI (F160198 q160199) 32 = p160218 from by rw [he160203]; rfl] <;> (have qa0 : Int32.toInt (-1) = (-1) := (by decide); omega))⟩
  by_cases hs160342 : p160251 = 21
  · have ehs160342 : p160251.toInt = 21 := gj_eq hs160342 (show Int32.toInt 21 = 21 by decide)
    have bp160251' : gB p160251 21 21 := ⟨by omega, by omega⟩
    refine G_eqi (y := 21) hs160342 ?_
    refine G_lookup 155 dr_cX17_step_4 (by decide) (by first | rfl | decide) (by decide) ?_
    refine G_aload_n 0 dr_cX17_step_155 rfl ?_
    refine Gp_get 20 hm160202 he160203 dr_cX17_step_156 (gk_X17 D I) (Nat.le_of_ble_eq_true rfl) wr_7_94 rfl ?_
    refine G_aload_n 1 dr_cX17_step_159 rfl ?_
    refine Gp_get 1 hm160249 he160250 dr_cX17_step_160 (gk_X15 D I) (Nat.le_of_ble_eq_true rfl) wr_9_182 rfl ?_
    refine G_aload_n 0 dr_cX17_step_163 rfl ?_
    refine Gp_get 21 hm160202 he160203 dr_cX17_step_164 (gk_X17 D I) (Nat.le_of_ble_eq_true rfl) wr_7_95 rfl ?_
    refine G_aload_n 1 dr_cX17_step_167 rfl ?_
    refine Gp_get 4 hm160249 he160250 dr_cX17_step_168 (gk_X15 D I) (Nat.le_of_ble_eq_true rfl) wr_9_193 rfl ?_
    have hm160343 : (γ 9 21) ∈ P160197 := RS_m hT ht160238 (by decide)
    obtain ⟨f160345, he160344⟩ := show rk_23 I (F160198 (γ 9 21)) from RS_o hT ht160238
    refine Gp_iald 0 hm160343 he160344 dr_cX17_step_171 rfl (gB_in bp160255 (by decide) (by decide)) (G_nam fun z160346 hz160346 => ?_)
    have bz160346 : gB z160346 (-2147483648) 2147483647 := gB_any z160346
    have hm160347 : (γ 9 20) ∈ P160197 := RS_m hT ht160237 (by decide)
    obtain ⟨f160349, he160348⟩ := show rk_22 I (F160198 (γ 9 20)) from RS_o hT ht160237
    refine Gp_iast 0 hm160347 he160348 dr_cX17_step_172 rfl (gB_in bp160252 (by decide) (by decide)) (fun F160350 e160351 n160352 => ?_)
    obtain ⟨f160353, hf160353⟩ : ∃ z, z = upd f160349 p160252.toNatClampNeg z160346 := ⟨_, rfl⟩
    rw [← hf160353] at e160351
    have he160354 : F160350 q160199 = .inr (22, [.ref (γ 9 0), .ref (γ 9 1), .ref (γ 9 2), .ref (γ 9 3), .ref (γ 9 4), .ref (γ 9 5), .ref (γ 9 6), .ref (γ 9 7), .ref (γ 9 8), .int p160206, .int p160207, .int p160208, .int p160209, .int p160210, .int p160211, .ref (γ 9 15), .ref (γ 9 16), .ref (γ 9 17), .ref (γ 9 18), .ref (γ 9 19), .ref (γ 9 20), .ref (γ 9 21), .ref (γ 9 22), .int p160212, .int p160213, .int p160214, .int p160215, .int p160216, .ref q160204, .ref (γ 9 29), .int p160217, .ref (γ 9 31), .int p160218, .int p160219, .int p160220, .ref q160205]) := (n160352 q160199 (rn_oa he160203 he160348)).trans he160203
    have he160355 : F160350 q160200 = .inr (20, [.int p160251, .int p160252, .int p160253, .int p160254, .int p160255, .int p160256, .int p160257]) := (n160352 q160200 (rn_oa he160250 he160348)).trans he160250
    have he160356 : F160350 (γ 9 21) = .inl (I .int, 2000, .inl f160345) := (n160352 (γ 9 21) (rn_ty ht160238 ht160237 (by decide))).trans he160344
    have he160357 : F160350 (γ 9 20) = .inl (I .int, 2000, .inl f160353) := e160351
    have hs160358 : rStr γ [] F160198 F160350 := rStr_put (rStr_rf (γ := γ) (W := []) (F := F160198)) n160352 ht160237 (by decide)
    refine G_iconst (-1) dr_cX17_step_173 (by decide +kernel) ?_
    have hT160359 : RS D I P160197 F160350 γ el := RS_set hT n160352 ht160237 (by decide) ⟨f160353, he160357⟩
    exact G_iretA dr_cX17_step_174 rfl (Nat.le_of_ble_eq_true rfl) (Nat.le_of_ble_eq_true rfl) ⟨F160350, (-1), rfl, rfl, hT160359, hs160358, (Nat.le_of_ble_eq_true rfl), (Nat.le_of_ble_eq_true rfl), (gB_w (gBl (show Int32.toInt (-1) = (-1) by decide)) (by decide) (by decide)), (by rw [show fI (F160350 q160199) 26 = p160215 from by rw [he160354]; rfl, show fI (F160198 q160199) 26 = p160215 from by rw [he160203]; rfl] <;> (have qa0 : Int32.toInt (-1) = (-1) := (by decide); omega)), (by rw [show fI (F160350 q160199) 32 = p160218 from by rw [he160354]; rfl, show fI (F160198 q160199) 32 = p160218 from by rw [he160203]; rfl] <;> (have qa0 : Int32.toInt (-1) = (-1) := (by decide); omega))⟩
  by_cases hs160360 : p160251 = 22
  · have ehs160360 : p160251.toInt = 22 := gj_eq hs160360 (show Int32.toInt 22 = 22 by decide)
    have bp160251' : gB p160251 22 22 := ⟨by omega, by omega⟩
    refine G_eqi (y := 22) hs160360 ?_
    refine G_lookup 110 dr_cX17_step_4 (by decide) (by first | rfl | decide) (by decide) ?_
    refine G_aload_n 0 dr_cX17_step_110 rfl ?_
    refine Gp_get 25 hm160202 he160203 dr_cX17_step_111 (gk_X17 D I) (Nat.le_of_ble_eq_true rfl) wr_7_99 rfl ?_
    have bp160214 : gB p160214 0 512 := (hB160247.2.2.2.2.1)
    refine G_sipush 512 dr_cX17_step_114 (by decide +kernel) ?_
    refine G_icmp_ne 122 dr_cX17_step_117 (by decide +kernel) (fun hc160361 => ?_) (fun hc160361 => ?_)
    · have r160362 : p160214.toInt ≠ 512 := gj_neq hc160361 (show Int32.toInt 512 = 512 by decide)
      have bp160214' : gB p160214 0 511 := ⟨by omega, by omega⟩
      refine G_aload_n 0 dr_cX17_step_122 rfl ?_
      refine Gp_get 22 hm160202 he160203 dr_cX17_step_123 (gk_X17 D I) (Nat.le_of_ble_eq_true rfl) wr_7_96 rfl ?_
      refine G_aload_n 0 dr_cX17_step_126 rfl ?_
      refine Gp_get 25 hm160202 he160203 dr_cX17_step_127 (gk_X17 D I) (Nat.le_of_ble_eq_true rfl) wr_7_99 rfl ?_
      refine G_aload_n 0 dr_cX17_step_130 rfl ?_
      refine G_aload_n 1 dr_cX17_step_131 rfl ?_
      refine Gp_get 5 hm160249 he160250 dr_cX17_step_132 (gk_X15 D I) (Nat.le_of_ble_eq_true rfl) wr_9_197 rfl ?_
      refine G_aload_n 1 dr_cX17_step_135 rfl ?_
      refine Gp_get 2 hm160249 he160250 dr_cX17_step_136 (gk_X15 D I) (Nat.le_of_ble_eq_true rfl) wr_9_186 rfl ?_
      refine Gw_callV (As := [.int p160256, .int p160253]) (gV_ok D I) (ct_7383_SpillForgeModel_value l hl0 D I γ el P160197 F160198 q160199 p160256 p160253 hT htq160199 bp160256 (by omega)) dr_cX17_step_139 ⟨wr_11_100, wr_1_14, wr_11_103, by decide, rfl, (Nat.le_of_ble_eq_true rfl), (Nat.le_of_ble_eq_true rfl)⟩ wr_11_102 wr_p_115 hm160202 he160203 rfl (show 0 + 0 ≤ 0 by first | omega | decide) (show 0 + 0 ≤ 0 by first | omega | decide) (Nat.le_of_ble_eq_true rfl) (fun r160366 w160367 dc160363 ds160364 hp160365 => ?_) (fun _ _ _ _ _ z => z.elim)
      obtain ⟨o160368, rfl, rfl, hdc, hds⟩ := hp160365
      have bo160368 := gB_any o160368
      change G _ _ _ _ _ _ _ (.int o160368 :: _) _ _ _
      refine G_widen (cs' := 0) (sl' := 0) (by omega) (by omega) ?_
      have hm160369 : (γ 9 22) ∈ P160197 := RS_m hT ht160239 (by decide)
      obtain ⟨f160371, he160370⟩ := show rk_24 I (F160198 (γ 9 22)) from RS_o hT ht160239
      refine Gp_iast 0 hm160369 he160370 dr_cX17_step_142 rfl (gB_in bp160214' (by decide) (by decide)) (fun F160372 e160373 n160374 => ?_)
      obtain ⟨f160375, hf160375⟩ : ∃ z, z = upd f160371 p160214.toNatClampNeg o160368 := ⟨_, rfl⟩
      rw [← hf160375] at e160373
      have he160376 : F160372 q160199 = .inr (22, [.ref (γ 9 0), .ref (γ 9 1), .ref (γ 9 2), .ref (γ 9 3), .ref (γ 9 4), .ref (γ 9 5), .ref (γ 9 6), .ref (γ 9 7), .ref (γ 9 8), .int p160206, .int p160207, .int p160208, .int p160209, .int p160210, .int p160211, .ref (γ 9 15), .ref (γ 9 16), .ref (γ 9 17), .ref (γ 9 18), .ref (γ 9 19), .ref (γ 9 20), .ref (γ 9 21), .ref (γ 9 22), .int p160212, .int p160213, .int p160214, .int p160215, .int p160216, .ref q160204, .ref (γ 9 29), .int p160217, .ref (γ 9 31), .int p160218, .int p160219, .int p160220, .ref q160205]) := (n160374 q160199 (rn_oa he160203 he160370)).trans he160203
      have he160377 : F160372 q160200 = .inr (20, [.int p160251, .int p160252, .int p160253, .int p160254, .int p160255, .int p160256, .int p160257]) := (n160374 q160200 (rn_oa he160250 he160370)).trans he160250
      have he160378 : F160372 (γ 9 22) = .inl (I .int, 512, .inl f160375) := e160373
      have hs160379 : rStr γ [] F160198 F160372 := rStr_put (rStr_rf (γ := γ) (W := []) (F := F160198)) n160374 ht160239 (by decide)
      refine G_aload_n 0 dr_cX17_step_143 rfl ?_
      refine G_dup dr_cX17_step_144 rfl ?_
      refine Gp_get 25 hm160202 he160376 dr_cX17_step_145 (gk_X17 D I) (Nat.le_of_ble_eq_true rfl) wr_7_99 rfl ?_
      refine G_iconst 1 dr_cX17_step_148 (by decide +kernel) ?_
      refine G_iadd dr_cX17_step_149 (G_nam fun z160380 hz160380 => ?_)
      have ez160380 : z160380.toInt = p160214.toInt + 1 := by rw [gI_add hz160380 bp160214' (gBl (show Int32.toInt 1 = 1 by decide)) (by decide) (by decide), show Int32.toInt 1 = 1 from by decide]
      have bz160380 : gB z160380 1 512 := gB_add (gI_add hz160380 bp160214' (gBl (show Int32.toInt 1 = 1 by decide)) (by decide) (by decide)) bp160214' (gBl (show Int32.toInt 1 = 1 by decide)) (by decide) (by decide)
      have hT160381 : RS D I P160197 F160372 γ el := RS_set hT n160374 ht160239 (by decide) ⟨f160375, he160378⟩
      refine Gp_put 25 hm160202 he160376 dr_cX17_step_150 (gk_X17 D I) (Nat.le_of_ble_eq_true rfl) wr_7_99 rfl rfl rfl (Nat.le_of_ble_eq_true rfl) (fun F160382 e160383 n160384 => ?_)
      have he160385 : F160382 q160200 = .inr (20, [.int p160251, .int p160252, .int p160253, .int p160254, .int p160255, .int p160256, .int p160257]) := (n160384 q160200 (rn_oo he160377 he160376 (by decide))).trans he160377
      have he160386 : F160382 (γ 9 22) = .inl (I .int, 512, .inl f160375) := (n160384 (γ 9 22) (rn_ao he160378 he160376)).trans he160378
      have he160387 : F160382 q160199 = .inr (22, [.ref (γ 9 0), .ref (γ 9 1), .ref (γ 9 2), .ref (γ 9 3), .ref (γ 9 4), .ref (γ 9 5), .ref (γ 9 6), .ref (γ 9 7), .ref (γ 9 8), .int p160206, .int p160207, .int p160208, .int p160209, .int p160210, .int p160211, .ref (γ 9 15), .ref (γ 9 16), .ref (γ 9 17), .ref (γ 9 18), .ref (γ 9 19), .ref (γ 9 20), .ref (γ 9 21), .ref (γ 9 22), .int p160212, .int p160213, .int z160380, .int p160215, .int p160216, .ref q160204, .ref (γ 9 29), .int p160217, .ref (γ 9 31), .int p160218, .int p160219, .int p160220, .ref q160205]) := e160383
      have hs160388 : rStr γ [] F160198 F160382 := rStr_put hs160379 n160384 htq160199 (by decide)
      refine G_iconst (-1) dr_cX17_step_153 (by decide +kernel) ?_
      have hT160389 : RS D I P160197 F160382 γ el := RS_set hT160381 n160384 htq160199 (by decide) ⟨q160204, q160205, p160206, p160207, p160208, p160209, p160210, p160211, p160212, p160213, z160380, p160215, p160216, p160217, p160218, p160219, p160220, he160387, ⟨(hB160247.1), (hB160247.2.1), (hB160247.2.2.1), (hB160247.2.2.2.1), (gB_w bz160380 (by decide) (by decide)), (hB160247.2.2.2.2.2.1), (hB160247.2.2.2.2.2.2.1), (hB160247.2.2.2.2.2.2.2.1), (hB160247.2.2.2.2.2.2.2.2)⟩, ht160221, ht160222, ht160223, ht160224, ht160225, ht160226, ht160227, ht160228, ht160229, ht160230, ht160231, ht160232, ht160233, ht160234, ht160235, ht160236, ht160237, ht160238, ht160239, ht160240, ht160241, ht160242, ht160243, ht160244, hB160248⟩
      exact G_iretA dr_cX17_step_154 rfl (Nat.le_of_ble_eq_true rfl) (Nat.le_of_ble_eq_true rfl) ⟨F160382, (-1), rfl, rfl, hT160389, hs160388, (Nat.le_of_ble_eq_true rfl), (Nat.le_of_ble_eq_true rfl), (gB_w (gBl (show Int32.toInt (-1) = (-1) by decide)) (by decide) (by decide)), (by rw [show fI (F160382 q160199) 26 = p160215 from by rw [he160387]; rfl, show fI (F160198 q160199) 26 = p160215 from by rw [he160203]; rfl] <;> (have qa0 : Int32.toInt (-1) = (-1) := (by decide); omega)), (by rw [show fI (F160382 q160199) 32 = p160218 from by rw [he160387]; rfl, show fI (F160198 q160199) 32 = p160218 from by rw [he160203]; rfl] <;> (have qa0 : Int32.toInt (-1) = (-1) := (by decide); omega))⟩
    · have r160390 : p160214.toInt = 512 := gj_eq hc160361 (show Int32.toInt 512 = 512 by decide)
      have bp160214' : gB p160214 512 512 := ⟨by omega, by omega⟩
      refine G_iconst 5 dr_cX17_step_120 (by decide +kernel) ?_
      exact G_iretA dr_cX17_step_121 rfl (Nat.le_of_ble_eq_true rfl) (Nat.le_of_ble_eq_true rfl) ⟨F160198, 5, rfl, rfl, hT, (rStr_rf (γ := γ) (W := []) (F := F160198)), (Nat.le_of_ble_eq_true rfl), (Nat.le_of_ble_eq_true rfl), (gB_w (gBl (show Int32.toInt 5 = 5 by decide)) (by decide) (by decide)), (by rw [show fI (F160198 q160199) 26 = p160215 from by rw [he160203]; rfl] <;> (have qa0 : Int32.toInt 5 = 5 := (by decide); omega)), (by rw [show fI (F160198 q160199) 32 = p160218 from by rw [he160203]; rfl] <;> (have qa0 : Int32.toInt 5 = 5 := (by decide); omega))⟩
  by_cases hs160391 : p160251 = 23
  · have ehs160391 : p160251.toInt = 23 := gj_eq hs160391 (show Int32.toInt 23 = 23 by decide)
    have bp160251' : gB p160251 23 23 := ⟨by omega, by omega⟩
    refine G_eqi (y := 23) hs160391 ?_
    refine G_lookup 175 dr_cX17_step_4 (by decide) (by first | rfl | decide) (by decide) ?_
    refine G_aload_n 0 dr_cX17_step_175 rfl ?_
    refine Gp_get 21 hm160202 he160203 dr_cX17_step_176 (gk_X17 D I) (Nat.le_of_ble_eq_true rfl) wr_7_95 rfl ?_
    refine G_aload_n 1 dr_cX17_step_179 rfl ?_
    refine Gp_get 4 hm160249 he160250 dr_cX17_step_180 (gk_X15 D I) (Nat.le_of_ble_eq_true rfl) wr_9_193 rfl ?_
    refine G_aload_n 0 dr_cX17_step_183 rfl ?_
    refine G_aload_n 1 dr_cX17_step_184 rfl ?_
    refine Gp_get 5 hm160249 he160250 dr_cX17_step_185 (gk_X15 D I) (Nat.le_of_ble_eq_true rfl) wr_9_197 rfl ?_
    refine G_aload_n 1 dr_cX17_step_188 rfl ?_
    refine Gp_get 2 hm160249 he160250 dr_cX17_step_189 (gk_X15 D I) (Nat.le_of_ble_eq_true rfl) wr_9_186 rfl ?_
    refine Gw_callV (As := [.int p160256, .int p160253]) (gV_ok D I) (ct_7383_SpillForgeModel_value l hl0 D I γ el P160197 F160198 q160199 p160256 p160253 hT htq160199 bp160256 (by omega)) dr_cX17_step_192 ⟨wr_11_100, wr_1_14, wr_11_103, by decide, rfl, (Nat.le_of_ble_eq_true rfl), (Nat.le_of_ble_eq_true rfl)⟩ wr_11_102 wr_p_115 hm160202 he160203 rfl (show 0 + 0 ≤ 0 by first | omega | decide) (show 0 + 0 ≤ 0 by first | omega | decide) (Nat.le_of_ble_eq_true rfl) (fun r160395 w160396 dc160392 ds160393 hp160394 => ?_) (fun _ _ _ _ _ z => z.elim)
    obtain ⟨o160397, rfl, rfl, hdc, hds⟩ := hp160394
    have bo160397 := gB_any o160397
    change G _ _ _ _ _ _ _ (.int o160397 :: _) _ _ _
    refine G_widen (cs' := 0) (sl' := 0) (by omega) (by omega) ?_
    have hm160398 : (γ 9 21) ∈ P160197 := RS_m hT ht160238 (by decide)
    obtain ⟨f160400, he160399⟩ := show rk_23 I (F160198 (γ 9 21)) from RS_o hT ht160238
    refine Gp_iast 0 hm160398 he160399 dr_cX17_step_195 rfl (gB_in bp160255 (by decide) (by decide)) (fun F160401 e160402 n160403 => ?_)
    obtain ⟨f160404, hf160404⟩ : ∃ z, z = upd f160400 p160255.toNatClampNeg o160397 := ⟨_, rfl⟩
    rw [← hf160404] at e160402
    have he160405 : F160401 q160199 = .inr (22, [.ref (γ 9 0), .ref (γ 9 1), .ref (γ 9 2), .ref (γ 9 3), .ref (γ 9 4), .ref (γ 9 5), .ref (γ 9 6), .ref (γ 9 7), .ref (γ 9 8), .int p160206, .int p160207, .int p160208, .int p160209, .int p160210, .int p160211, .ref (γ 9 15), .ref (γ 9 16), .ref (γ 9 17), .ref (γ 9 18), .ref (γ 9 19), .ref (γ 9 20), .ref (γ 9 21), .ref (γ 9 22), .int p160212, .int p160213, .int p160214, .int p160215, .int p160216, .ref q160204, .ref (γ 9 29), .int p160217, .ref (γ 9 31), .int p160218, .int p160219, .int p160220, .ref q160205]) := (n160403 q160199 (rn_oa he160203 he160399)).trans he160203
    have he160406 : F160401 q160200 = .inr (20, [.int p160251, .int p160252, .int p160253, .int p160254, .int p160255, .int p160256, .int p160257]) := (n160403 q160200 (rn_oa he160250 he160399)).trans he160250
    have he160407 : F160401 (γ 9 21) = .inl (I .int, 2000, .inl f160404) := e160402
    have hs160408 : rStr γ [] F160198 F160401 := rStr_put (rStr_rf (γ := γ) (W := []) (F := F160198)) n160403 ht160238 (by decide)
    refine G_iconst (-1) dr_cX17_step_196 (by decide +kernel) ?_
    have hT160409 : RS D I P160197 F160401 γ el := RS_set hT n160403 ht160238 (by decide) ⟨f160404, he160407⟩
    exact G_iretA dr_cX17_step_197 rfl (Nat.le_of_ble_eq_true rfl) (Nat.le_of_ble_eq_true rfl) ⟨F160401, (-1), rfl, rfl, hT160409, hs160408, (Nat.le_of_ble_eq_true rfl), (Nat.le_of_ble_eq_true rfl), (gB_w (gBl (show Int32.toInt (-1) = (-1) by decide)) (by decide) (by decide)), (by rw [show fI (F160401 q160199) 26 = p160215 from by rw [he160405]; rfl, show fI (F160198 q160199) 26 = p160215 from by rw [he160203]; rfl] <;> (have qa0 : Int32.toInt (-1) = (-1) := (by decide); omega)), (by rw [show fI (F160401 q160199) 32 = p160218 from by rw [he160405]; rfl, show fI (F160198 q160199) 32 = p160218 from by rw [he160203]; rfl] <;> (have qa0 : Int32.toInt (-1) = (-1) := (by decide); omega))⟩
  have ehs160263 := lv_neT hs160263 (show Int32.toInt 0 = 0 by decide)
  have ehs160282 := lv_neT hs160282 (show Int32.toInt 20 = 20 by decide)
  have ehs160342 := lv_neT hs160342 (show Int32.toInt 21 = 21 by decide)
  have ehs160360 := lv_neT hs160360 (show Int32.toInt 22 = 22 by decide)
  have ehs160391 := lv_neT hs160391 (show Int32.toInt 23 = 23 by decide)
  refine G_lookup 221 dr_cX17_step_4 (by decide) (by show Op.lookupswitch.offset [(0, 194), (20, 52), (21, 151), (22, 106), (23, 171)] _ _ = 217; rw [lv_osw hs160263 (show Int32.toInt 0 = 0 by decide), lv_osw hs160282 (show Int32.toInt 20 = 20 by decide), lv_osw hs160342 (show Int32.toInt 21 = 21 by decide), lv_osw hs160360 (show Int32.toInt 22 = 22 by decide), lv_osw hs160391 (show Int32.toInt 23 = 23 by decide)]; first | done | rfl) (by decide) ?_
  refine G_aload_n 1 dr_cX17_step_221 rfl ?_
  refine Gp_get 0 hm160249 he160250 dr_cX17_step_222 (gk_X15 D I) (Nat.le_of_ble_eq_true rfl) wr_9_177 rfl ?_
  refine G_aload_n 0 dr_cX17_step_225 rfl ?_
  refine G_aload_n 1 dr_cX17_step_226 rfl ?_
  refine Gp_get 5 hm160249 he160250 dr_cX17_step_227 (gk_X15 D I) (Nat.le_of_ble_eq_true rfl) wr_9_197 rfl ?_
  refine G_aload_n 1 dr_cX17_step_230 rfl ?_
  refine Gp_get 2 hm160249 he160250 dr_cX17_step_231 (gk_X15 D I) (Nat.le_of_ble_eq_true rfl) wr_9_186 rfl ?_
  refine Gw_callV (As := [.int p160256, .int p160253]) (gV_ok D I) (ct_7383_SpillForgeModel_value l hl0 D I γ el P160197 F160198 q160199 p160256 p160253 hT htq160199 bp160256 (by omega)) dr_cX17_step_234 ⟨wr_11_100, wr_1_14, wr_11_103, by decide, rfl, (Nat.le_of_ble_eq_true rfl), (Nat.le_of_ble_eq_true rfl)⟩ wr_11_102 wr_p_115 hm160202 he160203 rfl (show 0 + 0 ≤ 0 by first | omega | decide) (show 0 + 0 ≤ 0 by first | omega | decide) (Nat.le_of_ble_eq_true rfl) (fun r160413 w160414 dc160410 ds160411 hp160412 => ?_) (fun _ _ _ _ _ z => z.elim)
  obtain ⟨o160415, rfl, rfl, hdc, hds⟩ := hp160412
  have bo160415 := gB_any o160415
  change G _ _ _ _ _ _ _ (.int o160415 :: _) _ _ _
  refine G_widen (cs' := 0) (sl' := 0) (by omega) (by omega) ?_
  refine G_aload_n 0 dr_cX17_step_237 rfl ?_
  refine G_aload_n 1 dr_cX17_step_238 rfl ?_
  refine Gp_get 6 hm160249 he160250 dr_cX17_step_239 (gk_X15 D I) (Nat.le_of_ble_eq_true rfl) wr_9_202 rfl ?_
  refine G_aload_n 1 dr_cX17_step_242 rfl ?_
  refine Gp_get 3 hm160249 he160250 dr_cX17_step_243 (gk_X15 D I) (Nat.le_of_ble_eq_true rfl) wr_9_190 rfl ?_
  refine Gw_callV (As := [.int p160257, .int p160254]) (gV_ok D I) (ct_7383_SpillForgeModel_value l hl0 D I γ el P160197 F160198 q160199 p160257 p160254 hT htq160199 bp160257 (by omega)) dr_cX17_step_246 ⟨wr_11_100, wr_1_14, wr_11_103, by decide, rfl, (Nat.le_of_ble_eq_true rfl), (Nat.le_of_ble_eq_true rfl)⟩ wr_11_102 wr_p_115 hm160202 he160203 rfl (show 0 + 0 ≤ 0 by first | omega | decide) (show 0 + 0 ≤ 0 by first | omega | decide) (Nat.le_of_ble_eq_true rfl) (fun r160419 w160420 dc160416 ds160417 hp160418 => ?_) (fun _ _ _ _ _ z => z.elim)
  obtain ⟨o160421, rfl, rfl, hdc, hds⟩ := hp160418
  have bo160421 := gB_any o160421
  change G _ _ _ _ _ _ _ (.int o160421 :: _) _ _ _
  refine G_widen (cs' := 0) (sl' := 0) (by omega) (by omega) ?_
  refine Gw_callS (As := [.int p160251, .int o160415, .int o160421]) (gV_ok D I) (cp_2019_SpillForgeModel_result l hl0 D I P160197 F160198 p160251 o160415 o160421 ) dr_cX17_step_249 ⟨wr_11_104, wr_1_14, wr_11_106, by decide, rfl, (Nat.le_of_ble_eq_true rfl), (Nat.le_of_ble_eq_true rfl)⟩ wr_11_105 (show 0 + 0 ≤ 0 by first | omega | decide) (show 0 + 0 ≤ 0 by first | omega | decide) (Nat.le_of_ble_eq_true rfl) (fun r160425 w160426 dc160422 ds160423 hp160424 => ?_) (fun _ _ _ _ _ z => z.elim)
  obtain ⟨ol160427, rfl, rfl, hdc, hds⟩ := hp160424
  change G _ _ _ _ _ _ _ (.long ol160427 :: _) _ _ _
  refine G_widen (cs' := 0) (sl' := 0) (by omega) (by omega) ?_
  refine G_lstore_n (L' := [(2, .long ol160427), (0, .ref q160199), (1, .ref q160200)]) dr_cX17_step_252 (Nat.le_of_ble_eq_true rfl) rfl ?_
  refine G_lload_n 0 dr_cX17_step_253 rfl ?_
  refine G_ldc2 4294967296 dr_cX17_step_254 wr_11_107 ?_
  refine G_lcmp dr_cX17_step_257 (G_nam fun z160428 hz160428 => ?_)
  have bz160428 : gB z160428 (-1) 1 := gB_cmp hz160428
  refine G_if_ne 263 dr_cX17_step_258 (by decide +kernel) (fun hc160429 => ?_) (fun hc160429 => ?_)
  · have r160430 : z160428.toInt ≠ 0 := gj_neq hc160429 (show Int32.toInt 0 = 0 by decide)
    have lhc160429 := gC_cmpN hz160428 hc160429
    refine G_aload_n 1 dr_cX17_step_263 rfl ?_
    refine Gp_get 20 hm160202 he160203 dr_cX17_step_264 (gk_X17 D I) (Nat.le_of_ble_eq_true rfl) wr_7_94 rfl ?_
    refine G_aload_n 2 dr_cX17_step_267 rfl ?_
    refine Gp_get 1 hm160249 he160250 dr_cX17_step_268 (gk_X15 D I) (Nat.le_of_ble_eq_true rfl) wr_9_182 rfl ?_
    refine G_lload_n 0 dr_cX17_step_271 rfl ?_
    refine G_l2i dr_cX17_step_272 (G_nam fun z160431 hz160431 => ?_)
    have bz160431 : gB z160431 (-2147483648) 2147483647 := gB_any z160431
    have hm160432 : (γ 9 20) ∈ P160197 := RS_m hT ht160237 (by decide)
    obtain ⟨f160434, he160433⟩ := show rk_22 I (F160198 (γ 9 20)) from RS_o hT ht160237
    refine Gp_iast 0 hm160432 he160433 dr_cX17_step_273 rfl (gB_in bp160252 (by decide) (by decide)) (fun F160435 e160436 n160437 => ?_)
    obtain ⟨f160438, hf160438⟩ : ∃ z, z = upd f160434 p160252.toNatClampNeg z160431 := ⟨_, rfl⟩
    rw [← hf160438] at e160436
    have he160439 : F160435 q160199 = .inr (22, [.ref (γ 9 0), .ref (γ 9 1), .ref (γ 9 2), .ref (γ 9 3), .ref (γ 9 4), .ref (γ 9 5), .ref (γ 9 6), .ref (γ 9 7), .ref (γ 9 8), .int p160206, .int p160207, .int p160208, .int p160209, .int p160210, .int p160211, .ref (γ 9 15), .ref (γ 9 16), .ref (γ 9 17), .ref (γ 9 18), .ref (γ 9 19), .ref (γ 9 20), .ref (γ 9 21), .ref (γ 9 22), .int p160212, .int p160213, .int p160214, .int p160215, .int p160216, .ref q160204, .ref (γ 9 29), .int p160217, .ref (γ 9 31), .int p160218, .int p160219, .int p160220, .ref q160205]) := (n160437 q160199 (rn_oa he160203 he160433)).trans he160203
    have he160440 : F160435 q160200 = .inr (20, [.int p160251, .int p160252, .int p160253, .int p160254, .int p160255, .int p160256, .int p160257]) := (n160437 q160200 (rn_oa he160250 he160433)).trans he160250
    have he160441 : F160435 (γ 9 20) = .inl (I .int, 2000, .inl f160438) := e160436
    have hs160442 : rStr γ [] F160198 F160435 := rStr_put (rStr_rf (γ := γ) (W := []) (F := F160198)) n160437 ht160237 (by decide)
    refine G_iconst (-1) dr_cX17_step_274 (by decide +kernel) ?_
    have hT160443 : RS D I P160197 F160435 γ el := RS_set hT n160437 ht160237 (by decide) ⟨f160438, he160441⟩
    exact G_iretA dr_cX17_step_275 rfl (Nat.le_of_ble_eq_true rfl) (Nat.le_of_ble_eq_true rfl) ⟨F160435, (-1), rfl, rfl, hT160443, hs160442, (Nat.le_of_ble_eq_true rfl), (Nat.le_of_ble_eq_true rfl), (gB_w (gBl (show Int32.toInt (-1) = (-1) by decide)) (by decide) (by decide)), (by rw [show fI (F160435 q160199) 26 = p160215 from by rw [he160439]; rfl, show fI (F160198 q160199) 26 = p160215 from by rw [he160203]; rfl] <;> (have qa0 : Int32.toInt (-1) = (-1) := (by decide); omega)), (by rw [show fI (F160435 q160199) 32 = p160218 from by rw [he160439]; rfl, show fI (F160198 q160199) 32 = p160218 from by rw [he160203]; rfl] <;> (have qa0 : Int32.toInt (-1) = (-1) := (by decide); omega))⟩
  · have r160444 : z160428.toInt = 0 := gj_eq hc160429 (show Int32.toInt 0 = 0 by decide)
    have bz160428' : gB z160428 0 0 := ⟨by omega, by omega⟩
    have lhc160429 := gC_cmpE hz160428 hc160429
    refine G_iconst 1 dr_cX17_step_261 (by decide +kernel) ?_
    exact G_iretA dr_cX17_step_262 rfl (Nat.le_of_ble_eq_true rfl) (Nat.le_of_ble_eq_true rfl) ⟨F160198, 1, rfl, rfl, hT, (rStr_rf (γ := γ) (W := []) (F := F160198)), (Nat.le_of_ble_eq_true rfl), (Nat.le_of_ble_eq_true rfl), (gB_w (gBl (show Int32.toInt 1 = 1 by decide)) (by decide) (by decide)), (by rw [show fI (F160198 q160199) 26 = p160215 from by rw [he160203]; rfl] <;> (have qa0 : Int32.toInt 1 = 1 := (by decide); omega)), (by rw [show fI (F160198 q160199) 32 = p160218 from by rw [he160203]; rfl] <;> (have qa0 : Int32.toInt 1 = 1 := (by decide); omega))⟩
abbrev ky_160530_SpillForgeModel_no : gKey := (cX17_no, 2, "SpillForgeModel", (some FieldType.int), [], "no", fun _ _ => True)
def pt_160530_SpillForgeModel_no (D : va_G) (I : FieldType → ClassId) (γ el : Nat → Nat → Nat) (P160526 : List Nat) (F160527 : Nat → va_E) (q160528 : Nat) (p160529 : Int32) : Option Value → va_W → Nat → Nat → Prop := fun r w dc ds => ∃ (F160584 : Nat → va_E), r = some (.int 0) ∧ w = va_pl P160526 F160584 ∧ RS D I P160526 F160584 γ el ∧ rStr γ [] F160527 F160584 ∧ dc ≤ 0 ∧ ds ≤ 0 ∧ (fI (F160584 q160528) 32).toInt = (fI (F160527 q160528) 32).toInt ∧ (fI (F160584 q160528) 30).toInt = p160529.toInt
set_option maxRecDepth 100000 in
set_option maxHeartbeats 4000000 in
theorem ct_160530_SpillForgeModel_no (l : Launch) (hl0 : l.stackTraces = false) (D : va_G) (I : FieldType → ClassId) (γ el : Nat → Nat → Nat) (P160526 : List Nat) (F160527 : Nat → va_E) (q160528 : Nat) (p160529 : Int32) (hT : RS D I P160526 F160527 γ el) (htq160528 : rKd γ q160528 10) : CtA (gV D I) l yX17_no cX17_no 2 (some FieldType.int) 0 0 0 0 [.ref q160528, .int p160529] (va_pl P160526 F160527) (pt_160530_SpillForgeModel_no D I γ el P160526 F160527 q160528 p160529) gNA := by
  refine CtA_of hl0 (by decide) (Nat.le_of_ble_eq_true rfl) ?_
  have bp160529 := gB_any p160529
  have hm160531 : q160528 ∈ P160526 := RS_m hT htq160528 (by decide)
  obtain ⟨q160533, q160534, p160535, p160536, p160537, p160538, p160539, p160540, p160541, p160542, p160543, p160544, p160545, p160546, p160547, p160548, p160549, he160532, hB160576, ht160550, ht160551, ht160552, ht160553, ht160554, ht160555, ht160556, ht160557, ht160558, ht160559, ht160560, ht160561, ht160562, ht160563, ht160564, ht160565, ht160566, ht160567, ht160568, ht160569, ht160570, ht160571, ht160572, ht160573, hB160577⟩ := show rk_10 γ (F160527 q160528) from RS_o hT htq160528
  refine G_aload_n 0 dr_cX17_no_0 rfl ?_
  refine G_iload_n 1 dr_cX17_no_1 rfl ?_
  refine Gp_put 30 hm160531 he160532 dr_cX17_no_2 (gk_X17 D I) (Nat.le_of_ble_eq_true rfl) wr_7_104 rfl rfl rfl (Nat.le_of_ble_eq_true rfl) (fun F160578 e160579 n160580 => ?_)
  have he160581 : F160578 q160528 = .inr (22, [.ref (γ 9 0), .ref (γ 9 1), .ref (γ 9 2), .ref (γ 9 3), .ref (γ 9 4), .ref (γ 9 5), .ref (γ 9 6), .ref (γ 9 7), .ref (γ 9 8), .int p160535, .int p160536, .int p160537, .int p160538, .int p160539, .int p160540, .ref (γ 9 15), .ref (γ 9 16), .ref (γ 9 17), .ref (γ 9 18), .ref (γ 9 19), .ref (γ 9 20), .ref (γ 9 21), .ref (γ 9 22), .int p160541, .int p160542, .int p160543, .int p160544, .int p160545, .ref q160533, .ref (γ 9 29), .int p160529, .ref (γ 9 31), .int p160547, .int p160548, .int p160549, .ref q160534]) := e160579
  have hs160582 : rStr γ [] F160527 F160578 := rStr_put (rStr_rf (γ := γ) (W := []) (F := F160527)) n160580 htq160528 (by decide)
  refine G_iconst 0 dr_cX17_no_5 (by decide +kernel) ?_
  have hT160583 : RS D I P160526 F160578 γ el := RS_set hT n160580 htq160528 (by decide) ⟨q160533, q160534, p160535, p160536, p160537, p160538, p160539, p160540, p160541, p160542, p160543, p160544, p160545, p160529, p160547, p160548, p160549, he160581, ⟨(hB160576.1), (hB160576.2.1), (hB160576.2.2.1), (hB160576.2.2.2.1), (hB160576.2.2.2.2.1), (hB160576.2.2.2.2.2.1), (hB160576.2.2.2.2.2.2.1), (hB160576.2.2.2.2.2.2.2.1), (hB160576.2.2.2.2.2.2.2.2)⟩, ht160550, ht160551, ht160552, ht160553, ht160554, ht160555, ht160556, ht160557, ht160558, ht160559, ht160560, ht160561, ht160562, ht160563, ht160564, ht160565, ht160566, ht160567, ht160568, ht160569, ht160570, ht160571, ht160572, ht160573, hB160577⟩
  exact G_iretA dr_cX17_no_6 rfl (Nat.le_of_ble_eq_true rfl) (Nat.le_of_ble_eq_true rfl) ⟨F160578, rfl, rfl, hT160583, hs160582, (Nat.le_of_ble_eq_true rfl), (Nat.le_of_ble_eq_true rfl), (by rw [show fI (F160578 q160528) 32 = p160547 from by rw [he160581]; rfl, show fI (F160527 q160528) 32 = p160547 from by rw [he160532]; rfl] <;> (have qa0 : Int32.toInt 0 = 0 := (by decide); omega)), (by rw [show fI (F160578 q160528) 30 = p160529 from by rw [he160581]; rfl] <;> (have qa0 : Int32.toInt 0 = 0 := (by decide); omega))⟩
abbrev ky_160451_SpillForgeModel_told : gKey := (cX17_told, 2, "SpillForgeModel", (some FieldType.int), [], "told", fun _ _ => True)
def pt_160451_SpillForgeModel_told (D : va_G) (I : FieldType → ClassId) (γ el : Nat → Nat → Nat) (P160447 : List Nat) (F160448 : Nat → va_E) (q160449 : Nat) (p160450 : Int32) : Option Value → va_W → Nat → Nat → Prop := fun r w dc ds => ∃ (F160647 : Nat → va_E) (o160646 : Int32), r = some (.int o160646) ∧ w = va_pl P160447 F160647 ∧ RS D I P160447 F160647 γ el ∧ rStr γ [] F160448 F160647 ∧ dc ≤ 0 ∧ ds ≤ 0 ∧ (fI (F160647 q160449) 32).toInt = (fI (F160448 q160449) 32).toInt
set_option maxRecDepth 100000 in
set_option maxHeartbeats 4000000 in
theorem ct_160451_SpillForgeModel_told (l : Launch) (hl0 : l.stackTraces = false) (D : va_G) (I : FieldType → ClassId) (γ el : Nat → Nat → Nat) (P160447 : List Nat) (F160448 : Nat → va_E) (q160449 : Nat) (p160450 : Int32) (hT : RS D I P160447 F160448 γ el) (htq160449 : rKd γ q160449 10) : CtA (gV D I) l yX17_told cX17_told 2 (some FieldType.int) 1 21 0 0 [.ref q160449, .int p160450] (va_pl P160447 F160448) (pt_160451_SpillForgeModel_told D I γ el P160447 F160448 q160449 p160450) gNA := by
  refine CtA_of hl0 (by decide) (Nat.le_of_ble_eq_true rfl) ?_
  have bp160450 := gB_any p160450
  have hm160452 : q160449 ∈ P160447 := RS_m hT htq160449 (by decide)
  obtain ⟨q160454, q160455, p160456, p160457, p160458, p160459, p160460, p160461, p160462, p160463, p160464, p160465, p160466, p160467, p160468, p160469, p160470, he160453, hB160497, ht160471, ht160472, ht160473, ht160474, ht160475, ht160476, ht160477, ht160478, ht160479, ht160480, ht160481, ht160482, ht160483, ht160484, ht160485, ht160486, ht160487, ht160488, ht160489, ht160490, ht160491, ht160492, ht160493, ht160494, hB160498⟩ := show rk_10 γ (F160448 q160449) from RS_o hT htq160449
  have ac160499 : (fI (F160448 q160449) 32).toInt = p160468.toInt := by rw [he160453]; rfl
  have bp160468 : gB p160468 0 8192 := (hB160497.2.2.2.2.2.2.2.1)
  refine G_aload_n 0 dr_cX17_told_0 rfl ?_
  refine G_iconst 0 dr_cX17_told_1 (by decide +kernel) ?_
  refine Gp_put 30 hm160452 he160453 dr_cX17_told_2 (gk_X17 D I) (Nat.le_of_ble_eq_true rfl) wr_7_104 rfl rfl rfl (Nat.le_of_ble_eq_true rfl) (fun F160500 e160501 n160502 => ?_)
  have he160503 : F160500 q160449 = .inr (22, [.ref (γ 9 0), .ref (γ 9 1), .ref (γ 9 2), .ref (γ 9 3), .ref (γ 9 4), .ref (γ 9 5), .ref (γ 9 6), .ref (γ 9 7), .ref (γ 9 8), .int p160456, .int p160457, .int p160458, .int p160459, .int p160460, .int p160461, .ref (γ 9 15), .ref (γ 9 16), .ref (γ 9 17), .ref (γ 9 18), .ref (γ 9 19), .ref (γ 9 20), .ref (γ 9 21), .ref (γ 9 22), .int p160462, .int p160463, .int p160464, .int p160465, .int p160466, .ref q160454, .ref (γ 9 29), .int 0, .ref (γ 9 31), .int p160468, .int p160469, .int p160470, .ref q160455]) := e160501
  have hs160504 : rStr γ [] F160448 F160500 := rStr_put (rStr_rf (γ := γ) (W := []) (F := F160448)) n160502 htq160449 (by decide)
  refine G_iload_n 1 dr_cX17_told_5 rfl ?_
  by_cases hs160505 : p160450 = 0
  · have ehs160505 : p160450.toInt = 0 := gj_eq hs160505 (show Int32.toInt 0 = 0 by decide)
    have bp160450' : gB p160450 0 0 := ⟨by omega, by omega⟩
    refine G_eqi (y := 0) hs160505 ?_
    refine G_tableIn 40 dr_cX17_told_6 (by decide) (by decide) (by first | rfl | decide) (by decide) ?_
    refine G_aload_n 0 dr_cX17_told_40 rfl ?_
    refine Gp_get 23 hm160452 he160503 dr_cX17_told_41 (gk_X17 D I) (Nat.le_of_ble_eq_true rfl) wr_7_97 rfl ?_
    have bp160462 : gB p160462 (-2147483648) 2147483647 := (gB_any p160462)
    refine G_if_ne 54 dr_cX17_told_44 (by decide +kernel) (fun hc160506 => ?_) (fun hc160506 => ?_)
    · have r160507 : p160462.toInt ≠ 0 := gj_neq hc160506 (show Int32.toInt 0 = 0 by decide)
      refine G_iconst 0 dr_cX17_told_54 (by decide +kernel) ?_
      have hT160508 : RS D I P160447 F160500 γ el := RS_set hT n160502 htq160449 (by decide) ⟨q160454, q160455, p160456, p160457, p160458, p160459, p160460, p160461, p160462, p160463, p160464, p160465, p160466, 0, p160468, p160469, p160470, he160503, ⟨(hB160497.1), (hB160497.2.1), (hB160497.2.2.1), (hB160497.2.2.2.1), (hB160497.2.2.2.2.1), (hB160497.2.2.2.2.2.1), (hB160497.2.2.2.2.2.2.1), bp160468, (hB160497.2.2.2.2.2.2.2.2)⟩, ht160471, ht160472, ht160473, ht160474, ht160475, ht160476, ht160477, ht160478, ht160479, ht160480, ht160481, ht160482, ht160483, ht160484, ht160485, ht160486, ht160487, ht160488, ht160489, ht160490, ht160491, ht160492, ht160493, ht160494, hB160498⟩
      have ac160509 : (fI (F160500 q160449) 32).toInt = p160468.toInt := by rw [he160503]; rfl
      exact G_iretA dr_cX17_told_55 rfl (Nat.le_of_ble_eq_true rfl) (Nat.le_of_ble_eq_true rfl) ⟨F160500, 0, rfl, rfl, hT160508, hs160504, (Nat.le_of_ble_eq_true rfl), (Nat.le_of_ble_eq_true rfl), (by have qa0 : Int32.toInt 0 = 0 := (by decide); omega)⟩
    · have r160510 : p160462.toInt = 0 := gj_eq hc160506 (show Int32.toInt 0 = 0 by decide)
      have bp160462' : gB p160462 0 0 := ⟨by omega, by omega⟩
      refine G_aload_n 0 dr_cX17_told_47 rfl ?_
      refine Gp_get 24 hm160452 he160503 dr_cX17_told_48 (gk_X17 D I) (Nat.le_of_ble_eq_true rfl) wr_7_98 rfl ?_
      have bp160463 : gB p160463 (-2147483648) 2147483647 := (gB_any p160463)
      refine G_goto 55 dr_cX17_told_51 (by decide +kernel) ?_
      have hT160511 : RS D I P160447 F160500 γ el := RS_set hT n160502 htq160449 (by decide) ⟨q160454, q160455, p160456, p160457, p160458, p160459, p160460, p160461, p160462, p160463, p160464, p160465, p160466, 0, p160468, p160469, p160470, he160503, ⟨(hB160497.1), (hB160497.2.1), (hB160497.2.2.1), (hB160497.2.2.2.1), (hB160497.2.2.2.2.1), (hB160497.2.2.2.2.2.1), (hB160497.2.2.2.2.2.2.1), bp160468, (hB160497.2.2.2.2.2.2.2.2)⟩, ht160471, ht160472, ht160473, ht160474, ht160475, ht160476, ht160477, ht160478, ht160479, ht160480, ht160481, ht160482, ht160483, ht160484, ht160485, ht160486, ht160487, ht160488, ht160489, ht160490, ht160491, ht160492, ht160493, ht160494, hB160498⟩
      have ac160512 : (fI (F160500 q160449) 32).toInt = p160468.toInt := by rw [he160503]; rfl
      exact G_iretA dr_cX17_told_55 rfl (Nat.le_of_ble_eq_true rfl) (Nat.le_of_ble_eq_true rfl) ⟨F160500, p160463, rfl, rfl, hT160511, hs160504, (Nat.le_of_ble_eq_true rfl), (Nat.le_of_ble_eq_true rfl), (by omega)⟩
  by_cases hs160513 : p160450 = 1
  · have ehs160513 : p160450.toInt = 1 := gj_eq hs160513 (show Int32.toInt 1 = 1 by decide)
    have bp160450' : gB p160450 1 1 := ⟨by omega, by omega⟩
    refine G_eqi (y := 1) hs160513 ?_
    refine G_tableIn 56 dr_cX17_told_6 (by decide) (by decide) (by first | rfl | decide) (by decide) ?_
    refine G_aload_n 0 dr_cX17_told_56 rfl ?_
    refine Gp_get 25 hm160452 he160503 dr_cX17_told_57 (gk_X17 D I) (Nat.le_of_ble_eq_true rfl) wr_7_99 rfl ?_
    have bp160464 : gB p160464 0 512 := (hB160497.2.2.2.2.1)
    have hT160514 : RS D I P160447 F160500 γ el := RS_set hT n160502 htq160449 (by decide) ⟨q160454, q160455, p160456, p160457, p160458, p160459, p160460, p160461, p160462, p160463, p160464, p160465, p160466, 0, p160468, p160469, p160470, he160503, ⟨(hB160497.1), (hB160497.2.1), (hB160497.2.2.1), (hB160497.2.2.2.1), bp160464, (hB160497.2.2.2.2.2.1), (hB160497.2.2.2.2.2.2.1), bp160468, (hB160497.2.2.2.2.2.2.2.2)⟩, ht160471, ht160472, ht160473, ht160474, ht160475, ht160476, ht160477, ht160478, ht160479, ht160480, ht160481, ht160482, ht160483, ht160484, ht160485, ht160486, ht160487, ht160488, ht160489, ht160490, ht160491, ht160492, ht160493, ht160494, hB160498⟩
    have ac160515 : (fI (F160500 q160449) 32).toInt = p160468.toInt := by rw [he160503]; rfl
    exact G_iretA dr_cX17_told_60 rfl (Nat.le_of_ble_eq_true rfl) (Nat.le_of_ble_eq_true rfl) ⟨F160500, p160464, rfl, rfl, hT160514, hs160504, (Nat.le_of_ble_eq_true rfl), (Nat.le_of_ble_eq_true rfl), (by omega)⟩
  by_cases hs160516 : p160450 = 2
  · have ehs160516 : p160450.toInt = 2 := gj_eq hs160516 (show Int32.toInt 2 = 2 by decide)
    have bp160450' : gB p160450 2 2 := ⟨by omega, by omega⟩
    refine G_eqi (y := 2) hs160516 ?_
    refine G_tableIn 61 dr_cX17_told_6 (by decide) (by decide) (by first | rfl | decide) (by decide) ?_
    refine G_aload_n 0 dr_cX17_told_61 rfl ?_
    refine Gp_get 26 hm160452 he160503 dr_cX17_told_62 (gk_X17 D I) (Nat.le_of_ble_eq_true rfl) wr_7_100 rfl ?_
    have bp160465 : gB p160465 0 100000 := (hB160497.2.2.2.2.2.1)
    have hT160517 : RS D I P160447 F160500 γ el := RS_set hT n160502 htq160449 (by decide) ⟨q160454, q160455, p160456, p160457, p160458, p160459, p160460, p160461, p160462, p160463, p160464, p160465, p160466, 0, p160468, p160469, p160470, he160503, ⟨(hB160497.1), (hB160497.2.1), (hB160497.2.2.1), (hB160497.2.2.2.1), (hB160497.2.2.2.2.1), bp160465, (hB160497.2.2.2.2.2.2.1), bp160468, (hB160497.2.2.2.2.2.2.2.2)⟩, ht160471, ht160472, ht160473, ht160474, ht160475, ht160476, ht160477, ht160478, ht160479, ht160480, ht160481, ht160482, ht160483, ht160484, ht160485, ht160486, ht160487, ht160488, ht160489, ht160490, ht160491, ht160492, ht160493, ht160494, hB160498⟩
    have ac160518 : (fI (F160500 q160449) 32).toInt = p160468.toInt := by rw [he160503]; rfl
    exact G_iretA dr_cX17_told_65 rfl (Nat.le_of_ble_eq_true rfl) (Nat.le_of_ble_eq_true rfl) ⟨F160500, p160465, rfl, rfl, hT160517, hs160504, (Nat.le_of_ble_eq_true rfl), (Nat.le_of_ble_eq_true rfl), (by omega)⟩
  by_cases hs160519 : p160450 = 3
  · have ehs160519 : p160450.toInt = 3 := gj_eq hs160519 (show Int32.toInt 3 = 3 by decide)
    have bp160450' : gB p160450 3 3 := ⟨by omega, by omega⟩
    refine G_eqi (y := 3) hs160519 ?_
    refine G_tableIn 66 dr_cX17_told_6 (by decide) (by decide) (by first | rfl | decide) (by decide) ?_
    refine G_aload_n 0 dr_cX17_told_66 rfl ?_
    refine Gp_get 27 hm160452 he160503 dr_cX17_told_67 (gk_X17 D I) (Nat.le_of_ble_eq_true rfl) wr_7_101 rfl ?_
    have bp160466 : gB p160466 0 2048 := (hB160497.2.2.2.2.2.2.1)
    have hT160520 : RS D I P160447 F160500 γ el := RS_set hT n160502 htq160449 (by decide) ⟨q160454, q160455, p160456, p160457, p160458, p160459, p160460, p160461, p160462, p160463, p160464, p160465, p160466, 0, p160468, p160469, p160470, he160503, ⟨(hB160497.1), (hB160497.2.1), (hB160497.2.2.1), (hB160497.2.2.2.1), (hB160497.2.2.2.2.1), (hB160497.2.2.2.2.2.1), bp160466, bp160468, (hB160497.2.2.2.2.2.2.2.2)⟩, ht160471, ht160472, ht160473, ht160474, ht160475, ht160476, ht160477, ht160478, ht160479, ht160480, ht160481, ht160482, ht160483, ht160484, ht160485, ht160486, ht160487, ht160488, ht160489, ht160490, ht160491, ht160492, ht160493, ht160494, hB160498⟩
    have ac160521 : (fI (F160500 q160449) 32).toInt = p160468.toInt := by rw [he160503]; rfl
    exact G_iretA dr_cX17_told_70 rfl (Nat.le_of_ble_eq_true rfl) (Nat.le_of_ble_eq_true rfl) ⟨F160500, p160466, rfl, rfl, hT160520, hs160504, (Nat.le_of_ble_eq_true rfl), (Nat.le_of_ble_eq_true rfl), (by omega)⟩
  by_cases hs160522 : p160450 = 4
  · have ehs160522 : p160450.toInt = 4 := gj_eq hs160522 (show Int32.toInt 4 = 4 by decide)
    have bp160450' : gB p160450 4 4 := ⟨by omega, by omega⟩
    refine G_eqi (y := 4) hs160522 ?_
    refine G_tableIn 71 dr_cX17_told_6 (by decide) (by decide) (by first | rfl | decide) (by decide) ?_
    refine G_aload_n 0 dr_cX17_told_71 rfl ?_
    refine Gp_get 23 hm160452 he160503 dr_cX17_told_72 (gk_X17 D I) (Nat.le_of_ble_eq_true rfl) wr_7_97 rfl ?_
    have bp160462 : gB p160462 (-2147483648) 2147483647 := (gB_any p160462)
    have hT160523 : RS D I P160447 F160500 γ el := RS_set hT n160502 htq160449 (by decide) ⟨q160454, q160455, p160456, p160457, p160458, p160459, p160460, p160461, p160462, p160463, p160464, p160465, p160466, 0, p160468, p160469, p160470, he160503, ⟨(hB160497.1), (hB160497.2.1), (hB160497.2.2.1), (hB160497.2.2.2.1), (hB160497.2.2.2.2.1), (hB160497.2.2.2.2.2.1), (hB160497.2.2.2.2.2.2.1), bp160468, (hB160497.2.2.2.2.2.2.2.2)⟩, ht160471, ht160472, ht160473, ht160474, ht160475, ht160476, ht160477, ht160478, ht160479, ht160480, ht160481, ht160482, ht160483, ht160484, ht160485, ht160486, ht160487, ht160488, ht160489, ht160490, ht160491, ht160492, ht160493, ht160494, hB160498⟩
    have ac160524 : (fI (F160500 q160449) 32).toInt = p160468.toInt := by rw [he160503]; rfl
    exact G_iretA dr_cX17_told_75 rfl (Nat.le_of_ble_eq_true rfl) (Nat.le_of_ble_eq_true rfl) ⟨F160500, p160462, rfl, rfl, hT160523, hs160504, (Nat.le_of_ble_eq_true rfl), (Nat.le_of_ble_eq_true rfl), (by omega)⟩
  have ehs160505 := lv_neT hs160505 (show Int32.toInt 0 = 0 by decide)
  have ehs160513 := lv_neT hs160513 (show Int32.toInt 1 = 1 by decide)
  have ehs160516 := lv_neT hs160516 (show Int32.toInt 2 = 2 by decide)
  have ehs160519 := lv_neT hs160519 (show Int32.toInt 3 = 3 by decide)
  have ehs160522 := lv_neT hs160522 (show Int32.toInt 4 = 4 by decide)
  refine G_tableOut 76 dr_cX17_told_6 (by omega) (by decide) ?_
  refine G_aload_n 0 dr_cX17_told_76 rfl ?_
  refine G_iconst 1 dr_cX17_told_77 (by decide +kernel) ?_
  have hT160525 : RS D I P160447 F160500 γ el := RS_set hT n160502 htq160449 (by decide) ⟨q160454, q160455, p160456, p160457, p160458, p160459, p160460, p160461, p160462, p160463, p160464, p160465, p160466, 0, p160468, p160469, p160470, he160503, ⟨(hB160497.1), (hB160497.2.1), (hB160497.2.2.1), (hB160497.2.2.2.1), (hB160497.2.2.2.2.1), (hB160497.2.2.2.2.2.1), (hB160497.2.2.2.2.2.2.1), bp160468, (hB160497.2.2.2.2.2.2.2.2)⟩, ht160471, ht160472, ht160473, ht160474, ht160475, ht160476, ht160477, ht160478, ht160479, ht160480, ht160481, ht160482, ht160483, ht160484, ht160485, ht160486, ht160487, ht160488, ht160489, ht160490, ht160491, ht160492, ht160493, ht160494, hB160498⟩
  have ac160585 : (fI (F160500 q160449) 32).toInt = p160468.toInt := by rw [he160503]; rfl
  refine Gw_callV (As := [.int 1]) (gV_ok D I) (ct_160530_SpillForgeModel_no l hl0 D I γ el P160447 F160500 q160449 1 hT160525 htq160449) dr_cX17_told_78 ⟨wr_7_191, wr_1_14, wr_7_194, by decide, rfl, (Nat.le_of_ble_eq_true rfl), (Nat.le_of_ble_eq_true rfl)⟩ wr_7_193 wr_p_73 hm160452 he160503 rfl (show 0 + 0 ≤ 0 by first | omega | decide) (show 0 + 0 ≤ 0 by first | omega | decide) (Nat.le_of_ble_eq_true rfl) (fun r160589 w160590 dc160586 ds160587 hp160588 => ?_) (fun _ _ _ _ _ z => z.elim)
  obtain ⟨F160593, rfl, rfl, hT160594, hs160595, hdc, hds, x160591, x160592⟩ := hp160588
  have hs160596 : rStr γ [] F160448 F160593 := rStr_tr hs160504 hs160595
  rw [show Int32.toInt 1 = 1 from by decide] at x160592
  change G _ _ _ _ _ _ _ (.int 0 :: _) _ _ _
  refine G_widen (cs' := 0) (sl' := 0) (by omega) (by omega) ?_
  have hm160597 : q160449 ∈ P160447 := RS_m hT160594 htq160449 (by decide)
  obtain ⟨q160599, q160600, p160601, p160602, p160603, p160604, p160605, p160606, p160607, p160608, p160609, p160610, p160611, p160612, p160613, p160614, p160615, he160598, hB160642, ht160616, ht160617, ht160618, ht160619, ht160620, ht160621, ht160622, ht160623, ht160624, ht160625, ht160626, ht160627, ht160628, ht160629, ht160630, ht160631, ht160632, ht160633, ht160634, ht160635, ht160636, ht160637, ht160638, ht160639, hB160643⟩ := show rk_10 γ (F160593 q160449) from RS_o hT160594 htq160449
  have ac160644 : (fI (F160593 q160449) 32).toInt = p160613.toInt := by rw [he160598]; rfl
  have bp160613 : gB p160613 0 8192 := (hB160642.2.2.2.2.2.2.2.1)
  have ac160645 : (fI (F160593 q160449) 32).toInt = p160613.toInt := by rw [he160598]; rfl
  exact G_iretA dr_cX17_told_81 rfl (Nat.le_of_ble_eq_true rfl) (Nat.le_of_ble_eq_true rfl) ⟨F160593, 0, rfl, rfl, hT160594, hs160596, (Nat.le_of_ble_eq_true rfl), (Nat.le_of_ble_eq_true rfl), (by have qa0 : Int32.toInt 0 = 0 := (by decide); omega)⟩
