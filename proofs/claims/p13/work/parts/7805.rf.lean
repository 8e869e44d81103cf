section
theorem dr_cX17_step_0 : decode cX17_step 0 = .ok (.aload_n 1, 1) := by decide +kernel
theorem dr_cX17_step_1 : decode cX17_step 1 = .ok (.getfield 39, 3) := by decide +kernel
theorem dr_cX17_step_4 : decode cX17_step 4 = .ok (.lookupswitch 217 #[(0, 194), (20, 52), (21, 151), (22, 106), (23, 171)], 52) := by decide +kernel
theorem dr_cX17_step_198 : decode cX17_step 198 = .ok (.aload_n 0, 1) := by decide +kernel
theorem dr_cX17_step_199 : decode cX17_step 199 = .ok (.getfield 271, 3) := by decide +kernel
theorem dr_cX17_step_202 : decode cX17_step 202 = .ok (.aload_n 1, 1) := by decide +kernel
theorem dr_cX17_step_203 : decode cX17_step 203 = .ok (.getfield 52, 3) := by decide +kernel
theorem dr_cX17_step_206 : decode cX17_step 206 = .ok (.aload_n 0, 1) := by decide +kernel
theorem dr_cX17_step_207 : decode cX17_step 207 = .ok (.aload_n 1, 1) := by decide +kernel
theorem dr_cX17_step_208 : decode cX17_step 208 = .ok (.getfield 141, 3) := by decide +kernel
theorem wr_9_197 : (Jvm.Cond.fieldLink "SpillForgeModel" (141 : Nat) "SpillForgeModel$Row" "regA" "Z") ∈ gw := gw_9 197 rfl rfl
theorem dr_cX17_step_211 : decode cX17_step 211 = .ok (.aload_n 1, 1) := by decide +kernel
theorem dr_cX17_step_212 : decode cX17_step 212 = .ok (.getfield 73, 3) := by decide +kernel
theorem dr_cX17_step_215 : decode cX17_step 215 = .ok (.invokevirtual 293, 3) := by decide +kernel
theorem wr_11_100 : (Jvm.Cond.methodLink "SpillForgeModel" (293 : Nat) ({ cls := "SpillForgeModel", name := "value", desc := "(ZI)I" } : Jvm.MethodName)) ∈ gw := gw_11 100 rfl rfl
theorem wr_11_103 : (Jvm.Cond.code ({ cls := "SpillForgeModel", name := "value", desc := "(ZI)I" } : Jvm.MethodName) prog_14_method_28_code (3 : Nat) (Option.some Jvm.ClassFile.FieldType.int)) ∈ gw := gw_11 103 rfl rfl
theorem wr_11_102 : (Jvm.Cond.instanceMethod ({ cls := "SpillForgeModel", name := "value", desc := "(ZI)I" } : Jvm.MethodName)) ∈ gw := gw_11 102 rfl rfl
theorem wr_p_115 : Cond.selects "SpillForgeModel" ⟨"SpillForgeModel", "value", "(ZI)I"⟩ ⟨"SpillForgeModel", "value", "(ZI)I"⟩ ∈ gw := gw_p _ 115 rfl rfl rfl
theorem dr_cX17_step_218 : decode cX17_step 218 = .ok (.iastore, 1) := by decide +kernel
theorem dr_cX17_step_219 : decode cX17_step 219 = .ok (.iconst (-1), 1) := by decide +kernel
theorem dr_cX17_step_220 : decode cX17_step 220 = .ok (.ireturn, 1) := by decide +kernel
theorem dr_cX17_step_56 : decode cX17_step 56 = .ok (.aload_n 0, 1) := by decide +kernel
theorem dr_cX17_step_57 : decode cX17_step 57 = .ok (.getfield 271, 3) := by decide +kernel
theorem dr_cX17_step_60 : decode cX17_step 60 = .ok (.aload_n 1, 1) := by decide +kernel
theorem dr_cX17_step_61 : decode cX17_step 61 = .ok (.getfield 52, 3) := by decide +kernel
theorem dr_cX17_step_64 : decode cX17_step 64 = .ok (.aload_n 0, 1) := by decide +kernel
theorem dr_cX17_step_65 : decode cX17_step 65 = .ok (.getfield 286, 3) := by decide +kernel
theorem wr_7_101 : (Jvm.Cond.fieldLink "SpillForgeModel" (286 : Nat) "SpillForgeModel" "read" "I") ∈ gw := gw_7 101 rfl rfl
theorem dr_cX17_step_68 : decode cX17_step 68 = .ok (.aload_n 0, 1) := by decide +kernel
theorem dr_cX17_step_69 : decode cX17_step 69 = .ok (.getfield 303, 3) := by decide +kernel
theorem wr_7_102 : (Jvm.Cond.fieldLink "SpillForgeModel" (303 : Nat) "SpillForgeModel" "input" "[I") ∈ gw := gw_7 102 rfl rfl
theorem dr_cX17_step_72 : decode cX17_step 72 = .ok (.arraylength, 1) := by decide +kernel
theorem dr_cX17_step_73 : decode cX17_step 73 = .ok (.if_icmp .ge 15, 3) := by decide +kernel
theorem dr_cX17_step_88 : decode cX17_step 88 = .ok (.iconst 0, 1) := by decide +kernel
theorem dr_cX17_step_89 : decode cX17_step 89 = .ok (.iastore, 1) := by decide +kernel
theorem dr_cX17_step_90 : decode cX17_step 90 = .ok (.aload_n 0, 1) := by decide +kernel
theorem dr_cX17_step_91 : decode cX17_step 91 = .ok (.aload_n 0, 1) := by decide +kernel
theorem dr_cX17_step_92 : decode cX17_step 92 = .ok (.getfield 286, 3) := by decide +kernel
theorem dr_cX17_step_95 : decode cX17_step 95 = .ok (.iconst 1, 1) := by decide +kernel
theorem dr_cX17_step_96 : decode cX17_step 96 = .ok (.iadd, 1) := by decide +kernel
theorem dr_cX17_step_97 : decode cX17_step 97 = .ok (.aload_n 0, 1) := by decide +kernel
theorem dr_cX17_step_98 : decode cX17_step 98 = .ok (.getfield 303, 3) := by decide +kernel
theorem dr_cX17_step_101 : decode cX17_step 101 = .ok (.arraylength, 1) := by decide +kernel
theorem dr_cX17_step_102 : decode cX17_step 102 = .ok (.invokestatic 164, 3) := by decide +kernel
theorem dr_cX17_step_105 : decode cX17_step 105 = .ok (.putfield 286, 3) := by decide +kernel
theorem dr_cX17_step_108 : decode cX17_step 108 = .ok (.iconst (-1), 1) := by decide +kernel
theorem dr_cX17_step_109 : decode cX17_step 109 = .ok (.ireturn, 1) := by decide +kernel
theorem dr_cX17_step_76 : decode cX17_step 76 = .ok (.aload_n 0, 1) := by decide +kernel
theorem dr_cX17_step_77 : decode cX17_step 77 = .ok (.getfield 303, 3) := by decide +kernel
theorem dr_cX17_step_80 : decode cX17_step 80 = .ok (.aload_n 0, 1) := by decide +kernel
theorem dr_cX17_step_81 : decode cX17_step 81 = .ok (.getfield 286, 3) := by decide +kernel
theorem dr_cX17_step_84 : decode cX17_step 84 = .ok (.iaload, 1) := by decide +kernel
theorem dr_cX17_step_85 : decode cX17_step 85 = .ok (.goto 4, 3) := by decide +kernel
theorem dr_cX17_step_155 : decode cX17_step 155 = .ok (.aload_n 0, 1) := by decide +kernel
theorem dr_cX17_step_156 : decode cX17_step 156 = .ok (.getfield 271, 3) := by decide +kernel
theorem dr_cX17_step_159 : decode cX17_step 159 = .ok (.aload_n 1, 1) := by decide +kernel
theorem dr_cX17_step_160 : decode cX17_step 160 = .ok (.getfield 52, 3) := by decide +kernel
theorem dr_cX17_step_163 : decode cX17_step 163 = .ok (.aload_n 0, 1) := by decide +kernel
theorem dr_cX17_step_164 : decode cX17_step 164 = .ok (.getfield 274, 3) := by decide +kernel
theorem wr_7_95 : (Jvm.Cond.fieldLink "SpillForgeModel" (274 : Nat) "SpillForgeModel" "slotNow" "[I") ∈ gw := gw_7 95 rfl rfl
theorem dr_cX17_step_167 : decode cX17_step 167 = .ok (.aload_n 1, 1) := by decide +kernel
theorem dr_cX17_step_168 : decode cX17_step 168 = .ok (.getfield 45, 3) := by decide +kernel
theorem dr_cX17_step_171 : decode cX17_step 171 = .ok (.iaload, 1) := by decide +kernel
theorem dr_cX17_step_172 : decode cX17_step 172 = .ok (.iastore, 1) := by decide +kernel
theorem dr_cX17_step_173 : decode cX17_step 173 = .ok (.iconst (-1), 1) := by decide +kernel
theorem dr_cX17_step_174 : decode cX17_step 174 = .ok (.ireturn, 1) := by decide +kernel
theorem dr_cX17_step_110 : decode cX17_step 110 = .ok (.aload_n 0, 1) := by decide +kernel
theorem dr_cX17_step_111 : decode cX17_step 111 = .ok (.getfield 280, 3) := by decide +kernel
theorem wr_7_99 : (Jvm.Cond.fieldLink "SpillForgeModel" (280 : Nat) "SpillForgeModel" "shown" "I") ∈ gw := gw_7 99 rfl rfl
theorem dr_cX17_step_114 : decode cX17_step 114 = .ok (.sipush 512, 3) := by decide +kernel
theorem dr_cX17_step_117 : decode cX17_step 117 = .ok (.if_icmp .ne 5, 3) := by decide +kernel
theorem dr_cX17_step_122 : decode cX17_step 122 = .ok (.aload_n 0, 1) := by decide +kernel
theorem dr_cX17_step_123 : decode cX17_step 123 = .ok (.getfield 306, 3) := by decide +kernel
theorem wr_7_96 : (Jvm.Cond.fieldLink "SpillForgeModel" (306 : Nat) "SpillForgeModel" "shows" "[I") ∈ gw := gw_7 96 rfl rfl
theorem dr_cX17_step_126 : decode cX17_step 126 = .ok (.aload_n 0, 1) := by decide +kernel
theorem dr_cX17_step_127 : decode cX17_step 127 = .ok (.getfield 280, 3) := by decide +kernel
theorem dr_cX17_step_130 : decode cX17_step 130 = .ok (.aload_n 0, 1) := by decide +kernel
theorem dr_cX17_step_131 : decode cX17_step 131 = .ok (.aload_n 1, 1) := by decide +kernel
theorem dr_cX17_step_132 : decode cX17_step 132 = .ok (.getfield 141, 3) := by decide +kernel
theorem dr_cX17_step_135 : decode cX17_step 135 = .ok (.aload_n 1, 1) := by decide +kernel
theorem dr_cX17_step_136 : decode cX17_step 136 = .ok (.getfield 73, 3) := by decide +kernel
theorem dr_cX17_step_139 : decode cX17_step 139 = .ok (.invokevirtual 293, 3) := by decide +kernel
theorem dr_cX17_step_142 : decode cX17_step 142 = .ok (.iastore, 1) := by decide +kernel
theorem dr_cX17_step_143 : decode cX17_step 143 = .ok (.aload_n 0, 1) := by decide +kernel
theorem dr_cX17_step_144 : decode cX17_step 144 = .ok (.dup, 1) := by decide +kernel
theorem dr_cX17_step_145 : decode cX17_step 145 = .ok (.getfield 280, 3) := by decide +kernel
theorem dr_cX17_step_148 : decode cX17_step 148 = .ok (.iconst 1, 1) := by decide +kernel
theorem dr_cX17_step_149 : decode cX17_step 149 = .ok (.iadd, 1) := by decide +kernel
theorem dr_cX17_step_150 : decode cX17_step 150 = .ok (.putfield 280, 3) := by decide +kernel
theorem dr_cX17_step_153 : decode cX17_step 153 = .ok (.iconst (-1), 1) := by decide +kernel
theorem dr_cX17_step_154 : decode cX17_step 154 = .ok (.ireturn, 1) := by decide +kernel
theorem dr_cX17_step_120 : decode cX17_step 120 = .ok (.iconst 5, 1) := by decide +kernel
theorem dr_cX17_step_121 : decode cX17_step 121 = .ok (.ireturn, 1) := by decide +kernel
theorem dr_cX17_step_175 : decode cX17_step 175 = .ok (.aload_n 0, 1) := by decide +kernel
theorem dr_cX17_step_176 : decode cX17_step 176 = .ok (.getfield 274, 3) := by decide +kernel
theorem dr_cX17_step_179 : decode cX17_step 179 = .ok (.aload_n 1, 1) := by decide +kernel
theorem dr_cX17_step_180 : decode cX17_step 180 = .ok (.getfield 45, 3) := by decide +kernel
theorem dr_cX17_step_183 : decode cX17_step 183 = .ok (.aload_n 0, 1) := by decide +kernel
theorem dr_cX17_step_184 : decode cX17_step 184 = .ok (.aload_n 1, 1) := by decide +kernel
theorem dr_cX17_step_185 : decode cX17_step 185 = .ok (.getfield 141, 3) := by decide +kernel
theorem dr_cX17_step_188 : decode cX17_step 188 = .ok (.aload_n 1, 1) := by decide +kernel
theorem dr_cX17_step_189 : decode cX17_step 189 = .ok (.getfield 73, 3) := by decide +kernel
theorem dr_cX17_step_192 : decode cX17_step 192 = .ok (.invokevirtual 293, 3) := by decide +kernel
theorem dr_cX17_step_195 : decode cX17_step 195 = .ok (.iastore, 1) := by decide +kernel
theorem dr_cX17_step_196 : decode cX17_step 196 = .ok (.iconst (-1), 1) := by decide +kernel
theorem dr_cX17_step_197 : decode cX17_step 197 = .ok (.ireturn, 1) := by decide +kernel
theorem dr_cX17_step_221 : decode cX17_step 221 = .ok (.aload_n 1, 1) := by decide +kernel
theorem dr_cX17_step_222 : decode cX17_step 222 = .ok (.getfield 39, 3) := by decide +kernel
theorem dr_cX17_step_225 : decode cX17_step 225 = .ok (.aload_n 0, 1) := by decide +kernel
theorem dr_cX17_step_226 : decode cX17_step 226 = .ok (.aload_n 1, 1) := by decide +kernel
theorem dr_cX17_step_227 : decode cX17_step 227 = .ok (.getfield 141, 3) := by decide +kernel
theorem dr_cX17_step_230 : decode cX17_step 230 = .ok (.aload_n 1, 1) := by decide +kernel
theorem dr_cX17_step_231 : decode cX17_step 231 = .ok (.getfield 73, 3) := by decide +kernel
theorem dr_cX17_step_234 : decode cX17_step 234 = .ok (.invokevirtual 293, 3) := by decide +kernel
theorem dr_cX17_step_237 : decode cX17_step 237 = .ok (.aload_n 0, 1) := by decide +kernel
theorem dr_cX17_step_238 : decode cX17_step 238 = .ok (.aload_n 1, 1) := by decide +kernel
theorem dr_cX17_step_239 : decode cX17_step 239 = .ok (.getfield 309, 3) := by decide +kernel
theorem wr_9_202 : (Jvm.Cond.fieldLink "SpillForgeModel" (309 : Nat) "SpillForgeModel$Row" "regB" "Z") ∈ gw := gw_9 202 rfl rfl
theorem dr_cX17_step_242 : decode cX17_step 242 = .ok (.aload_n 1, 1) := by decide +kernel
theorem dr_cX17_step_243 : decode cX17_step 243 = .ok (.getfield 79, 3) := by decide +kernel
theorem dr_cX17_step_246 : decode cX17_step 246 = .ok (.invokevirtual 293, 3) := by decide +kernel
theorem dr_cX17_step_249 : decode cX17_step 249 = .ok (.invokestatic 312, 3) := by decide +kernel
theorem wr_11_104 : (Jvm.Cond.methodLink "SpillForgeModel" (312 : Nat) ({ cls := "SpillForgeModel", name := "result", desc := "(III)J" } : Jvm.MethodName)) ∈ gw := gw_11 104 rfl rfl
theorem wr_11_106 : (Jvm.Cond.code ({ cls := "SpillForgeModel", name := "result", desc := "(III)J" } : Jvm.MethodName) prog_14_method_27_code (4 : Nat) (Option.some Jvm.ClassFile.FieldType.long)) ∈ gw := gw_11 106 rfl rfl
theorem wr_11_105 : (Jvm.Cond.static ({ cls := "SpillForgeModel", name := "result", desc := "(III)J" } : Jvm.MethodName)) ∈ gw := gw_11 105 rfl rfl
theorem dr_cX17_step_252 : decode cX17_step 252 = .ok (.lstore_n 2, 1) := by decide +kernel
theorem dr_cX17_step_253 : decode cX17_step 253 = .ok (.lload_n 2, 1) := by decide +kernel
theorem dr_cX17_step_254 : decode cX17_step 254 = .ok (.ldc2_w 267, 3) := by decide +kernel
theorem dr_cX17_step_257 : decode cX17_step 257 = .ok (.lcmp, 1) := by decide +kernel
theorem dr_cX17_step_258 : decode cX17_step 258 = .ok (.ifCond .ne 5, 3) := by decide +kernel
theorem dr_cX17_step_263 : decode cX17_step 263 = .ok (.aload_n 0, 1) := by decide +kernel
theorem dr_cX17_step_264 : decode cX17_step 264 = .ok (.getfield 271, 3) := by decide +kernel
theorem dr_cX17_step_267 : decode cX17_step 267 = .ok (.aload_n 1, 1) := by decide +kernel
theorem dr_cX17_step_268 : decode cX17_step 268 = .ok (.getfield 52, 3) := by decide +kernel
theorem dr_cX17_step_271 : decode cX17_step 271 = .ok (.lload_n 2, 1) := by decide +kernel
theorem dr_cX17_step_272 : decode cX17_step 272 = .ok (.l2i, 1) := by decide +kernel
theorem dr_cX17_step_273 : decode cX17_step 273 = .ok (.iastore, 1) := by decide +kernel
theorem dr_cX17_step_274 : decode cX17_step 274 = .ok (.iconst (-1), 1) := by decide +kernel
theorem dr_cX17_step_275 : decode cX17_step 275 = .ok (.ireturn, 1) := by decide +kernel
theorem dr_cX17_step_261 : decode cX17_step 261 = .ok (.iconst 1, 1) := by decide +kernel
theorem dr_cX17_step_262 : decode cX17_step 262 = .ok (.ireturn, 1) := by decide +kernel
theorem dr_cX17_no_0 : decode cX17_no 0 = .ok (.aload_n 0, 1) := by decide +kernel
theorem dr_cX17_no_1 : decode cX17_no 1 = .ok (.iload_n 1, 1) := by decide +kernel
theorem dr_cX17_no_2 : decode cX17_no 2 = .ok (.putfield 380, 3) := by decide +kernel
theorem wr_7_104 : (Jvm.Cond.fieldLink "SpillForgeModel" (380 : Nat) "SpillForgeModel" "thrown" "I") ∈ gw := gw_7 104 rfl rfl
theorem dr_cX17_no_5 : decode cX17_no 5 = .ok (.iconst 0, 1) := by decide +kernel
theorem dr_cX17_no_6 : decode cX17_no 6 = .ok (.ireturn, 1) := by decide +kernel
theorem dr_cX17_told_0 : decode cX17_told 0 = .ok (.aload_n 0, 1) := by decide +kernel
theorem dr_cX17_told_1 : decode cX17_told 1 = .ok (.iconst 0, 1) := by decide +kernel
theorem dr_cX17_told_2 : decode cX17_told 2 = .ok (.putfield 380, 3) := by decide +kernel
theorem dr_cX17_told_5 : decode cX17_told 5 = .ok (.iload_n 1, 1) := by decide +kernel
theorem dr_cX17_told_6 : decode cX17_told 6 = .ok (.tableswitch 70 0 4 #[34, 50, 55, 60, 65], 34) := by decide +kernel
theorem dr_cX17_told_40 : decode cX17_told 40 = .ok (.aload_n 0, 1) := by decide +kernel
theorem dr_cX17_told_41 : decode cX17_told 41 = .ok (.getfield 371, 3) := by decide +kernel
theorem wr_7_97 : (Jvm.Cond.fieldLink "SpillForgeModel" (371 : Nat) "SpillForgeModel" "ended" "I") ∈ gw := gw_7 97 rfl rfl
theorem dr_cX17_told_44 : decode cX17_told 44 = .ok (.ifCond .ne 10, 3) := by decide +kernel
theorem dr_cX17_told_54 : decode cX17_told 54 = .ok (.iconst 0, 1) := by decide +kernel
theorem dr_cX17_told_55 : decode cX17_told 55 = .ok (.ireturn, 1) := by decide +kernel
theorem dr_cX17_told_47 : decode cX17_told 47 = .ok (.aload_n 0, 1) := by decide +kernel
theorem dr_cX17_told_48 : decode cX17_told 48 = .ok (.getfield 277, 3) := by decide +kernel
theorem wr_7_98 : (Jvm.Cond.fieldLink "SpillForgeModel" (277 : Nat) "SpillForgeModel" "answer" "I") ∈ gw := gw_7 98 rfl rfl
theorem dr_cX17_told_51 : decode cX17_told 51 = .ok (.goto 4, 3) := by decide +kernel
theorem dr_cX17_told_56 : decode cX17_told 56 = .ok (.aload_n 0, 1) := by decide +kernel
theorem dr_cX17_told_57 : decode cX17_told 57 = .ok (.getfield 280, 3) := by decide +kernel
theorem dr_cX17_told_60 : decode cX17_told 60 = .ok (.ireturn, 1) := by decide +kernel
theorem dr_cX17_told_61 : decode cX17_told 61 = .ok (.aload_n 0, 1) := by decide +kernel
theorem dr_cX17_told_62 : decode cX17_told 62 = .ok (.getfield 283, 3) := by decide +kernel
theorem wr_7_100 : (Jvm.Cond.fieldLink "SpillForgeModel" (283 : Nat) "SpillForgeModel" "steps" "I") ∈ gw := gw_7 100 rfl rfl
theorem dr_cX17_told_65 : decode cX17_told 65 = .ok (.ireturn, 1) := by decide +kernel
theorem dr_cX17_told_66 : decode cX17_told 66 = .ok (.aload_n 0, 1) := by decide +kernel
theorem dr_cX17_told_67 : decode cX17_told 67 = .ok (.getfield 286, 3) := by decide +kernel
theorem dr_cX17_told_70 : decode cX17_told 70 = .ok (.ireturn, 1) := by decide +kernel
theorem dr_cX17_told_71 : decode cX17_told 71 = .ok (.aload_n 0, 1) := by decide +kernel
theorem dr_cX17_told_72 : decode cX17_told 72 = .ok (.getfield 371, 3) := by decide +kernel
theorem dr_cX17_told_75 : decode cX17_told 75 = .ok (.ireturn, 1) := by decide +kernel
theorem dr_cX17_told_76 : decode cX17_told 76 = .ok (.aload_n 0, 1) := by decide +kernel
theorem dr_cX17_told_77 : decode cX17_told 77 = .ok (.iconst 1, 1) := by decide +kernel
theorem dr_cX17_told_78 : decode cX17_told 78 = .ok (.invokevirtual 385, 3) := by decide +kernel
theorem wr_7_191 : (Jvm.Cond.methodLink "SpillForgeModel" (385 : Nat) ({ cls := "SpillForgeModel", name := "no", desc := "(I)I" } : Jvm.MethodName)) ∈ gw := gw_7 191 rfl rfl
theorem wr_7_194 : (Jvm.Cond.code ({ cls := "SpillForgeModel", name := "no", desc := "(I)I" } : Jvm.MethodName) prog_14_method_37_code (2 : Nat) (Option.some Jvm.ClassFile.FieldType.int)) ∈ gw := gw_7 194 rfl rfl
theorem wr_7_193 : (Jvm.Cond.instanceMethod ({ cls := "SpillForgeModel", name := "no", desc := "(I)I" } : Jvm.MethodName)) ∈ gw := gw_7 193 rfl rfl
theorem wr_p_73 : Cond.selects "SpillForgeModel" ⟨"SpillForgeModel", "no", "(I)I"⟩ ⟨"SpillForgeModel", "no", "(I)I"⟩ ∈ gw := gw_p _ 73 rfl rfl rfl
theorem dr_cX17_told_81 : decode cX17_told 81 = .ok (.ireturn, 1) := by decide +kernel
end
section
theorem dr_cX17_shown_0 : decode cX17_shown 0 = .ok (.aload_n 0, 1) := by decide +kernel
theorem dr_cX17_shown_1 : decode cX17_shown 1 = .ok (.iconst 0, 1) := by decide +kernel
theorem dr_cX17_shown_2 : decode cX17_shown 2 = .ok (.putfield 380, 3) := by decide +kernel
theorem dr_cX17_shown_5 : decode cX17_shown 5 = .ok (.iload_n 1, 1) := by decide +kernel
theorem dr_cX17_shown_6 : decode cX17_shown 6 = .ok (.ifCond .lt 20, 3) := by decide +kernel
theorem dr_cX17_shown_26 : decode cX17_shown 26 = .ok (.aload_n 0, 1) := by decide +kernel
theorem dr_cX17_shown_27 : decode cX17_shown 27 = .ok (.iconst 1, 1) := by decide +kernel
theorem dr_cX17_shown_28 : decode cX17_shown 28 = .ok (.invokevirtual 385, 3) := by decide +kernel
theorem dr_cX17_shown_31 : decode cX17_shown 31 = .ok (.ireturn, 1) := by decide +kernel
theorem dr_cX17_shown_9 : decode cX17_shown 9 = .ok (.iload_n 1, 1) := by decide +kernel
theorem dr_cX17_shown_10 : decode cX17_shown 10 = .ok (.aload_n 0, 1) := by decide +kernel
theorem dr_cX17_shown_11 : decode cX17_shown 11 = .ok (.getfield 280, 3) := by decide +kernel
theorem dr_cX17_shown_14 : decode cX17_shown 14 = .ok (.if_icmp .ge 12, 3) := by decide +kernel
theorem dr_cX17_shown_17 : decode cX17_shown 17 = .ok (.aload_n 0, 1) := by decide +kernel
theorem dr_cX17_shown_18 : decode cX17_shown 18 = .ok (.getfield 306, 3) := by decide +kernel
theorem dr_cX17_shown_21 : decode cX17_shown 21 = .ok (.iload_n 1, 1) := by decide +kernel
theorem dr_cX17_shown_22 : decode cX17_shown 22 = .ok (.iaload, 1) := by decide +kernel
theorem dr_cX17_shown_23 : decode cX17_shown 23 = .ok (.goto 8, 3) := by decide +kernel
theorem dr_cX17_thrown_0 : decode cX17_thrown 0 = .ok (.aload_n 0, 1) := by decide +kernel
theorem dr_cX17_thrown_1 : decode cX17_thrown 1 = .ok (.getfield 380, 3) := by decide +kernel
theorem dr_cX17_thrown_4 : decode cX17_thrown 4 = .ok (.ireturn, 1) := by decide +kernel
theorem dr_cX17_word_0 : decode cX17_word 0 = .ok (.iconst 0, 1) := by decide +kernel
theorem dr_cX17_word_1 : decode cX17_word 1 = .ok (.istore_n 3, 1) := by decide +kernel
theorem dr_cX17_word_2 : decode cX17_word 2 = .ok (.iload_n 3, 1) := by decide +kernel
theorem dr_cX17_word_3 : decode cX17_word 3 = .ok (.iconst 4, 1) := by decide +kernel
theorem dr_cX17_word_4 : decode cX17_word 4 = .ok (.if_icmp .ge 27, 3) := by decide +kernel
theorem dr_cX17_word_31 : decode cX17_word 31 = .ok (.return_, 1) := by decide +kernel
theorem dr_cX17_word_7 : decode cX17_word 7 = .ok (.aload_n 0, 1) := by decide +kernel
theorem dr_cX17_word_8 : decode cX17_word 8 = .ok (.getfield 374, 3) := by decide +kernel
theorem wr_7_105 : (Jvm.Cond.fieldLink "SpillForgeModel" (374 : Nat) "SpillForgeModel" "tape" "[B") ∈ gw := gw_7 105 rfl rfl
theorem dr_cX17_word_11 : decode cX17_word 11 = .ok (.iload_n 2, 1) := by decide +kernel
theorem dr_cX17_word_12 : decode cX17_word 12 = .ok (.iload_n 3, 1) := by decide +kernel
theorem dr_cX17_word_13 : decode cX17_word 13 = .ok (.iadd, 1) := by decide +kernel
theorem dr_cX17_word_14 : decode cX17_word 14 = .ok (.iload_n 1, 1) := by decide +kernel
theorem dr_cX17_word_15 : decode cX17_word 15 = .ok (.bipush 24, 2) := by decide +kernel
theorem dr_cX17_word_17 : decode cX17_word 17 = .ok (.bipush 8, 2) := by decide +kernel
theorem dr_cX17_word_19 : decode cX17_word 19 = .ok (.iload_n 3, 1) := by decide +kernel
theorem dr_cX17_word_20 : decode cX17_word 20 = .ok (.imul, 1) := by decide +kernel
theorem dr_cX17_word_21 : decode cX17_word 21 = .ok (.isub, 1) := by decide +kernel
theorem dr_cX17_word_22 : decode cX17_word 22 = .ok (.ishr, 1) := by decide +kernel
theorem dr_cX17_word_23 : decode cX17_word 23 = .ok (.i2b, 1) := by decide +kernel
theorem dr_cX17_word_24 : decode cX17_word 24 = .ok (.bastore, 1) := by decide +kernel
theorem dr_cX17_word_25 : decode cX17_word 25 = .ok (.iinc 3 1, 3) := by decide +kernel
theorem dr_cX17_word_28 : decode cX17_word 28 = .ok (.goto (-26), 3) := by decide +kernel
theorem dr_cX17_feed_0 : decode cX17_feed 0 = .ok (.aload_n 0, 1) := by decide +kernel
theorem dr_cX17_feed_1 : decode cX17_feed 1 = .ok (.iconst 0, 1) := by decide +kernel
theorem dr_cX17_feed_2 : decode cX17_feed 2 = .ok (.putfield 380, 3) := by decide +kernel
theorem dr_cX17_feed_5 : decode cX17_feed 5 = .ok (.aload_n 0, 1) := by decide +kernel
theorem dr_cX17_feed_6 : decode cX17_feed 6 = .ok (.getfield 383, 3) := by decide +kernel
theorem wr_7_106 : (Jvm.Cond.fieldLink "SpillForgeModel" (383 : Nat) "SpillForgeModel" "size" "I") ∈ gw := gw_7 106 rfl rfl
theorem dr_cX17_feed_9 : decode cX17_feed 9 = .ok (.bipush 20, 2) := by decide +kernel
theorem dr_cX17_feed_11 : decode cX17_feed 11 = .ok (.iadd, 1) := by decide +kernel
theorem dr_cX17_feed_12 : decode cX17_feed 12 = .ok (.sipush 8192, 3) := by decide +kernel
theorem dr_cX17_feed_15 : decode cX17_feed 15 = .ok (.if_icmp .le 9, 3) := by decide +kernel
theorem dr_cX17_feed_24 : decode cX17_feed 24 = .ok (.aload_n 0, 1) := by decide +kernel
theorem dr_cX17_feed_25 : decode cX17_feed 25 = .ok (.iload_n 1, 1) := by decide +kernel
theorem dr_cX17_feed_26 : decode cX17_feed 26 = .ok (.aload_n 0, 1) := by decide +kernel
theorem dr_cX17_feed_27 : decode cX17_feed 27 = .ok (.getfield 383, 3) := by decide +kernel
theorem dr_cX17_feed_30 : decode cX17_feed 30 = .ok (.invokevirtual 388, 3) := by decide +kernel
theorem wr_7_195 : (Jvm.Cond.methodLink "SpillForgeModel" (388 : Nat) ({ cls := "SpillForgeModel", name := "word", desc := "(II)V" } : Jvm.MethodName)) ∈ gw := gw_7 195 rfl rfl
theorem wr_7_198 : (Jvm.Cond.code ({ cls := "SpillForgeModel", name := "word", desc := "(II)V" } : Jvm.MethodName) prog_14_method_39_code (4 : Nat) (Option.none : Option Jvm.ClassFile.FieldType)) ∈ gw := gw_7 198 rfl rfl
theorem wr_7_197 : (Jvm.Cond.instanceMethod ({ cls := "SpillForgeModel", name := "word", desc := "(II)V" } : Jvm.MethodName)) ∈ gw := gw_7 197 rfl rfl
theorem wr_p_74 : Cond.selects "SpillForgeModel" ⟨"SpillForgeModel", "word", "(II)V"⟩ ⟨"SpillForgeModel", "word", "(II)V"⟩ ∈ gw := gw_p _ 74 rfl rfl rfl
theorem dr_cX17_feed_33 : decode cX17_feed 33 = .ok (.aload_n 0, 1) := by decide +kernel
theorem dr_cX17_feed_34 : decode cX17_feed 34 = .ok (.iload_n 2, 1) := by decide +kernel
theorem dr_cX17_feed_35 : decode cX17_feed 35 = .ok (.aload_n 0, 1) := by decide +kernel
theorem dr_cX17_feed_36 : decode cX17_feed 36 = .ok (.getfield 383, 3) := by decide +kernel
theorem dr_cX17_feed_39 : decode cX17_feed 39 = .ok (.iconst 4, 1) := by decide +kernel
theorem dr_cX17_feed_40 : decode cX17_feed 40 = .ok (.iadd, 1) := by decide +kernel
theorem dr_cX17_feed_41 : decode cX17_feed 41 = .ok (.invokevirtual 388, 3) := by decide +kernel
theorem dr_cX17_feed_44 : decode cX17_feed 44 = .ok (.aload_n 0, 1) := by decide +kernel
theorem dr_cX17_feed_45 : decode cX17_feed 45 = .ok (.iload_n 3, 1) := by decide +kernel
theorem dr_cX17_feed_46 : decode cX17_feed 46 = .ok (.aload_n 0, 1) := by decide +kernel
theorem dr_cX17_feed_47 : decode cX17_feed 47 = .ok (.getfield 383, 3) := by decide +kernel
theorem dr_cX17_feed_50 : decode cX17_feed 50 = .ok (.bipush 8, 2) := by decide +kernel
theorem dr_cX17_feed_52 : decode cX17_feed 52 = .ok (.iadd, 1) := by decide +kernel
theorem dr_cX17_feed_53 : decode cX17_feed 53 = .ok (.invokevirtual 388, 3) := by decide +kernel
theorem dr_cX17_feed_56 : decode cX17_feed 56 = .ok (.aload_n 0, 1) := by decide +kernel
theorem dr_cX17_feed_57 : decode cX17_feed 57 = .ok (.iload 4, 2) := by decide +kernel
theorem dr_cX17_feed_59 : decode cX17_feed 59 = .ok (.aload_n 0, 1) := by decide +kernel
theorem dr_cX17_feed_60 : decode cX17_feed 60 = .ok (.getfield 383, 3) := by decide +kernel
theorem dr_cX17_feed_63 : decode cX17_feed 63 = .ok (.bipush 12, 2) := by decide +kernel
theorem dr_cX17_feed_65 : decode cX17_feed 65 = .ok (.iadd, 1) := by decide +kernel
theorem dr_cX17_feed_66 : decode cX17_feed 66 = .ok (.invokevirtual 388, 3) := by decide +kernel
theorem dr_cX17_feed_69 : decode cX17_feed 69 = .ok (.aload_n 0, 1) := by decide +kernel
theorem dr_cX17_feed_70 : decode cX17_feed 70 = .ok (.iload 5, 2) := by decide +kernel
theorem dr_cX17_feed_72 : decode cX17_feed 72 = .ok (.aload_n 0, 1) := by decide +kernel
theorem dr_cX17_feed_73 : decode cX17_feed 73 = .ok (.getfield 383, 3) := by decide +kernel
theorem dr_cX17_feed_76 : decode cX17_feed 76 = .ok (.bipush 16, 2) := by decide +kernel
theorem dr_cX17_feed_78 : decode cX17_feed 78 = .ok (.iadd, 1) := by decide +kernel
theorem dr_cX17_feed_79 : decode cX17_feed 79 = .ok (.invokevirtual 388, 3) := by decide +kernel
theorem dr_cX17_feed_82 : decode cX17_feed 82 = .ok (.aload_n 0, 1) := by decide +kernel
theorem dr_cX17_feed_83 : decode cX17_feed 83 = .ok (.dup, 1) := by decide +kernel
theorem dr_cX17_feed_84 : decode cX17_feed 84 = .ok (.getfield 383, 3) := by decide +kernel
theorem dr_cX17_feed_87 : decode cX17_feed 87 = .ok (.bipush 20, 2) := by decide +kernel
theorem dr_cX17_feed_89 : decode cX17_feed 89 = .ok (.iadd, 1) := by decide +kernel
theorem dr_cX17_feed_90 : decode cX17_feed 90 = .ok (.putfield 383, 3) := by decide +kernel
theorem dr_cX17_feed_93 : decode cX17_feed 93 = .ok (.aload_n 0, 1) := by decide +kernel
theorem dr_cX17_feed_94 : decode cX17_feed 94 = .ok (.getfield 383, 3) := by decide +kernel
theorem dr_cX17_feed_97 : decode cX17_feed 97 = .ok (.ireturn, 1) := by decide +kernel
theorem dr_cX17_feed_18 : decode cX17_feed 18 = .ok (.aload_n 0, 1) := by decide +kernel
theorem dr_cX17_feed_19 : decode cX17_feed 19 = .ok (.iconst 1, 1) := by decide +kernel
theorem dr_cX17_feed_20 : decode cX17_feed 20 = .ok (.invokevirtual 385, 3) := by decide +kernel
theorem dr_cX17_feed_23 : decode cX17_feed 23 = .ok (.ireturn, 1) := by decide +kernel
theorem dr_cX17_end_0 : decode cX17_end 0 = .ok (.aload_n 0, 1) := by decide +kernel
theorem dr_cX17_end_1 : decode cX17_end 1 = .ok (.iconst 0, 1) := by decide +kernel
theorem dr_cX17_end_2 : decode cX17_end 2 = .ok (.putfield 380, 3) := by decide +kernel
theorem dr_cX17_end_5 : decode cX17_end 5 = .ok (.iload_n 1, 1) := by decide +kernel
theorem dr_cX17_end_6 : decode cX17_end 6 = .ok (.ifCond .lt 11, 3) := by decide +kernel
theorem dr_cX17_end_17 : decode cX17_end 17 = .ok (.aload_n 0, 1) := by decide +kernel
theorem dr_cX17_end_18 : decode cX17_end 18 = .ok (.iconst 1, 1) := by decide +kernel
theorem dr_cX17_end_19 : decode cX17_end 19 = .ok (.invokevirtual 385, 3) := by decide +kernel
theorem dr_cX17_end_22 : decode cX17_end 22 = .ok (.ireturn, 1) := by decide +kernel
theorem dr_cX17_end_9 : decode cX17_end 9 = .ok (.iload_n 1, 1) := by decide +kernel
theorem dr_cX17_end_10 : decode cX17_end 10 = .ok (.aload_n 0, 1) := by decide +kernel
theorem dr_cX17_end_11 : decode cX17_end 11 = .ok (.getfield 383, 3) := by decide +kernel
theorem dr_cX17_end_14 : decode cX17_end 14 = .ok (.if_icmp .le 9, 3) := by decide +kernel
theorem dr_cX17_end_23 : decode cX17_end 23 = .ok (.aload_n 0, 1) := by decide +kernel
theorem dr_cX17_end_24 : decode cX17_end 24 = .ok (.iload_n 1, 1) := by decide +kernel
theorem dr_cX17_end_25 : decode cX17_end 25 = .ok (.putfield 383, 3) := by decide +kernel
theorem dr_cX17_end_28 : decode cX17_end 28 = .ok (.iload_n 1, 1) := by decide +kernel
theorem dr_cX17_end_29 : decode cX17_end 29 = .ok (.ireturn, 1) := by decide +kernel
end
section
theorem dr_cX17_run_0 : decode cX17_run 0 = .ok (.iconst 0, 1) := by decide +kernel
theorem dr_cX17_run_1 : decode cX17_run 1 = .ok (.istore_n 3, 1) := by decide +kernel
theorem dr_cX17_run_2 : decode cX17_run 2 = .ok (.iload_n 3, 1) := by decide +kernel
theorem dr_cX17_run_3 : decode cX17_run 3 = .ok (.sipush 2000, 3) := by decide +kernel
theorem dr_cX17_run_6 : decode cX17_run 6 = .ok (.if_icmp .ge 23, 3) := by decide +kernel
theorem dr_cX17_run_29 : decode cX17_run 29 = .ok (.aload_n 0, 1) := by decide +kernel
theorem dr_cX17_run_30 : decode cX17_run 30 = .ok (.iconst 0, 1) := by decide +kernel
theorem dr_cX17_run_31 : decode cX17_run 31 = .ok (.putfield 277, 3) := by decide +kernel
theorem dr_cX17_run_34 : decode cX17_run 34 = .ok (.aload_n 0, 1) := by decide +kernel
theorem dr_cX17_run_35 : decode cX17_run 35 = .ok (.iconst 0, 1) := by decide +kernel
theorem dr_cX17_run_36 : decode cX17_run 36 = .ok (.putfield 280, 3) := by decide +kernel
theorem dr_cX17_run_39 : decode cX17_run 39 = .ok (.aload_n 0, 1) := by decide +kernel
theorem dr_cX17_run_40 : decode cX17_run 40 = .ok (.iconst 0, 1) := by decide +kernel
theorem dr_cX17_run_41 : decode cX17_run 41 = .ok (.putfield 283, 3) := by decide +kernel
theorem dr_cX17_run_44 : decode cX17_run 44 = .ok (.aload_n 0, 1) := by decide +kernel
theorem dr_cX17_run_45 : decode cX17_run 45 = .ok (.iconst 0, 1) := by decide +kernel
theorem dr_cX17_run_46 : decode cX17_run 46 = .ok (.putfield 286, 3) := by decide +kernel
theorem dr_cX17_run_49 : decode cX17_run 49 = .ok (.iconst 0, 1) := by decide +kernel
theorem dr_cX17_run_50 : decode cX17_run 50 = .ok (.istore_n 3, 1) := by decide +kernel
theorem dr_cX17_run_51 : decode cX17_run 51 = .ok (.iconst 0, 1) := by decide +kernel
theorem dr_cX17_run_52 : decode cX17_run 52 = .ok (.istore 4, 2) := by decide +kernel
theorem dr_cX17_run_54 : decode cX17_run 54 = .ok (.aload_n 1, 1) := by decide +kernel
theorem dr_cX17_run_55 : decode cX17_run 55 = .ok (.iload_n 3, 1) := by decide +kernel
theorem dr_cX17_run_56 : decode cX17_run 56 = .ok (.invokevirtual 101, 3) := by decide +kernel
theorem dr_cX17_run_59 : decode cX17_run 59 = .ok (.astore 5, 2) := by decide +kernel
theorem dr_cX17_run_61 : decode cX17_run 61 = .ok (.aload_n 0, 1) := by decide +kernel
theorem dr_cX17_run_62 : decode cX17_run 62 = .ok (.getfield 283, 3) := by decide +kernel
theorem dr_cX17_run_65 : decode cX17_run 65 = .ok (.iload_n 2, 1) := by decide +kernel
theorem dr_cX17_run_66 : decode cX17_run 66 = .ok (.if_icmp .ne 5, 3) := by decide +kernel
theorem dr_cX17_run_71 : decode cX17_run 71 = .ok (.aload_n 0, 1) := by decide +kernel
theorem dr_cX17_run_72 : decode cX17_run 72 = .ok (.dup, 1) := by decide +kernel
theorem dr_cX17_run_73 : decode cX17_run 73 = .ok (.getfield 283, 3) := by decide +kernel
theorem dr_cX17_run_76 : decode cX17_run 76 = .ok (.iconst 1, 1) := by decide +kernel
theorem dr_cX17_run_77 : decode cX17_run 77 = .ok (.iadd, 1) := by decide +kernel
theorem dr_cX17_run_78 : decode cX17_run 78 = .ok (.putfield 283, 3) := by decide +kernel
theorem dr_cX17_run_81 : decode cX17_run 81 = .ok (.iload 4, 2) := by decide +kernel
theorem dr_cX17_run_83 : decode cX17_run 83 = .ok (.aload 5, 2) := by decide +kernel
theorem dr_cX17_run_85 : decode cX17_run 85 = .ok (.getfield 117, 3) := by decide +kernel
theorem wr_9_220 : (Jvm.Cond.fieldLink "SpillForgeModel" (117 : Nat) "SpillForgeModel$Block" "rows" "Ljava/util/ArrayList;") ∈ gw := gw_9 220 rfl rfl
theorem dr_cX17_run_88 : decode cX17_run 88 = .ok (.invokevirtual 121, 3) := by decide +kernel
theorem wr_10_200 : (Jvm.Cond.methodLink "SpillForgeModel" (121 : Nat) ({ cls := "java/util/ArrayList", name := "size", desc := "()I" } : Jvm.MethodName)) ∈ gw := gw_10 200 rfl rfl
theorem dr_cX17_run_91 : decode cX17_run 91 = .ok (.if_icmp .ge 36, 3) := by decide +kernel
theorem dr_cX17_run_127 : decode cX17_run 127 = .ok (.aload 5, 2) := by decide +kernel
theorem dr_cX17_run_129 : decode cX17_run 129 = .ok (.getfield 109, 3) := by decide +kernel
theorem wr_9_223 : (Jvm.Cond.fieldLink "SpillForgeModel" (109 : Nat) "SpillForgeModel$Block" "end" "LSpillForgeModel$Row;") ∈ gw := gw_9 223 rfl rfl
theorem dr_cX17_run_132 : decode cX17_run 132 = .ok (.astore 6, 2) := by decide +kernel
theorem dr_cX17_run_134 : decode cX17_run 134 = .ok (.aload 6, 2) := by decide +kernel
theorem dr_cX17_run_136 : decode cX17_run 136 = .ok (.getfield 39, 3) := by decide +kernel
theorem dr_cX17_run_139 : decode cX17_run 139 = .ok (.bipush 32, 2) := by decide +kernel
theorem dr_cX17_run_141 : decode cX17_run 141 = .ok (.if_icmp .ne 23, 3) := by decide +kernel
theorem dr_cX17_run_164 : decode cX17_run 164 = .ok (.aload 6, 2) := by decide +kernel
theorem dr_cX17_run_166 : decode cX17_run 166 = .ok (.getfield 39, 3) := by decide +kernel
theorem dr_cX17_run_169 : decode cX17_run 169 = .ok (.bipush 30, 2) := by decide +kernel
theorem dr_cX17_run_171 : decode cX17_run 171 = .ok (.if_icmp .eq 20, 3) := by decide +kernel
theorem dr_cX17_run_191 : decode cX17_run 191 = .ok (.aload 5, 2) := by decide +kernel
theorem dr_cX17_run_193 : decode cX17_run 193 = .ok (.getfield 297, 3) := by decide +kernel
theorem wr_9_229 : (Jvm.Cond.fieldLink "SpillForgeModel" (297 : Nat) "SpillForgeModel$Block" "first" "I") ∈ gw := gw_9 229 rfl rfl
theorem dr_cX17_run_196 : decode cX17_run 196 = .ok (.goto 8, 3) := by decide +kernel
theorem dr_cX17_run_204 : decode cX17_run 204 = .ok (.istore_n 3, 1) := by decide +kernel
theorem dr_cX17_run_205 : decode cX17_run 205 = .ok (.iconst 0, 1) := by decide +kernel
theorem dr_cX17_run_206 : decode cX17_run 206 = .ok (.istore 4, 2) := by decide +kernel
theorem dr_cX17_run_208 : decode cX17_run 208 = .ok (.goto (-154), 3) := by decide +kernel
theorem dr_cX17_run_174 : decode cX17_run 174 = .ok (.aload_n 0, 1) := by decide +kernel
theorem dr_cX17_run_175 : decode cX17_run 175 = .ok (.aload 6, 2) := by decide +kernel
theorem dr_cX17_run_177 : decode cX17_run 177 = .ok (.getfield 141, 3) := by decide +kernel
theorem dr_cX17_run_180 : decode cX17_run 180 = .ok (.aload 6, 2) := by decide +kernel
theorem dr_cX17_run_182 : decode cX17_run 182 = .ok (.getfield 73, 3) := by decide +kernel
theorem dr_cX17_run_185 : decode cX17_run 185 = .ok (.invokevirtual 293, 3) := by decide +kernel
theorem dr_cX17_run_188 : decode cX17_run 188 = .ok (.ifCond .eq 11, 3) := by decide +kernel
theorem dr_cX17_run_199 : decode cX17_run 199 = .ok (.aload 5, 2) := by decide +kernel
theorem dr_cX17_run_201 : decode cX17_run 201 = .ok (.getfield 300, 3) := by decide +kernel
theorem wr_9_233 : (Jvm.Cond.fieldLink "SpillForgeModel" (300 : Nat) "SpillForgeModel$Block" "second" "I") ∈ gw := gw_9 233 rfl rfl
theorem dr_cX17_run_144 : decode cX17_run 144 = .ok (.aload_n 0, 1) := by decide +kernel
theorem dr_cX17_run_145 : decode cX17_run 145 = .ok (.aload_n 0, 1) := by decide +kernel
theorem dr_cX17_run_146 : decode cX17_run 146 = .ok (.aload 6, 2) := by decide +kernel
theorem dr_cX17_run_148 : decode cX17_run 148 = .ok (.getfield 141, 3) := by decide +kernel
theorem dr_cX17_run_151 : decode cX17_run 151 = .ok (.aload 6, 2) := by decide +kernel
theorem dr_cX17_run_153 : decode cX17_run 153 = .ok (.getfield 73, 3) := by decide +kernel
theorem dr_cX17_run_156 : decode cX17_run 156 = .ok (.invokevirtual 293, 3) := by decide +kernel
theorem dr_cX17_run_159 : decode cX17_run 159 = .ok (.putfield 277, 3) := by decide +kernel
theorem dr_cX17_run_162 : decode cX17_run 162 = .ok (.iconst 0, 1) := by decide +kernel
theorem dr_cX17_run_163 : decode cX17_run 163 = .ok (.ireturn, 1) := by decide +kernel
theorem dr_cX17_run_94 : decode cX17_run 94 = .ok (.aload_n 0, 1) := by decide +kernel
theorem dr_cX17_run_95 : decode cX17_run 95 = .ok (.aload 5, 2) := by decide +kernel
theorem dr_cX17_run_97 : decode cX17_run 97 = .ok (.getfield 117, 3) := by decide +kernel
theorem dr_cX17_run_100 : decode cX17_run 100 = .ok (.iload 4, 2) := by decide +kernel
theorem dr_cX17_run_102 : decode cX17_run 102 = .ok (.invokevirtual 124, 3) := by decide +kernel
theorem wr_10_201 : (Jvm.Cond.methodLink "SpillForgeModel" (124 : Nat) ({ cls := "java/util/ArrayList", name := "get", desc := "(I)Ljava/lang/Object;" } : Jvm.MethodName)) ∈ gw := gw_10 201 rfl rfl
theorem dr_cX17_run_105 : decode cX17_run 105 = .ok (.checkcast 40, 3) := by decide +kernel
theorem wr_10_202 : (Jvm.Cond.classLink "SpillForgeModel" (40 : Nat) "SpillForgeModel$Row") ∈ gw := gw_10 202 rfl rfl
theorem dr_cX17_run_108 : decode cX17_run 108 = .ok (.invokevirtual 289, 3) := by decide +kernel
theorem wr_11_96 : (Jvm.Cond.methodLink "SpillForgeModel" (289 : Nat) ({ cls := "SpillForgeModel", name := "step", desc := "(LSpillForgeModel$Row;)I" } : Jvm.MethodName)) ∈ gw := gw_11 96 rfl rfl
theorem wr_11_99 : (Jvm.Cond.code ({ cls := "SpillForgeModel", name := "step", desc := "(LSpillForgeModel$Row;)I" } : Jvm.MethodName) prog_14_method_30_code (4 : Nat) (Option.some Jvm.ClassFile.FieldType.int)) ∈ gw := gw_11 99 rfl rfl
theorem wr_11_98 : (Jvm.Cond.instanceMethod ({ cls := "SpillForgeModel", name := "step", desc := "(LSpillForgeModel$Row;)I" } : Jvm.MethodName)) ∈ gw := gw_11 98 rfl rfl
theorem wr_p_114 : Cond.selects "SpillForgeModel" ⟨"SpillForgeModel", "step", "(LSpillForgeModel$Row;)I"⟩ ⟨"SpillForgeModel", "step", "(LSpillForgeModel$Row;)I"⟩ ∈ gw := gw_p _ 114 rfl rfl rfl
theorem dr_cX17_run_111 : decode cX17_run 111 = .ok (.istore 6, 2) := by decide +kernel
theorem dr_cX17_run_113 : decode cX17_run 113 = .ok (.iload 6, 2) := by decide +kernel
theorem dr_cX17_run_115 : decode cX17_run 115 = .ok (.ifCond .lt 6, 3) := by decide +kernel
theorem dr_cX17_run_121 : decode cX17_run 121 = .ok (.iinc 4 1, 3) := by decide +kernel
theorem dr_cX17_run_124 : decode cX17_run 124 = .ok (.goto (-70), 3) := by decide +kernel
theorem dr_cX17_run_118 : decode cX17_run 118 = .ok (.iload 6, 2) := by decide +kernel
theorem dr_cX17_run_120 : decode cX17_run 120 = .ok (.ireturn, 1) := by decide +kernel
theorem dr_cX17_run_69 : decode cX17_run 69 = .ok (.iconst 4, 1) := by decide +kernel
theorem dr_cX17_run_70 : decode cX17_run 70 = .ok (.ireturn, 1) := by decide +kernel
theorem dr_cX17_run_9 : decode cX17_run 9 = .ok (.aload_n 0, 1) := by decide +kernel
theorem dr_cX17_run_10 : decode cX17_run 10 = .ok (.getfield 271, 3) := by decide +kernel
theorem dr_cX17_run_13 : decode cX17_run 13 = .ok (.iload_n 3, 1) := by decide +kernel
theorem dr_cX17_run_14 : decode cX17_run 14 = .ok (.iconst 0, 1) := by decide +kernel
theorem dr_cX17_run_15 : decode cX17_run 15 = .ok (.iastore, 1) := by decide +kernel
theorem dr_cX17_run_16 : decode cX17_run 16 = .ok (.aload_n 0, 1) := by decide +kernel
theorem dr_cX17_run_17 : decode cX17_run 17 = .ok (.getfield 274, 3) := by decide +kernel
theorem dr_cX17_run_20 : decode cX17_run 20 = .ok (.iload_n 3, 1) := by decide +kernel
theorem dr_cX17_run_21 : decode cX17_run 21 = .ok (.iconst 0, 1) := by decide +kernel
theorem dr_cX17_run_22 : decode cX17_run 22 = .ok (.iastore, 1) := by decide +kernel
theorem dr_cX17_run_23 : decode cX17_run 23 = .ok (.iinc 3 1, 3) := by decide +kernel
theorem dr_cX17_run_26 : decode cX17_run 26 = .ok (.goto (-24), 3) := by decide +kernel
theorem dr_cX17_rename_0 : decode cX17_rename 0 = .ok (.iconst 0, 1) := by decide +kernel
theorem dr_cX17_rename_1 : decode cX17_rename 1 = .ok (.istore_n 3, 1) := by decide +kernel
theorem dr_cX17_rename_2 : decode cX17_rename 2 = .ok (.iload_n 3, 1) := by decide +kernel
theorem dr_cX17_rename_3 : decode cX17_rename 3 = .ok (.aload_n 0, 1) := by decide +kernel
theorem dr_cX17_rename_4 : decode cX17_rename 4 = .ok (.invokevirtual 96, 3) := by decide +kernel
theorem dr_cX17_rename_7 : decode cX17_rename 7 = .ok (.if_icmp .ge 143, 3) := by decide +kernel
theorem dr_cX17_rename_150 : decode cX17_rename 150 = .ok (.return_, 1) := by decide +kernel
theorem dr_cX17_rename_10 : decode cX17_rename 10 = .ok (.aload_n 0, 1) := by decide +kernel
theorem dr_cX17_rename_11 : decode cX17_rename 11 = .ok (.iload_n 3, 1) := by decide +kernel
theorem dr_cX17_rename_12 : decode cX17_rename 12 = .ok (.invokevirtual 101, 3) := by decide +kernel
theorem dr_cX17_rename_15 : decode cX17_rename 15 = .ok (.astore 4, 2) := by decide +kernel
theorem dr_cX17_rename_17 : decode cX17_rename 17 = .ok (.iconst 0, 1) := by decide +kernel
theorem dr_cX17_rename_18 : decode cX17_rename 18 = .ok (.istore 5, 2) := by decide +kernel
theorem dr_cX17_rename_20 : decode cX17_rename 20 = .ok (.iload 5, 2) := by decide +kernel
theorem dr_cX17_rename_22 : decode cX17_rename 22 = .ok (.aload 4, 2) := by decide +kernel
theorem dr_cX17_rename_24 : decode cX17_rename 24 = .ok (.getfield 117, 3) := by decide +kernel
theorem dr_cX17_rename_27 : decode cX17_rename 27 = .ok (.invokevirtual 121, 3) := by decide +kernel
theorem dr_cX17_rename_30 : decode cX17_rename 30 = .ok (.if_icmp .gt 114, 3) := by decide +kernel
theorem dr_cX17_rename_144 : decode cX17_rename 144 = .ok (.iinc 3 1, 3) := by decide +kernel
theorem dr_cX17_rename_147 : decode cX17_rename 147 = .ok (.goto (-145), 3) := by decide +kernel
theorem dr_cX17_rename_33 : decode cX17_rename 33 = .ok (.iload 5, 2) := by decide +kernel
theorem dr_cX17_rename_35 : decode cX17_rename 35 = .ok (.aload 4, 2) := by decide +kernel
theorem dr_cX17_rename_37 : decode cX17_rename 37 = .ok (.getfield 117, 3) := by decide +kernel
theorem dr_cX17_rename_40 : decode cX17_rename 40 = .ok (.invokevirtual 121, 3) := by decide +kernel
theorem dr_cX17_rename_43 : decode cX17_rename 43 = .ok (.if_icmp .ge 19, 3) := by decide +kernel
theorem dr_cX17_rename_62 : decode cX17_rename 62 = .ok (.aload 4, 2) := by decide +kernel
theorem dr_cX17_rename_64 : decode cX17_rename 64 = .ok (.getfield 109, 3) := by decide +kernel
theorem dr_cX17_rename_67 : decode cX17_rename 67 = .ok (.astore 6, 2) := by decide +kernel
theorem dr_cX17_rename_69 : decode cX17_rename 69 = .ok (.aload 6, 2) := by decide +kernel
theorem dr_cX17_rename_71 : decode cX17_rename 71 = .ok (.invokevirtual 70, 3) := by decide +kernel
theorem dr_cX17_rename_74 : decode cX17_rename 74 = .ok (.ifCond .eq 18, 3) := by decide +kernel
theorem dr_cX17_rename_92 : decode cX17_rename 92 = .ok (.aload 6, 2) := by decide +kernel
theorem dr_cX17_rename_94 : decode cX17_rename 94 = .ok (.invokevirtual 76, 3) := by decide +kernel
theorem dr_cX17_rename_97 : decode cX17_rename 97 = .ok (.ifCond .eq 18, 3) := by decide +kernel
theorem dr_cX17_rename_115 : decode cX17_rename 115 = .ok (.aload 6, 2) := by decide +kernel
theorem dr_cX17_rename_117 : decode cX17_rename 117 = .ok (.invokevirtual 48, 3) := by decide +kernel
theorem dr_cX17_rename_120 : decode cX17_rename 120 = .ok (.ifCond .eq 18, 3) := by decide +kernel
theorem dr_cX17_rename_138 : decode cX17_rename 138 = .ok (.iinc 5 1, 3) := by decide +kernel
theorem dr_cX17_rename_141 : decode cX17_rename 141 = .ok (.goto (-121), 3) := by decide +kernel
theorem dr_cX17_rename_123 : decode cX17_rename 123 = .ok (.aload 6, 2) := by decide +kernel
theorem dr_cX17_rename_125 : decode cX17_rename 125 = .ok (.getfield 52, 3) := by decide +kernel
theorem dr_cX17_rename_128 : decode cX17_rename 128 = .ok (.iload_n 1, 1) := by decide +kernel
theorem dr_cX17_rename_129 : decode cX17_rename 129 = .ok (.if_icmp .ne 9, 3) := by decide +kernel
theorem dr_cX17_rename_132 : decode cX17_rename 132 = .ok (.aload 6, 2) := by decide +kernel
theorem dr_cX17_rename_134 : decode cX17_rename 134 = .ok (.iload_n 2, 1) := by decide +kernel
theorem dr_cX17_rename_135 : decode cX17_rename 135 = .ok (.putfield 52, 3) := by decide +kernel
theorem dr_cX17_rename_100 : decode cX17_rename 100 = .ok (.aload 6, 2) := by decide +kernel
theorem dr_cX17_rename_102 : decode cX17_rename 102 = .ok (.getfield 79, 3) := by decide +kernel
theorem dr_cX17_rename_105 : decode cX17_rename 105 = .ok (.iload_n 1, 1) := by decide +kernel
theorem dr_cX17_rename_106 : decode cX17_rename 106 = .ok (.if_icmp .ne 9, 3) := by decide +kernel
theorem dr_cX17_rename_109 : decode cX17_rename 109 = .ok (.aload 6, 2) := by decide +kernel
theorem dr_cX17_rename_111 : decode cX17_rename 111 = .ok (.iload_n 2, 1) := by decide +kernel
theorem dr_cX17_rename_112 : decode cX17_rename 112 = .ok (.putfield 79, 3) := by decide +kernel
theorem dr_cX17_rename_77 : decode cX17_rename 77 = .ok (.aload 6, 2) := by decide +kernel
theorem dr_cX17_rename_79 : decode cX17_rename 79 = .ok (.getfield 73, 3) := by decide +kernel
theorem dr_cX17_rename_82 : decode cX17_rename 82 = .ok (.iload_n 1, 1) := by decide +kernel
theorem dr_cX17_rename_83 : decode cX17_rename 83 = .ok (.if_icmp .ne 9, 3) := by decide +kernel
theorem dr_cX17_rename_86 : decode cX17_rename 86 = .ok (.aload 6, 2) := by decide +kernel
theorem dr_cX17_rename_88 : decode cX17_rename 88 = .ok (.iload_n 2, 1) := by decide +kernel
theorem dr_cX17_rename_89 : decode cX17_rename 89 = .ok (.putfield 73, 3) := by decide +kernel
theorem dr_cX17_rename_46 : decode cX17_rename 46 = .ok (.aload 4, 2) := by decide +kernel
theorem dr_cX17_rename_48 : decode cX17_rename 48 = .ok (.getfield 117, 3) := by decide +kernel
theorem dr_cX17_rename_51 : decode cX17_rename 51 = .ok (.iload 5, 2) := by decide +kernel
theorem dr_cX17_rename_53 : decode cX17_rename 53 = .ok (.invokevirtual 124, 3) := by decide +kernel
theorem dr_cX17_rename_56 : decode cX17_rename 56 = .ok (.checkcast 40, 3) := by decide +kernel
theorem dr_cX17_rename_59 : decode cX17_rename 59 = .ok (.goto 8, 3) := by decide +kernel
end
section
theorem dr_cX17_load_0 : decode cX17_load 0 = .ok (.aload_n 0, 1) := by decide +kernel
theorem dr_cX17_load_1 : decode cX17_load 1 = .ok (.getfield 231, 3) := by decide +kernel
theorem wr_7_88 : (Jvm.Cond.fieldLink "SpillForgeModel" (231 : Nat) "SpillForgeModel" "temporaries" "I") ∈ gw := gw_7 88 rfl rfl
theorem dr_cX17_load_4 : decode cX17_load 4 = .ok (.sipush 2000, 3) := by decide +kernel
theorem dr_cX17_load_7 : decode cX17_load 7 = .ok (.if_icmp .ne 5, 3) := by decide +kernel
theorem dr_cX17_load_12 : decode cX17_load 12 = .ok (.aload_n 1, 1) := by decide +kernel
theorem dr_cX17_load_13 : decode cX17_load 13 = .ok (.invokevirtual 177, 3) := by decide +kernel
theorem wr_10_206 : (Jvm.Cond.methodLink "SpillForgeModel" (177 : Nat) ({ cls := "SpillForgeModel$Code", name := "row", desc := "()LSpillForgeModel$Row;" } : Jvm.MethodName)) ∈ gw := gw_10 206 rfl rfl
theorem wr_10_82 : (Jvm.Cond.code ({ cls := "SpillForgeModel$Code", name := "row", desc := "()LSpillForgeModel$Row;" } : Jvm.MethodName) prog_16_method_4_code (2 : Nat) (Option.some (Jvm.ClassFile.FieldType.object "SpillForgeModel$Row"))) ∈ gw := gw_10 82 rfl rfl
theorem wr_10_80 : (Jvm.Cond.instanceMethod ({ cls := "SpillForgeModel$Code", name := "row", desc := "()LSpillForgeModel$Row;" } : Jvm.MethodName)) ∈ gw := gw_10 80 rfl rfl
theorem wr_10_81 : (Jvm.Cond.selects "SpillForgeModel$Code" ({ cls := "SpillForgeModel$Code", name := "row", desc := "()LSpillForgeModel$Row;" } : Jvm.MethodName) ({ cls := "SpillForgeModel$Code", name := "row", desc := "()LSpillForgeModel$Row;" } : Jvm.MethodName)) ∈ gw := gw_10 81 rfl rfl
theorem dr_cX17_load_16 : decode cX17_load 16 = .ok (.astore 5, 2) := by decide +kernel
theorem dr_cX17_load_18 : decode cX17_load 18 = .ok (.aload 5, 2) := by decide +kernel
theorem dr_cX17_load_20 : decode cX17_load 20 = .ok (.bipush 21, 2) := by decide +kernel
theorem dr_cX17_load_22 : decode cX17_load 22 = .ok (.putfield 39, 3) := by decide +kernel
theorem dr_cX17_load_25 : decode cX17_load 25 = .ok (.aload 5, 2) := by decide +kernel
theorem dr_cX17_load_27 : decode cX17_load 27 = .ok (.aload_n 0, 1) := by decide +kernel
theorem dr_cX17_load_28 : decode cX17_load 28 = .ok (.getfield 231, 3) := by decide +kernel
theorem dr_cX17_load_31 : decode cX17_load 31 = .ok (.putfield 52, 3) := by decide +kernel
theorem dr_cX17_load_34 : decode cX17_load 34 = .ok (.aload 5, 2) := by decide +kernel
theorem dr_cX17_load_36 : decode cX17_load 36 = .ok (.iload 4, 2) := by decide +kernel
theorem dr_cX17_load_38 : decode cX17_load 38 = .ok (.putfield 45, 3) := by decide +kernel
theorem dr_cX17_load_41 : decode cX17_load 41 = .ok (.aload_n 2, 1) := by decide +kernel
theorem dr_cX17_load_42 : decode cX17_load 42 = .ok (.getfield 117, 3) := by decide +kernel
theorem dr_cX17_load_45 : decode cX17_load 45 = .ok (.iload_n 3, 1) := by decide +kernel
theorem dr_cX17_load_46 : decode cX17_load 46 = .ok (.aload 5, 2) := by decide +kernel
theorem dr_cX17_load_48 : decode cX17_load 48 = .ok (.invokevirtual 181, 3) := by decide +kernel
theorem wr_10_207 : (Jvm.Cond.methodLink "SpillForgeModel" (181 : Nat) ({ cls := "java/util/ArrayList", name := "add", desc := "(ILjava/lang/Object;)V" } : Jvm.MethodName)) ∈ gw := gw_10 207 rfl rfl
theorem wr_10_210 : (Jvm.Cond.code ({ cls := "java/util/ArrayList", name := "add", desc := "(ILjava/lang/Object;)V" } : Jvm.MethodName) prog_43_method_26_code (5 : Nat) (Option.none : Option Jvm.ClassFile.FieldType)) ∈ gw := gw_10 210 rfl rfl
theorem wr_10_208 : (Jvm.Cond.instanceMethod ({ cls := "java/util/ArrayList", name := "add", desc := "(ILjava/lang/Object;)V" } : Jvm.MethodName)) ∈ gw := gw_10 208 rfl rfl
theorem wr_10_209 : (Jvm.Cond.selects "java/util/ArrayList" ({ cls := "java/util/ArrayList", name := "add", desc := "(ILjava/lang/Object;)V" } : Jvm.MethodName) ({ cls := "java/util/ArrayList", name := "add", desc := "(ILjava/lang/Object;)V" } : Jvm.MethodName)) ∈ gw := gw_10 209 rfl rfl
theorem dr_cX17_load_51 : decode cX17_load 51 = .ok (.aload_n 0, 1) := by decide +kernel
theorem dr_cX17_load_52 : decode cX17_load 52 = .ok (.dup, 1) := by decide +kernel
theorem dr_cX17_load_53 : decode cX17_load 53 = .ok (.getfield 231, 3) := by decide +kernel
theorem dr_cX17_load_56 : decode cX17_load 56 = .ok (.iconst 1, 1) := by decide +kernel
theorem dr_cX17_load_57 : decode cX17_load 57 = .ok (.iadd, 1) := by decide +kernel
theorem dr_cX17_load_58 : decode cX17_load 58 = .ok (.putfield 231, 3) := by decide +kernel
theorem dr_cX17_load_61 : decode cX17_load 61 = .ok (.aload 5, 2) := by decide +kernel
theorem dr_cX17_load_63 : decode cX17_load 63 = .ok (.getfield 52, 3) := by decide +kernel
theorem dr_cX17_load_66 : decode cX17_load 66 = .ok (.ireturn, 1) := by decide +kernel
theorem dr_cX17_load_10 : decode cX17_load 10 = .ok (.iconst (-1), 1) := by decide +kernel
theorem dr_cX17_load_11 : decode cX17_load 11 = .ok (.ireturn, 1) := by decide +kernel
theorem dr_cX13_copy_0 : decode cX13_copy 0 = .ok (.aload_n 0, 1) := by decide +kernel
theorem dr_cX13_copy_1 : decode cX13_copy 1 = .ok (.invokevirtual 73, 3) := by decide +kernel
theorem wr_10_136 : (Jvm.Cond.methodLink "SpillForgeModel$Code" (73 : Nat) ({ cls := "SpillForgeModel$Code", name := "begin", desc := "()V" } : Jvm.MethodName)) ∈ gw := gw_10 136 rfl rfl
theorem wr_9_88 : (Jvm.Cond.code ({ cls := "SpillForgeModel$Code", name := "begin", desc := "()V" } : Jvm.MethodName) prog_16_method_2_code (1 : Nat) (Option.none : Option Jvm.ClassFile.FieldType)) ∈ gw := gw_9 88 rfl rfl
theorem wr_9_86 : (Jvm.Cond.instanceMethod ({ cls := "SpillForgeModel$Code", name := "begin", desc := "()V" } : Jvm.MethodName)) ∈ gw := gw_9 86 rfl rfl
theorem wr_9_87 : (Jvm.Cond.selects "SpillForgeModel$Code" ({ cls := "SpillForgeModel$Code", name := "begin", desc := "()V" } : Jvm.MethodName) ({ cls := "SpillForgeModel$Code", name := "begin", desc := "()V" } : Jvm.MethodName)) ∈ gw := gw_9 87 rfl rfl
theorem dr_cX13_copy_4 : decode cX13_copy 4 = .ok (.iconst 0, 1) := by decide +kernel
theorem dr_cX13_copy_5 : decode cX13_copy 5 = .ok (.istore_n 2, 1) := by decide +kernel
theorem dr_cX13_copy_6 : decode cX13_copy 6 = .ok (.iload_n 2, 1) := by decide +kernel
theorem dr_cX13_copy_7 : decode cX13_copy 7 = .ok (.aload_n 1, 1) := by decide +kernel
theorem dr_cX13_copy_8 : decode cX13_copy 8 = .ok (.invokevirtual 76, 3) := by decide +kernel
theorem wr_10_137 : (Jvm.Cond.methodLink "SpillForgeModel$Code" (76 : Nat) ({ cls := "SpillForgeModel$Code", name := "size", desc := "()I" } : Jvm.MethodName)) ∈ gw := gw_10 137 rfl rfl
theorem dr_cX13_copy_11 : decode cX13_copy 11 = .ok (.if_icmp .ge 106, 3) := by decide +kernel
theorem dr_cX13_copy_117 : decode cX13_copy 117 = .ok (.return_, 1) := by decide +kernel
theorem dr_cX13_copy_14 : decode cX13_copy 14 = .ok (.aload_n 1, 1) := by decide +kernel
theorem dr_cX13_copy_15 : decode cX13_copy 15 = .ok (.iload_n 2, 1) := by decide +kernel
theorem dr_cX13_copy_16 : decode cX13_copy 16 = .ok (.invokevirtual 67, 3) := by decide +kernel
theorem dr_cX13_copy_19 : decode cX13_copy 19 = .ok (.astore_n 3, 1) := by decide +kernel
theorem dr_cX13_copy_20 : decode cX13_copy 20 = .ok (.aload_n 0, 1) := by decide +kernel
theorem dr_cX13_copy_21 : decode cX13_copy 21 = .ok (.invokevirtual 77, 3) := by decide +kernel
theorem wr_10_142 : (Jvm.Cond.methodLink "SpillForgeModel$Code" (77 : Nat) ({ cls := "SpillForgeModel$Code", name := "block", desc := "()LSpillForgeModel$Block;" } : Jvm.MethodName)) ∈ gw := gw_10 142 rfl rfl
theorem wr_9_156 : (Jvm.Cond.code ({ cls := "SpillForgeModel$Code", name := "block", desc := "()LSpillForgeModel$Block;" } : Jvm.MethodName) prog_16_method_3_code (2 : Nat) (Option.some (Jvm.ClassFile.FieldType.object "SpillForgeModel$Block"))) ∈ gw := gw_9 156 rfl rfl
theorem wr_9_154 : (Jvm.Cond.instanceMethod ({ cls := "SpillForgeModel$Code", name := "block", desc := "()LSpillForgeModel$Block;" } : Jvm.MethodName)) ∈ gw := gw_9 154 rfl rfl
theorem wr_9_155 : (Jvm.Cond.selects "SpillForgeModel$Code" ({ cls := "SpillForgeModel$Code", name := "block", desc := "()LSpillForgeModel$Block;" } : Jvm.MethodName) ({ cls := "SpillForgeModel$Code", name := "block", desc := "()LSpillForgeModel$Block;" } : Jvm.MethodName)) ∈ gw := gw_9 155 rfl rfl
theorem dr_cX13_copy_24 : decode cX13_copy 24 = .ok (.astore 4, 2) := by decide +kernel
theorem dr_cX13_copy_26 : decode cX13_copy 26 = .ok (.iconst 0, 1) := by decide +kernel
theorem dr_cX13_copy_27 : decode cX13_copy 27 = .ok (.istore 5, 2) := by decide +kernel
theorem dr_cX13_copy_29 : decode cX13_copy 29 = .ok (.iload 5, 2) := by decide +kernel
theorem dr_cX13_copy_31 : decode cX13_copy 31 = .ok (.aload_n 3, 1) := by decide +kernel
theorem dr_cX13_copy_32 : decode cX13_copy 32 = .ok (.getfield 41, 3) := by decide +kernel
theorem dr_cX13_copy_35 : decode cX13_copy 35 = .ok (.invokevirtual 26, 3) := by decide +kernel
theorem dr_cX13_copy_38 : decode cX13_copy 38 = .ok (.if_icmp .ge 43, 3) := by decide +kernel
theorem dr_cX13_copy_81 : decode cX13_copy 81 = .ok (.aload 4, 2) := by decide +kernel
theorem dr_cX13_copy_83 : decode cX13_copy 83 = .ok (.getfield 89, 3) := by decide +kernel
theorem wr_9_224 : (Jvm.Cond.fieldLink "SpillForgeModel$Code" (89 : Nat) "SpillForgeModel$Block" "end" "LSpillForgeModel$Row;") ∈ gw := gw_9 224 rfl rfl
theorem dr_cX13_copy_86 : decode cX13_copy 86 = .ok (.aload_n 3, 1) := by decide +kernel
theorem dr_cX13_copy_87 : decode cX13_copy 87 = .ok (.getfield 89, 3) := by decide +kernel
theorem dr_cX13_copy_90 : decode cX13_copy 90 = .ok (.invokevirtual 85, 3) := by decide +kernel
theorem wr_10_144 : (Jvm.Cond.methodLink "SpillForgeModel$Code" (85 : Nat) ({ cls := "SpillForgeModel$Row", name := "put", desc := "(LSpillForgeModel$Row;)V" } : Jvm.MethodName)) ∈ gw := gw_10 144 rfl rfl
theorem wr_10_147 : (Jvm.Cond.code ({ cls := "SpillForgeModel$Row", name := "put", desc := "(LSpillForgeModel$Row;)V" } : Jvm.MethodName) prog_18_method_6_code (2 : Nat) (Option.none : Option Jvm.ClassFile.FieldType)) ∈ gw := gw_10 147 rfl rfl
theorem wr_10_145 : (Jvm.Cond.instanceMethod ({ cls := "SpillForgeModel$Row", name := "put", desc := "(LSpillForgeModel$Row;)V" } : Jvm.MethodName)) ∈ gw := gw_10 145 rfl rfl
theorem wr_10_146 : (Jvm.Cond.selects "SpillForgeModel$Row" ({ cls := "SpillForgeModel$Row", name := "put", desc := "(LSpillForgeModel$Row;)V" } : Jvm.MethodName) ({ cls := "SpillForgeModel$Row", name := "put", desc := "(LSpillForgeModel$Row;)V" } : Jvm.MethodName)) ∈ gw := gw_10 146 rfl rfl
theorem dr_cX13_copy_93 : decode cX13_copy 93 = .ok (.aload 4, 2) := by decide +kernel
theorem dr_cX13_copy_95 : decode cX13_copy 95 = .ok (.aload_n 3, 1) := by decide +kernel
theorem dr_cX13_copy_96 : decode cX13_copy 96 = .ok (.getfield 93, 3) := by decide +kernel
theorem wr_9_227 : (Jvm.Cond.fieldLink "SpillForgeModel$Code" (93 : Nat) "SpillForgeModel$Block" "first" "I") ∈ gw := gw_9 227 rfl rfl
theorem dr_cX13_copy_99 : decode cX13_copy 99 = .ok (.putfield 93, 3) := by decide +kernel
theorem dr_cX13_copy_102 : decode cX13_copy 102 = .ok (.aload 4, 2) := by decide +kernel
theorem dr_cX13_copy_104 : decode cX13_copy 104 = .ok (.aload_n 3, 1) := by decide +kernel
theorem dr_cX13_copy_105 : decode cX13_copy 105 = .ok (.getfield 96, 3) := by decide +kernel
theorem wr_9_231 : (Jvm.Cond.fieldLink "SpillForgeModel$Code" (96 : Nat) "SpillForgeModel$Block" "second" "I") ∈ gw := gw_9 231 rfl rfl
theorem dr_cX13_copy_108 : decode cX13_copy 108 = .ok (.putfield 96, 3) := by decide +kernel
theorem dr_cX13_copy_111 : decode cX13_copy 111 = .ok (.iinc 2 1, 3) := by decide +kernel
theorem dr_cX13_copy_114 : decode cX13_copy 114 = .ok (.goto (-108), 3) := by decide +kernel
theorem dr_cX13_copy_41 : decode cX13_copy 41 = .ok (.aload_n 0, 1) := by decide +kernel
theorem dr_cX13_copy_42 : decode cX13_copy 42 = .ok (.invokevirtual 81, 3) := by decide +kernel
theorem wr_10_143 : (Jvm.Cond.methodLink "SpillForgeModel$Code" (81 : Nat) ({ cls := "SpillForgeModel$Code", name := "row", desc := "()LSpillForgeModel$Row;" } : Jvm.MethodName)) ∈ gw := gw_10 143 rfl rfl
theorem dr_cX13_copy_45 : decode cX13_copy 45 = .ok (.astore 6, 2) := by decide +kernel
theorem dr_cX13_copy_47 : decode cX13_copy 47 = .ok (.aload 6, 2) := by decide +kernel
theorem dr_cX13_copy_49 : decode cX13_copy 49 = .ok (.aload_n 3, 1) := by decide +kernel
theorem dr_cX13_copy_50 : decode cX13_copy 50 = .ok (.getfield 41, 3) := by decide +kernel
theorem dr_cX13_copy_53 : decode cX13_copy 53 = .ok (.iload 5, 2) := by decide +kernel
theorem dr_cX13_copy_55 : decode cX13_copy 55 = .ok (.invokevirtual 37, 3) := by decide +kernel
theorem dr_cX13_copy_58 : decode cX13_copy 58 = .ok (.checkcast 45, 3) := by decide +kernel
theorem dr_cX13_copy_61 : decode cX13_copy 61 = .ok (.invokevirtual 85, 3) := by decide +kernel
theorem dr_cX13_copy_64 : decode cX13_copy 64 = .ok (.aload 4, 2) := by decide +kernel
theorem dr_cX13_copy_66 : decode cX13_copy 66 = .ok (.getfield 41, 3) := by decide +kernel
theorem dr_cX13_copy_69 : decode cX13_copy 69 = .ok (.aload 6, 2) := by decide +kernel
theorem dr_cX13_copy_71 : decode cX13_copy 71 = .ok (.invokevirtual 33, 3) := by decide +kernel
theorem dr_cX13_copy_74 : decode cX13_copy 74 = .ok (.pop, 1) := by decide +kernel
theorem dr_cX13_copy_75 : decode cX13_copy 75 = .ok (.iinc 5 1, 3) := by decide +kernel
theorem dr_cX13_copy_78 : decode cX13_copy 78 = .ok (.goto (-49), 3) := by decide +kernel
/- tl_RCode_copy_29: P, F, gm, el, l5; out: F, P, gm, el -/
def tl_RCode_copy_29 (D : va_G) (I : FieldType → ClassId) (γ0 el0 : Nat → Nat → Nat) (f : Nat) (fo : Nat) (P : List Nat) (F : Nat → va_E) (q0 : Nat) (l2_1 : Int32) (q1 : Nat) (c1 : Nat) (c2 : Nat) (s1 : List Nat) (s2 : Nat → va_E) (s3 : Nat → Nat → Nat) (s4 : Nat → Nat → Nat) (s5 : Int32) (k : Nat) (e1 : Nat → va_E) (e2 : List Nat) (e3 : Nat → Nat → Nat) (e4 : Nat → Nat → Nat) : Prop := ∀ R : (List Nat) → (Nat → va_E) → (Nat → Nat → Nat) → (Nat → Nat → Nat) → (Int32) → Nat → (Nat → va_E) → (List Nat) → (Nat → Nat → Nat) → (Nat → Nat → Nat) → Prop,
  (∀ (P_2 : List Nat) (F_2 : Nat → va_E) (gm_2 : Nat → Nat → Nat) (el_2 : Nat → Nat → Nat) (l5_2 : Int32) (x1 : Nat) (x2 : Int32), gB l5_2 0 1000000 → RS D I P_2 F_2 gm_2 el_2 → rSk f [1, 2, 3, 101, 102, 103, 202] ([1, 2, 3, 4, 5, 6, 7, 8, 9, 101, 102, 103, 202]) D I P F γ0 el0 P_2 F_2 gm_2 el_2 → gm_2 6 f = 0 → gm_2 19 f = γ0 6 fo → gm_2 18 f = 0 → gm_2 7 f = 0 → (fI (F_2 q0) 3).toInt = l2_1.toInt + 1 → rKb gm_2 el_2 q0 (l2_1.toInt : Int).toNat → (gm_2 16 f ≤ rsum (fun i => γ0 2 (γ0 14 (el0 (γ0 14 q1) i))) (l2_1.toInt : Int).toNat + (l5_2.toInt : Int).toNat) → (l2_1.toInt : Int) < γ0 6 fo → c1 = el0 (γ0 14 q1) (l2_1.toInt : Int).toNat → (l5_2.toInt : Int) ≤ γ0 2 (γ0 14 c1) → fR (F_2 c1) 0 = x1 → x2.toInt = (gm_2 2 x1 : Int) → fI (F_2 x1) 2 = x2 → x2.toInt ≤ l5_2.toInt → R P_2 F_2 gm_2 el_2 l5_2 81 F_2 P_2 gm_2 el_2) →
  (∀ (P_2 : List Nat) (F_2 : Nat → va_E) (gm_2 : Nat → Nat → Nat) (el_2 : Nat → Nat → Nat) (l5_2 : Int32) (x1 : Nat) (x2 : Int32) (x3 : List Nat) (x4 : Nat → va_E) (x5 : Nat → Nat → Nat) (x6 : Nat → Nat → Nat) (x7 : Nat) (x8 : Nat) (x9 : Nat) (x10 : Nat) (x11 : Nat) (x12 : Int32) (x13 : Int32) (x14 : Int32) (x15 : Int32) (x16 : Int32) (x17 : Int32) (x18 : Int32) (x19 : Int32) (x20 : Nat → va_E) (x21 : Nat) (x22 : List Nat) (x23 : Nat → va_E) (x24 : Nat → Nat → Nat) (x25 : Nat → Nat → Nat) (x26 : Nat) (x27 : Nat) (x28 : Int32) (k : Nat) (e1 : Nat → va_E) (e2 : List Nat) (e3 : Nat → Nat → Nat) (e4 : Nat → Nat → Nat), gB l5_2 0 1000000 → RS D I P_2 F_2 gm_2 el_2 → rSk f [1, 2, 3, 101, 102, 103, 202] ([1, 2, 3, 4, 5, 6, 7, 8, 9, 101, 102, 103, 202]) D I P F γ0 el0 P_2 F_2 gm_2 el_2 → gm_2 6 f = 0 → gm_2 19 f = γ0 6 fo → gm_2 18 f = 0 → gm_2 7 f = 0 → (fI (F_2 q0) 3).toInt = l2_1.toInt + 1 → rKb gm_2 el_2 q0 (l2_1.toInt : Int).toNat → (gm_2 16 f ≤ rsum (fun i => γ0 2 (γ0 14 (el0 (γ0 14 q1) i))) (l2_1.toInt : Int).toNat + (l5_2.toInt : Int).toNat) → (l2_1.toInt : Int) < γ0 6 fo → c1 = el0 (γ0 14 q1) (l2_1.toInt : Int).toNat → (l5_2.toInt : Int) ≤ γ0 2 (γ0 14 c1) → fR (F_2 c1) 0 = x1 → x2.toInt = (gm_2 2 x1 : Int) → fI (F_2 x1) 2 = x2 → l5_2.toInt < x2.toInt → rRq D I P_2 F_2 gm_2 el_2 f q0 x3 x4 x5 x6 x7 x8 x9 → fR (x4 c1) 0 = x10 → x11 = x6 x10 l5_2.toInt.toNat → fI (x4 x10) 2 = x12 → tr_RArrayList_get l5_2 x12 → fI (x4 x11) 0 = x13 → fI (x4 x11) 1 = x14 → fI (x4 x11) 2 = x15 → fI (x4 x11) 3 = x16 → fI (x4 x11) 4 = x17 → fI (x4 x11) 5 = x18 → fI (x4 x11) 6 = x19 → rFr [x7] x3 x4 x20 → x20 x7 = .inr (20, [.int x13, .int x14, .int x15, .int x16, .int x17, .int x18, .int x19]) → fR (x20 c2) 0 = x21 → rIq D I x3 x20 x5 x6 f x21 (x5 2 x21) x7 x22 x23 x24 x25 x26 x27 → x28.toInt = l5_2.toInt + 1 → R x22 x23 x24 x25 x28 k e1 e2 e3 e4 → R P_2 F_2 gm_2 el_2 l5_2 k e1 e2 e3 e4) →
  R s1 s2 s3 s4 s5 k e1 e2 e3 e4
/- tl_RCode_copy_6: P, F, gm, el, l2; out: F, P, gm, el -/
def tl_RCode_copy_6 (D : va_G) (I : FieldType → ClassId) (γ0 el0 : Nat → Nat → Nat) (f : Nat) (fo : Nat) (P : List Nat) (F : Nat → va_E) (q0 : Nat) (q1 : Nat) (s1 : List Nat) (s2 : Nat → va_E) (s3 : Nat → Nat → Nat) (s4 : Nat → Nat → Nat) (s5 : Int32) (k : Nat) (e1 : Nat → va_E) (e2 : List Nat) (e3 : Nat → Nat → Nat) (e4 : Nat → Nat → Nat) : Prop := ∀ R : (List Nat) → (Nat → va_E) → (Nat → Nat → Nat) → (Nat → Nat → Nat) → (Int32) → Nat → (Nat → va_E) → (List Nat) → (Nat → Nat → Nat) → (Nat → Nat → Nat) → Prop,
  (∀ (P_1 : List Nat) (F_1 : Nat → va_E) (gm_1 : Nat → Nat → Nat) (el_1 : Nat → Nat → Nat) (l2_1 : Int32) (x1 : Int32), gB l2_1 0 1000000 → RS D I P_1 F_1 gm_1 el_1 → rSk f [1, 2, 3, 101, 102, 103, 202] ([1, 2, 3, 4, 5, 6, 7, 8, 9, 101, 102, 103, 202]) D I P F γ0 el0 P_1 F_1 gm_1 el_1 → gm_1 6 f = 0 → gm_1 19 f = γ0 6 fo → gm_1 18 f = 0 → gm_1 7 f = 0 → (fI (F_1 q0) 3).toInt = l2_1.toInt → rKb gm_1 el_1 q0 (l2_1.toInt : Int).toNat → (gm_1 16 f ≤ rsum (fun i => γ0 2 (γ0 14 (el0 (γ0 14 q1) i))) (l2_1.toInt : Int).toNat) → (l2_1.toInt : Int) ≤ γ0 6 fo → fI (F_1 q1) 3 = x1 → x1.toInt ≤ l2_1.toInt → R P_1 F_1 gm_1 el_1 l2_1 117 F_1 P_1 gm_1 el_1) →
  (∀ (P_1 : List Nat) (F_1 : Nat → va_E) (gm_1 : Nat → Nat → Nat) (el_1 : Nat → Nat → Nat) (l2_1 : Int32) (x1 : Int32) (x2 : Nat) (x3 : Nat) (x4 : Int32) (x5 : List Nat) (x6 : Nat → va_E) (x7 : Nat → Nat → Nat) (x8 : Nat → Nat → Nat) (x9 : Nat) (x10 : Nat) (x11 : Nat) (x12 : Nat → va_E) (x13 : List Nat) (x14 : Nat → Nat → Nat) (x15 : Nat → Nat → Nat) (x16 : Nat) (x17 : Nat) (x18 : Int32) (x19 : Int32) (x20 : Int32) (x21 : Int32) (x22 : Int32) (x23 : Int32) (x24 : Int32) (x25 : Nat → va_E) (x26 : Int32) (x27 : Nat → va_E) (x28 : Int32) (x29 : Nat → va_E) (x30 : Nat → Nat → Nat) (x31 : Int32) (k : Nat) (e1 : Nat → va_E) (e2 : List Nat) (e3 : Nat → Nat → Nat) (e4 : Nat → Nat → Nat), gB l2_1 0 1000000 → RS D I P_1 F_1 gm_1 el_1 → rSk f [1, 2, 3, 101, 102, 103, 202] ([1, 2, 3, 4, 5, 6, 7, 8, 9, 101, 102, 103, 202]) D I P F γ0 el0 P_1 F_1 gm_1 el_1 → gm_1 6 f = 0 → gm_1 19 f = γ0 6 fo → gm_1 18 f = 0 → gm_1 7 f = 0 → (fI (F_1 q0) 3).toInt = l2_1.toInt → rKb gm_1 el_1 q0 (l2_1.toInt : Int).toNat → (gm_1 16 f ≤ rsum (fun i => γ0 2 (γ0 14 (el0 (γ0 14 q1) i))) (l2_1.toInt : Int).toNat) → (l2_1.toInt : Int) ≤ γ0 6 fo → fI (F_1 q1) 3 = x1 → l2_1.toInt < x1.toInt → fR (F_1 q1) 0 = x2 → x3 = el_1 x2 l2_1.toInt.toNat → fI (F_1 x2) 2 = x4 → tr_RCode_get l2_1 x4 → rBq D I P_1 F_1 gm_1 el_1 f q0 x5 x6 x7 x8 x9 x10 x11 → tl_RCode_copy_29 D I γ0 el0 f fo P F q0 l2_1 q1 x3 x9 x5 x6 x7 x8 (0 : Int32) 81 x12 x13 x14 x15 → fR (x12 x9) 1 = x16 → fR (x12 x3) 1 = x17 → fI (x12 x17) 0 = x18 → fI (x12 x17) 1 = x19 → fI (x12 x17) 2 = x20 → fI (x12 x17) 3 = x21 → fI (x12 x17) 4 = x22 → fI (x12 x17) 5 = x23 → fI (x12 x17) 6 = x24 → rFr [x16] x13 x12 x25 → x25 x16 = .inr (20, [.int x18, .int x19, .int x20, .int x21, .int x22, .int x23, .int x24]) → fI (x25 x3) 2 = x26 → (∀ b, b ≠ x9 → x27 b = x25 b) → x27 x9 = cF (x25 x9) 2 (.int x26) → fI (x27 x3) 3 = x28 → (∀ b, b ≠ x9 → x29 b = x27 b) → x29 x9 = cF (x27 x9) 3 (.int x28) → fR (x29 x9) 1 = x16 → x30 = gSea x14 x9 x16 → x31.toInt = l2_1.toInt + 1 → R x13 x29 x30 x15 x31 k e1 e2 e3 e4 → R P_1 F_1 gm_1 el_1 l2_1 k e1 e2 e3 e4) →
  R s1 s2 s3 s4 s5 k e1 e2 e3 e4
/- tr_RCode_copy: P, F, gm, el -/
def tr_RCode_copy (D : va_G) (I : FieldType → ClassId) (γ0 el0 : Nat → Nat → Nat) (f : Nat) (fo : Nat) (P : List Nat) (F : Nat → va_E) (q0 : Nat) (q1 : Nat) (o1 : List Nat) (o2 : Nat → va_E) (o3 : Nat → Nat → Nat) (o4 : Nat → Nat → Nat) : Prop := ∀ R : (List Nat) → (Nat → va_E) → (Nat → Nat → Nat) → (Nat → Nat → Nat) → Prop,
  (∀ (x1 : Nat → Nat → Nat) (x2 : Nat → Nat → Nat) (x3 : Nat → va_E) (x4 : Nat → Nat → Nat) (x5 : Nat → Nat → Nat) (x6 : Nat → va_E) (x7 : List Nat) (x8 : Nat → Nat → Nat) (x9 : Nat → Nat → Nat) (x10 : Nat → Nat → Nat), x1 = γ0 → x2 = el0 → rGq D I P F x1 x2 f q0 (γ0 6 fo) x3 x4 x5 → tl_RCode_copy_6 D I γ0 el0 f fo P F q0 q1 P x3 x4 x5 (0 : Int32) 117 x6 x7 x8 x9 → x10 = gVal x8 6 f (γ0 6 fo) → R x7 x6 x10 x9) →
  R o1 o2 o3 o4
abbrev ky_196677_Code_copy : gKey := (cX13_copy, 7, "SpillForgeModel$Code", none, [], "copy", fun _ _ => True)
def pg_196677_Code_copy (D : va_G) (I : FieldType → ClassId) (γ0 el0 : Nat → Nat → Nat) (f : Nat) (fo : Nat) (B : Nat) (P196670 : List Nat) (F196671 : Nat → va_E) (q196672 : Nat) (q196673 : Nat) : Option Value → va_W → Nat → Nat → Prop := fun r w dc ds => ∃ (P211101 : List Nat) (F211102 : Nat → va_E) (γ el : Nat → Nat → Nat), r = none ∧ w = va_pl P211101 F211102 ∧ rSk f [1, 2, 3, 101, 102, 103, 202] ([1, 2, 3, 4, 5, 6, 7, 8, 9, 101, 102, 103, 202]) D I P196670 F196671 γ0 el0 P211101 F211102 γ el ∧ (18 * dc + rPh γ0 el0 f ≤ rPh γ el f ∧ ds + rPh γ0 el0 f ≤ rPh γ el f) ∧ rBd γ el f B ∧ γ 6 f = γ0 6 fo ∧ γ 7 f = 0 ∧ γ 16 f ≤ γ0 16 fo ∧ γ 18 f = 0 ∧ tr_RCode_copy D I γ0 el0 f fo P196670 F196671 q196672 q196673 P211101 F211102 γ el
set_option maxRecDepth 100000 in
set_option maxHeartbeats 1500000 in
theorem cg_196677_Code_copy (l : Launch) (hl0 : l.stackTraces = false) (D : va_G) (I : FieldType → ClassId) (γ0 el0 : Nat → Nat → Nat) (f : Nat) (fo : Nat) (B : Nat) (P196670 : List Nat) (F196671 : Nat → va_E) (q196672 : Nat) (q196673 : Nat) (hT0 : RS D I P196670 F196671 γ0 el0) (hzq196672 : rKd γ0 q196672 9) (hzq196673 : rKd γ0 q196673 9) (hf0 : γ0 1 q196672 = f) (hfo0 : γ0 1 q196673 = fo) (hne : fo ≠ f) (hB0 : rBd γ0 el0 f B) (hBk : B ≤ 100000) (x196674 : 0 < γ0 6 fo) (x196675 : γ0 7 fo = 0) (x196676 : γ0 16 fo ≤ B) : CtA (gV D I) l yX13_copy cX13_copy 7 none 8 170 (((387 * B + 6000) - rPh γ0 el0 f) / 18) ((387 * B + 6000) - rPh γ0 el0 f) [.ref q196672, .ref q196673] (va_pl P196670 F196671) (pg_196677_Code_copy D I γ0 el0 f fo B P196670 F196671 q196672 q196673) gNA := by
  refine CtA_of hl0 (by decide) (Nat.le_of_ble_eq_true rfl) ?_
  obtain ⟨gm_0, hγ0⟩ : ∃ z, z = γ0 := ⟨_, rfl⟩
  obtain ⟨el_0, hel0⟩ : ∃ z, z = el0 := ⟨_, rfl⟩
  have hT : RS D I P196670 F196671 gm_0 el_0 := by rw [hγ0, hel0]; exact hT0
  have hst : rSk f [1, 2, 3, 101, 102, 103, 202] ([1, 2, 3, 4, 5, 6, 7, 8, 9, 101, 102, 103, 202]) D I P196670 F196671 γ0 el0 P196670 F196671 gm_0 el_0 := by rw [hγ0, hel0]; exact rSk_rf hT0
  have hph : rPh γ0 el0 f ≤ rPh gm_0 el_0 f := by rw [hγ0, hel0]; exact Nat.le_refl _
  have hB : rBd gm_0 el_0 f B := by rw [hγ0, hel0]; exact hB0
  have htq196672 : rKd gm_0 q196672 9 := by rw [hγ0]; exact hzq196672
  have htq196673 : rKd gm_0 q196673 9 := by rw [hγ0]; exact hzq196673
  have hf1 : gm_0 1 q196672 = f := by rw [hγ0]; exact hf0
  have hfo1 : gm_0 1 q196673 = fo := by rw [hγ0]; exact hfo0
  have x196674n : 0 < gm_0 6 fo := by rw [hγ0]; exact x196674
  have x196675n : gm_0 7 fo = 0 := by rw [hγ0]; exact x196675
  have x196676n : gm_0 16 fo ≤ B := by rw [hγ0]; exact x196676
  have pk196678 : rPh gm_0 el_0 f ≤ 387 * B + 6000 := rm_pk (rM_ge hT htq196672 hf1).1 (rM_bd hB)
  refine G_widen (cs' := ((rPh gm_0 el_0 f - rPh γ0 el0 f) / 18)) (sl' := (rPh gm_0 el_0 f - rPh γ0 el0 f)) (Nat.zero_le _) (Nat.zero_le _) ?_
  have r196679 := rSk_g hst hne
  have r196680 : 0 < gm_0 6 (gm_0 1 q196673) := by rw [hfo1, r196679.1]; exact x196674
  have r196681 : gm_0 6 fo = γ0 6 fo := r196679.1
  have r196682 : gm_0 7 fo = 0 := by rw [r196679.2.1]; exact x196675
  refine G_aload_n 0 dr_cX13_copy_0 rfl ?_
  have rg196683 := rM_ge hT htq196672 hf1
  have rm196684 := rM_bd hB
  have bd196685 := rBd_c hT htq196672 hf1 hB
  refine Gt_beg (c := q196672) (f := f) (γ0 6 fo) hl0 dr_cX13_copy_1 ⟨wr_10_136, wr_1_15, wr_9_88, by decide, rfl, (Nat.le_of_ble_eq_true rfl), (Nat.le_of_ble_eq_true rfl)⟩ wr_9_86 wr_9_87 hT htq196672 hf1 (rm_zc pk196678) (rm_zs pk196678) (Nat.le_of_ble_eq_true rfl) (fun F196686 gm_F196686 el_F196686 hq196687 => ?_)
  have hq196688 := hq196687
  obtain ⟨hk196689, h6196690, h7196691, h16196692, h18196693, h19196694, h23196695, h2196696, hel196697, hmd196698, hr196699, hM196700, hBB196701⟩ := hq196687
  have hk196702 := rSk_of hk196689
  have hT196703 := hk196702.1
  have hs196704 := rSk_tr hst hk196702 (by decide) (by decide) (by decide)
  have ht196705 : rKd gm_F196686 q196672 9 := rSk_k hk196702 htq196672 (by decide) (by decide)
  have hf196706 : gm_F196686 1 q196672 = f := rSk_1 hk196702 htq196672 (by decide) hf1
  have ht196707 : rKd gm_F196686 q196673 9 := rSk_kf hk196702 htq196673 (by decide) (by rw [hfo1]; exact hne)
  have hf196708 : gm_F196686 1 q196673 = fo := rSk_1 hk196702 htq196673 (by decide) hfo1
  clear rg196683 rm196684 bd196685
  have r196709 := rSk_g hs196704 hne
  have r196710 : 0 < gm_F196686 6 (gm_F196686 1 q196673) := by rw [hf196708, r196709.1]; exact x196674
  have r196711 : gm_F196686 6 fo = γ0 6 fo := r196709.1
  have r196712 : gm_F196686 7 fo = 0 := by rw [r196709.2.1]; exact x196675
  have hB196713 : rBd gm_F196686 el_F196686 f B := hBB196701 B hB
  have hph196714 : rPh γ0 el0 f ≤ rPh gm_F196686 el_F196686 f := by rw [hr196699]; exact hph
  have pk196715 : rPh gm_F196686 el_F196686 f ≤ 387 * B + 6000 := rm_pk (rM_ge hT196703 ht196705 hf196706).1 (rM_bd hB196713)
  refine G_widen (cs' := ((rPh gm_F196686 el_F196686 f - rPh γ0 el0 f) / 18)) (sl' := (rPh gm_F196686 el_F196686 f - rPh γ0 el0 f)) (rm_ec hr196699) (rm_es hr196699) ?_
  refine G_iconst 0 dr_cX13_copy_4 (by decide +kernel) ?_
  refine G_istore_n (L' := [(2, .int 0), (0, .ref q196672), (1, .ref q196673)]) dr_cX13_copy_5 (Nat.le_of_ble_eq_true rfl) rfl ?_
  have hlp6_209990 : ∀ (n6_209990 : Nat) (P209977 : List Nat) (F209978 : Nat → va_E) (gm_F209978 el_F209978 : Nat → Nat → Nat) (g209976 : Int32), gB g209976 0 1000000 → RS D I P209977 F209978 gm_F209978 el_F209978 → rSk f [1, 2, 3, 101, 102, 103, 202] ([1, 2, 3, 4, 5, 6, 7, 8, 9, 101, 102, 103, 202]) D I P196670 F196671 γ0 el0 P209977 F209978 gm_F209978 el_F209978 → rPh γ0 el0 f ≤ rPh gm_F209978 el_F209978 f → rBd gm_F209978 el_F209978 f B → gm_F209978 6 f = 0 → gm_F209978 19 f = γ0 6 fo → gm_F209978 18 f = 0 → gm_F209978 7 f = 0 → (fI (F209978 q196672) 3).toInt = g209976.toInt → rKb gm_F209978 el_F209978 q196672 (g209976.toInt : Int).toNat → gm_F209978 16 f ≤ rsum (fun i => γ0 2 (γ0 14 (el0 (γ0 14 q196673) i))) (g209976.toInt : Int).toNat → (g209976.toInt : Int) ≤ γ0 6 fo → (∀ (k : Nat) (e1 : Nat → va_E) (e2 : List Nat) (e3 : Nat → Nat → Nat) (e4 : Nat → Nat → Nat), tl_RCode_copy_6 D I γ0 el0 f fo P196670 F196671 q196672 q196673 P209977 F209978 gm_F209978 el_F209978 g209976 k e1 e2 e3 e4 → tl_RCode_copy_6 D I γ0 el0 f fo P196670 F196671 q196672 q196673 P196670 F196686 gm_F196686 el_F196686 (0 : Int32) k e1 e2 e3 e4) → (γ0 6 fo - (g209976.toInt : Int).toNat) < n6_209990 → G (gV D I) l (gRm 8 170 (((387 * B + 6000) - rPh γ0 el0 f) / 18) ((387 * B + 6000) - rPh γ0 el0 f)) (gMA (gV D I) (pg_196677_Code_copy D I γ0 el0 f fo B P196670 F196671 q196672 q196673) gNA (((387 * B + 6000) - rPh γ0 el0 f) / 18) ((387 * B + 6000) - rPh γ0 el0 f)) ky_196677_Code_copy 6 [(2, .int g209976), (0, .ref q196672), (1, .ref q196673)] [] (va_pl P209977 F209978) ((rPh gm_F209978 el_F209978 f - rPh γ0 el0 f) / 18) (rPh gm_F209978 el_F209978 f - rPh γ0 el0 f) := by
    intro n6_209990
    induction n6_209990 with
    | zero => intro P209977 F209978 gm_F209978 el_F209978 g209976 bg209976 hT209979 hs209980 hph209981 hB209982 x209983 x209984 x209985 x209986 x209987 x209988 x209989 x209990 kt6_209991 hm6_209990; exact absurd hm6_209990 (Nat.not_lt_zero _)
    | succ n6_209990 ih6_209990 =>
      intro P209977 F209978 gm_F209978 el_F209978 g209976 bg209976 hT209979 hs209980 hph209981 hB209982 x209983 x209984 x209985 x209986 x209987 x209988 x209989 x209990 kt6_209991 hm6_209990
      clear h6196690 h7196691 h16196692 h18196693 h19196694 h23196695 h2196696 hmd196698 hr196699 hM196700 r196709 r196710 r196711 r196712 hph196714 pk196715
      have ht209992 : rKd gm_F209978 q196672 9 := rSk_k hs209980 hzq196672 (by decide) (by decide)
      have hf209993 : gm_F209978 1 q196672 = f := rSk_1 hs209980 hzq196672 (by decide) hf0
      have ht209994 : rKd gm_F209978 q196673 9 := rSk_k hs209980 hzq196673 (by decide) (by decide)
      have hf209995 : gm_F209978 1 q196673 = fo := rSk_1 hs209980 hzq196673 (by decide) hfo0
      have pk209996 : rPh gm_F209978 el_F209978 f ≤ 387 * B + 6000 := rm_pk (rM_ge hT209979 ht209992 hf209993).1 (rM_bd hB209982)
      have r209997 := rSk_g hs209980 hne
      have r209998 : 0 < gm_F209978 6 (gm_F209978 1 q196673) := by rw [hf209995, r209997.1]; exact x196674
      have r209999 : gm_F209978 6 fo = γ0 6 fo := r209997.1
      have r210000 : gm_F209978 7 fo = 0 := by rw [r209997.2.1]; exact x196675
      refine G_iload_n 0 dr_cX13_copy_6 rfl ?_
      refine G_aload_n 2 dr_cX13_copy_7 rfl ?_
      have hm210001 : q196673 ∈ P209977 := RS_m hT209979 ht209994 (by decide)
      obtain ⟨q210003, q210004, p210005, p210006, he210002, ht210022, ht210007, ht210008, ht210009, ht210010, r210011, r210012, r210013, r210014, r210015, r210016, r210017, r210018, r210019, r210020, r210021⟩ := show rk_9 gm_F209978 el_F209978 q196673 (F209978 q196673) from RS_o hT209979 ht209994
      have bp210005 : gB p210005 0 1000000 := ⟨by omega, by omega⟩
      have bp210006 : gB p210006 0 1000000 := ⟨by omega, by omega⟩
      have hf210023 : gm_F209978 1 q210003 = fo := (show gm_F209978 1 q210003 = gm_F209978 1 q196673 from ht210008).trans hf209995
      have hf210024 : gm_F209978 1 q210004 = fo := (show gm_F209978 1 q210004 = gm_F209978 1 q196673 from ht210010).trans hf209995
      have r210025 : gm_F209978 6 (gm_F209978 1 q196673) = gm_F209978 6 fo := by rw [hf209995]
      have r210026 : gm_F209978 16 (gm_F209978 1 q196673) = gm_F209978 16 fo := by rw [hf209995]
      have r210027 : p210006.toInt = gm_F209978 6 fo ∧ p210006.toInt ≤ 40 := by omega
      clear r210017
      have fq210028 : fI (F209978 q196673) 3 = p210006 := by rw [he210002]; rfl
      refine Gw_callV (As := []) (gV_ok D I) (cp_12780_Code_size l hl0 D I P209977 F209978 q196673 q210003 q210004 p210005 p210006 hm210001 he210002) dr_cX13_copy_8 ⟨wr_10_137, wr_1_15, wr_9_131, by decide, rfl, (Nat.le_of_ble_eq_true rfl), (Nat.le_of_ble_eq_true rfl)⟩ wr_9_129 wr_9_130 hm210001 he210002 rfl (rm_zc pk209996) (rm_zs pk209996) (Nat.le_of_ble_eq_true rfl) (fun r210032 w210033 dc210029 ds210030 hp210031 => ?_) (fun _ _ _ _ _ z => z.elim)
      obtain ⟨rfl, rfl, hdc, hds⟩ := hp210031
      change G _ _ _ _ _ _ _ (.int p210006 :: _) _ _ _
      refine G_widen (cs' := ((rPh gm_F209978 el_F209978 f - rPh γ0 el0 f) / 18)) (sl' := (rPh gm_F209978 el_F209978 f - rPh γ0 el0 f)) (rm_d0 hdc) (rm_d0 hds) ?_
      refine G_icmp_ge 117 dr_cX13_copy_11 (by decide +kernel) (fun hc210034 => ?_) (fun hc210034 => ?_)
      · have r210035 : p210006.toInt ≤ g209976.toInt := gC_le hc210034
        have hx210036 : tl_RCode_copy_6 D I γ0 el0 f fo P196670 F196671 q196672 q196673 P196670 F196686 gm_F196686 el_F196686 (0 : Int32) 117 F209978 P209977 gm_F209978 el_F209978 := kt6_209991 117 F209978 P209977 gm_F209978 el_F209978 (fun R c1 c2 => c1 P209977 F209978 gm_F209978 el_F209978 g209976 p210006 bg209976 hT209979 hs209980 x209983 x209984 x209985 x209986 x209987 x209988 x209989 x209990 fq210028 r210035)
        have r210037 := RS_valid hT0 hzq196673 hfo0 x196674
        have r210038 : (g209976.toInt : Int).toNat = γ0 6 fo := by omega
        have kb210039 := x209988
        rw [r210038] at kb210039
        have hv210040 := St_val (f := f) (n := γ0 6 fo) hT209979 ht209992 hf209993 (by omega) x196674 (by omega) (by omega) (by omega) kb210039
        obtain ⟨gm_hg210041, hg210041⟩ : ∃ z, z = gVal gm_F209978 6 f (γ0 6 fo) := ⟨_, rfl⟩
        rw [← hg210041] at hv210040
        have hk210042 := rSk_of hv210040.1
        have r210043 := hv210040.2.1
        have hT210044 := hk210042.1
        have hs210045 := rSk_tr hs209980 hk210042 (by decide) (by decide) (by decide)
        have ht210046 : rKd gm_hg210041 q196672 9 := rSk_k hk210042 ht209992 (by decide) (by decide)
        have hf210047 : gm_hg210041 1 q196672 = f := rSk_1 hk210042 ht209992 (by decide) hf209993
        have ht210048 : rKd gm_hg210041 q196673 9 := rSk_kf hk210042 ht209994 (by decide) (by rw [hf209995]; exact hne)
        have hf210049 : gm_hg210041 1 q196673 = fo := rSk_1 hk210042 ht209994 (by decide) hf209995
        have kb210050 : rKb gm_hg210041 el_F209978 q196672 (g209976.toInt : Int).toNat := rKb_t x209988 hk210042 (by decide) (rSk_s hk210042 ht209992 (by decide)).2.1 (fun _ _ => rfl)
        clear r210011 r210012 r210013 r210014 r210015 r210016 r210018 r210019 r210020 r210021 bp210005 bp210006
        have r210051 := rSk_g hs210045 hne
        have r210052 : 0 < gm_hg210041 6 (gm_hg210041 1 q196673) := by rw [hf210049, r210051.1]; exact x196674
        have r210053 : gm_hg210041 6 fo = γ0 6 fo := r210051.1
        have r210054 : gm_hg210041 7 fo = 0 := by rw [r210051.2.1]; exact x196675
        have hB210055 : rBd gm_hg210041 el_F209978 f B := hv210040.2.2.2 B hB209982
        have hph210056 : rPh γ0 el0 f ≤ rPh gm_hg210041 el_F209978 f := by rw [r210043]; exact hph209981
        have pk210057 : rPh gm_hg210041 el_F209978 f ≤ 387 * B + 6000 := rm_pk (rM_ge hT210044 ht210046 hf210047).1 (rM_bd hB210055)
        refine G_widen (cs' := ((rPh gm_hg210041 el_F209978 f - rPh γ0 el0 f) / 18)) (sl' := (rPh gm_hg210041 el_F209978 f - rPh γ0 el0 f)) (rm_ec r210043) (rm_es r210043) ?_
        have r210058 := gVal_n hg210041
        have r210059 := rsum_m (f := fun i => γ0 2 (γ0 14 (el0 (γ0 14 q196673) i))) _ (show (g209976.toInt : Int).toNat ≤ γ0 6 fo by omega)
        exact G_vretA dr_cX13_copy_117 rfl (show ((rPh gm_hg210041 el_F209978 f - rPh γ0 el0 f) / 18) ≤ (((387 * B + 6000) - rPh γ0 el0 f) / 18) by omega) (show (rPh gm_hg210041 el_F209978 f - rPh γ0 el0 f) ≤ ((387 * B + 6000) - rPh γ0 el0 f) by omega) ⟨P209977, F209978, gm_hg210041, el_F209978, rfl, rfl, hs210045, ⟨by omega, by omega⟩, hB210055, (by omega), (by omega), (by omega), (by omega), (fun R c1 => c1 gm_0 el_0 F196686 gm_F196686 el_F196686 F209978 P209977 gm_F209978 el_F209978 gm_hg210041 hγ0 hel0 hq196688 hx210036 hg210041)⟩
      · have r210060 : g209976.toInt < p210006.toInt := gC_nle hc210034
        have bg209976' : gB g209976 0 999999 := ⟨by omega, by omega⟩
        have bp210006' : gB p210006 1 1000000 := ⟨by omega, by omega⟩
        refine G_aload_n 2 dr_cX13_copy_14 rfl ?_
        refine G_iload_n 0 dr_cX13_copy_15 rfl ?_
        have hm210061 : q210003 ∈ P209977 := RS_m hT209979 ht210007 (by decide)
        obtain ⟨⟨p210063, p210064, q210065, he210062, r210066, r210067, r210068, r210070⟩, r210069⟩ := show rk_4 D I gm_F209978 el_F209978 F209978 q210003 from RS_o hT209979 ht210007
        have bp210063 := gB_any p210063
        have bp210064 : gB p210064 0 1000000 := ⟨by omega, by omega⟩
        obtain ⟨r210071, r210072, n210079, f210080, r210073, r210074, r210075, r210076, r210077, r210078⟩ := rLC_n r210068 (by omega)
        have hm210081 : q210065 ∈ P209977 := RS_m hT209979 r210071 (by decide)
        obtain ⟨q210082, hx210083⟩ : ∃ x, x = el_F209978 q210003 g209976.toInt.toNat := ⟨_, rfl⟩
        have fq210087 : fR (F209978 q196673) 0 = q210003 := by rw [he210002]; rfl
        have hx210084 : f210080 g209976.toNatClampNeg = some q210082 := (r210077 _ (show g209976.toInt.toNat < gm_F209978 2 q210003 by first | assumption | omega)).trans (by rw [hx210083])
        have ht210088 : rKd gm_F209978 q210082 2 := by rw [hx210083]; exact (r210018 _ (by omega)).resolve_right (fun z => absurd z.1 (by omega))
        have ht210089 : rFm gm_F209978 q210082 q210003 := by rw [hx210083]; exact (r210069 _ (show g209976.toInt.toNat < gm_F209978 2 q210003 by omega)).2.1
        have hm210090 : q210082 ∈ P209977 := RS_m hT209979 ht210088 (by decide)
        obtain ⟨q210092, q210093, p210094, p210095, he210091, ht210102, ht210096, ht210097, ht210098, ht210099, ht210100, bp210094, bp210095, r210101, r210103, r210104⟩ := show rk_2 gm_F209978 q210082 (F209978 q210082) from RS_o hT209979 ht210088
        have fq210105 : fI (F209978 q210003) 2 = p210064 := by rw [he210062]; rfl
        refine Gw_callV (As := [.int g209976]) (gV_ok D I) (cp_7901_Code_get l hl0 D I P209977 F209978 q196673 q210003 q210065 g209976 q210004 p210005 p210006 p210063 p210064 f210080 n210079 q210082 q210092 q210093 p210094 p210095 hm210001 hm210061 hm210081 hm210090 he210002 he210062 r210073 he210091 (gB_w bg209976' (by decide) (by decide)) (gB_w bp210064 (by decide) (by decide)) (by omega) (by omega) (by assumption) (by omega)) dr_cX13_copy_16 ⟨wr_10_138, wr_1_15, wr_10_141, by decide, rfl, (Nat.le_of_ble_eq_true rfl), (Nat.le_of_ble_eq_true rfl)⟩ wr_10_139 wr_10_140 hm210001 he210002 rfl (rm_zc pk209996) (rm_zs pk209996) (Nat.le_of_ble_eq_true rfl) (fun r210109 w210110 dc210106 ds210107 hp210108 => ?_) (fun _ _ _ _ _ z => z.elim)
        obtain ⟨rfl, rfl, hdc, hds, ht210111⟩ := hp210108
        change G _ _ _ _ _ _ _ (.ref q210082 :: _) _ _ _
        refine G_widen (cs' := ((rPh gm_F209978 el_F209978 f - rPh γ0 el0 f) / 18)) (sl' := (rPh gm_F209978 el_F209978 f - rPh γ0 el0 f)) (rm_d0 hdc) (rm_d0 hds) ?_
        have r210112 := RS_valid hT0 hzq196673 hfo0 x196674
        have r210113 := rSk_o (i := g209976.toInt.toNat) hT0 hs209980 hzq196673 (by rw [hfo0]; exact hne)
        have hx0210114 : q210082 = el0 (γ0 14 q196673) (g209976.toInt : Int).toNat := by rw [hx210083, ← ht210022.1, r210113.1, r210113.2.2.1]
        have hf210115 : gm_F209978 1 q210082 = fo := (show gm_F209978 1 q210082 = gm_F209978 1 q210003 from ht210089).trans ((show gm_F209978 1 q210003 = gm_F209978 1 q196673 from ht210008).trans hf209995)
        refine G_astore_n (L' := [(3, .ref q210082), (2, .int g209976), (0, .ref q196672), (1, .ref q196673)]) dr_cX13_copy_19 (Nat.le_of_ble_eq_true rfl) rfl ?_
        refine G_aload_n 2 dr_cX13_copy_20 rfl ?_
        have rg210116 := rM_ge hT209979 ht209992 hf209993
        have rm210117 := rM_bd hB209982
        have bd210118 := rBd_c hT209979 ht209992 hf209993 hB209982
        refine Gt_block (c := q196672) (f := f) hl0 dr_cX13_copy_21 ⟨wr_10_142, wr_1_15, wr_9_156, by decide, rfl, (Nat.le_of_ble_eq_true rfl), (Nat.le_of_ble_eq_true rfl)⟩ wr_9_154 wr_9_155 hT209979 ht209992 hf209993 (by omega) (Nat.le_trans bd210118.2.1 (by decide)) (rm_cs hph209981 rg210116.1 rm210117 (by decide)) (rm_sl hph209981 rg210116.1 rm210117 rm_s25) (Nat.le_of_ble_eq_true rfl) (fun P210119 F210120 gm_F210120 el_F210120 q210121 dc210122 ds210123 hq210124 => ?_)
        have hq210125 := hq210124
        obtain ⟨hk210126, b0210127, b1210128, ⟨jb210129, j1210130, j2210131, j3210132, j4210133, j5210134, j6210135⟩, hz210136, h16210137, h18210138, hnu210139, hot210140, h45210141, ⟨hr1210142, hr2210143⟩, hM210144, hBB210145⟩ := hq210124
        have hk210146 := rSk_of hk210126
        have hT210147 := hk210146.1
        have hs210148 := rSk_tr hs209980 hk210146 (by decide) (by decide) (by decide)
        have ht210149 : rKd gm_F210120 q196672 9 := rSk_k hk210146 ht209992 (by decide) (by decide)
        have hf210150 : gm_F210120 1 q196672 = f := rSk_1 hk210146 ht209992 (by decide) hf209993
        have ht210151 : rKd gm_F210120 q196673 9 := rSk_kf hk210146 ht209994 (by decide) (by rw [hf209995]; exact hne)
        have hf210152 : gm_F210120 1 q196673 = fo := rSk_1 hk210146 ht209994 (by decide) hf209995
        have ht210153 : rKd gm_F210120 q210082 2 := rSk_kf hk210146 ht210088 (by decide) (by rw [hf210115]; exact hne)
        have hf210154 : gm_F210120 1 q210082 = fo := rSk_1 hk210146 ht210088 (by decide) hf210115
        have kb210155 : rKb gm_F210120 el_F210120 q196672 (g209976.toInt : Int).toNat := rKb_t x209988 hk210146 (by decide) (rSk_s hk210146 ht209992 (by decide)).2.1 (fun i hi => j6210135 i (by omega))
        clear r210011 r210012 r210013 r210014 r210015 r210016 r210018 r210019 r210020 r210021 bp210005 bp210006 bp210094 bp210095 r210103 r210104 rg210116 rm210117 bd210118
        clear r210101
        have r210156 := rSk_g hs210148 hne
        have r210157 : 0 < gm_F210120 6 (gm_F210120 1 q196673) := by rw [hf210152, r210156.1]; exact x196674
        have r210158 : gm_F210120 6 fo = γ0 6 fo := r210156.1
        have r210159 : gm_F210120 7 fo = 0 := by rw [r210156.2.1]; exact x196675
        have r210161 := RS_valid hT0 hzq196673 hfo0 x196674
        have r210160 := (rSk_o (i := g209976.toInt.toNat) hT0 hs210148 hzq196673 (by rw [hfo0]; exact hne)).2.2.2 (by omega)
        rw [← hx0210114] at r210160
        have xs210162 : gm_F210120 2 (gm_F210120 14 q210082) = γ0 2 (γ0 14 q210082) := by rw [r210160.1]; exact r210160.2.1
        have hB210163 : rBd gm_F210120 el_F210120 f B := hBB210145 B (by omega) hB209982
        have r210164 := (rSk_s hk210146 ht209992 (by decide)).2.1
        obtain ⟨nu210165, nu210166, nu210167, nu210168⟩ := hnu210139
        have ht210169 : rKd gm_F210120 q210121 202 := b0210127
        have r210170 : (g209976.toInt : Int).toNat = jb210129 := by omega
        have r210171 : (g209976.toInt : Int).toNat < gm_F210120 2 (gm_F210120 14 q196672) := by rw [r210164, r210170]; exact j3210132
        have r210172 : el_F210120 (gm_F210120 14 q196672) (g209976.toInt : Int).toNat = q210121 := by rw [r210164, r210170]; exact j4210133
        have hph210173 : rPh γ0 el0 f ≤ rPh gm_F210120 el_F210120 f := rm_ph hph209981 hr2210143
        have pk210174 : rPh gm_F210120 el_F210120 f ≤ 387 * B + 6000 := rm_pk (rM_ge hT210147 ht210149 hf210150).1 (rM_bd hB210163)
        refine G_widen (cs' := ((rPh gm_F210120 el_F210120 f - rPh γ0 el0 f) / 18)) (sl' := (rPh gm_F210120 el_F210120 f - rPh γ0 el0 f)) (rm_wc hph209981 hr1210142) (rm_ws hph209981 hr2210143) ?_
        refine G_astore (L' := [(4, .ref q210121), (3, .ref q210082), (2, .int g209976), (0, .ref q196672), (1, .ref q196673)]) dr_cX13_copy_24 (Nat.le_of_ble_eq_true rfl) rfl ?_
        refine G_iconst 0 dr_cX13_copy_26 (by decide +kernel) ?_
        refine G_istore (L' := [(5, .int 0), (4, .ref q210121), (3, .ref q210082), (2, .int g209976), (0, .ref q196672), (1, .ref q196673)]) dr_cX13_copy_27 (Nat.le_of_ble_eq_true rfl) rfl ?_
        have hlp29_210641 : ∀ (n29_210641 : Nat) (P210620 : List Nat) (F210621 : Nat → va_E) (gm_F210621 el_F210621 : Nat → Nat → Nat) (g210619 : Int32), gB g210619 0 1000000 → RS D I P210620 F210621 gm_F210621 el_F210621 → rSk f [1, 2, 3, 101, 102, 103, 202] ([1, 2, 3, 4, 5, 6, 7, 8, 9, 101, 102, 103, 202]) D I P196670 F196671 γ0 el0 P210620 F210621 gm_F210621 el_F210621 → rPh γ0 el0 f ≤ rPh gm_F210621 el_F210621 f → rBd gm_F210621 el_F210621 f B → rKd gm_F210621 q210121 202 → gm_F210621 1 q210121 = f → (g209976.toInt : Int).toNat < gm_F210621 2 (gm_F210621 14 q196672) → el_F210621 (gm_F210621 14 q196672) (g209976.toInt : Int).toNat = q210121 → rKd gm_F210621 q210082 2 → gm_F210621 1 q210082 = fo → gm_F210621 6 f = 0 → gm_F210621 19 f = γ0 6 fo → gm_F210621 18 f = 0 → gm_F210621 7 f = 0 → (fI (F210621 q196672) 3).toInt = g209976.toInt + 1 → rKb gm_F210621 el_F210621 q196672 (g209976.toInt : Int).toNat → gm_F210621 16 f ≤ rsum (fun i => γ0 2 (γ0 14 (el0 (γ0 14 q196673) i))) (g209976.toInt : Int).toNat + (g210619.toInt : Int).toNat → (g209976.toInt : Int) < γ0 6 fo → q210082 = el0 (γ0 14 q196673) (g209976.toInt : Int).toNat → (g210619.toInt : Int) ≤ γ0 2 (γ0 14 q210082) → (∀ (k : Nat) (e1 : Nat → va_E) (e2 : List Nat) (e3 : Nat → Nat → Nat) (e4 : Nat → Nat → Nat), tl_RCode_copy_29 D I γ0 el0 f fo P196670 F196671 q196672 g209976 q196673 q210082 q210121 P210620 F210621 gm_F210621 el_F210621 g210619 k e1 e2 e3 e4 → tl_RCode_copy_29 D I γ0 el0 f fo P196670 F196671 q196672 g209976 q196673 q210082 q210121 P210119 F210120 gm_F210120 el_F210120 (0 : Int32) k e1 e2 e3 e4) → (γ0 2 (γ0 14 q210082) - (g210619.toInt : Int).toNat) < n29_210641 → G (gV D I) l (gRm 8 170 (((387 * B + 6000) - rPh γ0 el0 f) / 18) ((387 * B + 6000) - rPh γ0 el0 f)) (gMA (gV D I) (pg_196677_Code_copy D I γ0 el0 f fo B P196670 F196671 q196672 q196673) gNA (((387 * B + 6000) - rPh γ0 el0 f) / 18) ((387 * B + 6000) - rPh γ0 el0 f)) ky_196677_Code_copy 29 [(5, .int g210619), (4, .ref q210121), (3, .ref q210082), (2, .int g209976), (0, .ref q196672), (1, .ref q196673)] [] (va_pl P210620 F210621) ((rPh gm_F210621 el_F210621 f - rPh γ0 el0 f) / 18) (rPh gm_F210621 el_F210621 f - rPh γ0 el0 f) := by
          intro n29_210641
          induction n29_210641 with
          | zero => intro P210620 F210621 gm_F210621 el_F210621 g210619 bg210619 hT210622 hs210623 hph210624 hB210625 ht210626 hf210627 r210628 r210629 ht210630 hf210631 x210632 x210633 x210634 x210635 x210636 x210637 x210638 x210639 x210640 x210641 kt29_210642 hm29_210641; exact absurd hm29_210641 (Nat.not_lt_zero _)
          | succ n29_210641 ih29_210641 =>
            intro P210620 F210621 gm_F210621 el_F210621 g210619 bg210619 hT210622 hs210623 hph210624 hB210625 ht210626 hf210627 r210628 r210629 ht210630 hf210631 x210632 x210633 x210634 x210635 x210636 x210637 x210638 x210639 x210640 x210641 kt29_210642 hm29_210641
            clear r210025 r210026 r210027 r210066 r210067 r210068 r210070 r210069 r210071 r210072 r210073 r210074 r210075 r210076 r210077 r210078 r210112 r210113 j1210130 j2210131 j3210132 j5210134 h16210137 h18210138 hr1210142 hr2210143 hM210144 r210156 r210157 r210158 r210159 r210161 r210160 r210164 nu210165 nu210166 nu210167 nu210168 r210170 r210171 r210172 hph210173 pk210174
            have ht210643 : rKd gm_F210621 q196672 9 := rSk_k hs210623 hzq196672 (by decide) (by decide)
            have hf210644 : gm_F210621 1 q196672 = f := rSk_1 hs210623 hzq196672 (by decide) hf0
            have ht210645 : rKd gm_F210621 q196673 9 := rSk_k hs210623 hzq196673 (by decide) (by decide)
            have hf210646 : gm_F210621 1 q196673 = fo := rSk_1 hs210623 hzq196673 (by decide) hfo0
            have pk210647 : rPh gm_F210621 el_F210621 f ≤ 387 * B + 6000 := rm_pk (rM_ge hT210622 ht210643 hf210644).1 (rM_bd hB210625)
            have r210648 := rSk_g hs210623 hne
            have r210649 : 0 < gm_F210621 6 (gm_F210621 1 q196673) := by rw [hf210646, r210648.1]; exact x196674
            have r210650 : gm_F210621 6 fo = γ0 6 fo := r210648.1
            have r210651 : gm_F210621 7 fo = 0 := by rw [r210648.2.1]; exact x196675
            have r210653 := RS_valid hT0 hzq196673 hfo0 x196674
            have r210652 := (rSk_o (i := g209976.toInt.toNat) hT0 hs210623 hzq196673 (by rw [hfo0]; exact hne)).2.2.2 (by omega)
            rw [← x210640] at r210652
            have xs210654 : gm_F210621 2 (gm_F210621 14 q210082) = γ0 2 (γ0 14 q210082) := by rw [r210652.1]; exact r210652.2.1
            refine G_iload 0 dr_cX13_copy_29 rfl ?_
            refine G_aload_n 2 dr_cX13_copy_31 rfl ?_
            have hm210655 : q210082 ∈ P210620 := RS_m hT210622 ht210630 (by decide)
            obtain ⟨q210657, q210658, p210659, p210660, he210656, ht210667, ht210661, ht210662, ht210663, ht210664, ht210665, bp210659, bp210660, r210666, r210668, r210669⟩ := show rk_2 gm_F210621 q210082 (F210621 q210082) from RS_o hT210622 ht210630
            have hf210670 : gm_F210621 1 q210657 = fo := (show gm_F210621 1 q210657 = gm_F210621 1 q210082 from ht210662).trans hf210631
            have hf210671 : gm_F210621 1 q210658 = fo := (show gm_F210621 1 q210658 = gm_F210621 1 q210082 from ht210664).trans hf210631
            have r210672 : gm_F210621 6 (gm_F210621 1 q210082) = gm_F210621 6 fo := by rw [hf210631]
            have r210673 : gm_F210621 7 (gm_F210621 1 q210082) = gm_F210621 7 fo := by rw [hf210631]
            have r210674 : gm_F210621 19 (gm_F210621 1 q210082) = gm_F210621 19 fo := by rw [hf210631]
            have r210675 := r210666.resolve_left (by omega)
            clear r210666
            have r210676 : gm_F210621 2 (gm_F210621 14 q210082) = gm_F210621 2 q210657 := by rw [ht210667.1]
            have fq210677 : fR (F210621 q210082) 0 = q210657 := by rw [he210656]; rfl
            refine Gp_get 0 hm210655 he210656 dr_cX13_copy_32 (gk_X12 D I) (Nat.le_of_ble_eq_true rfl) wr_9_219 rfl ?_
            have hm210678 : q210657 ∈ P210620 := RS_m hT210622 ht210661 (by decide)
            obtain ⟨⟨p210680, p210681, q210682, he210679, r210683, r210684, r210685, r210687⟩, r210686⟩ := show rk_3 D I gm_F210621 el_F210621 F210621 q210657 from RS_o hT210622 ht210661
            have bp210680 := gB_any p210680
            have bp210681 : gB p210681 0 1000000 := ⟨by omega, by omega⟩
            have fq210688 : p210681.toInt = (gm_F210621 2 q210657 : Int) := by omega
            have fq210689 : fI (F210621 q210657) 2 = p210681 := by rw [he210679]; rfl
            refine Gw_callV (As := []) (gV_ok D I) (cp_7_ArrayList_size l hl0 D I P210620 F210621 q210657 p210680 q210682 p210681 hm210678 he210679 (gB_w bp210681 (by decide) (by decide))) dr_cX13_copy_35 ⟨wr_9_157, wr_1_18, wr_9_160, by decide, rfl, (Nat.le_of_ble_eq_true rfl), (Nat.le_of_ble_eq_true rfl)⟩ wr_9_158 wr_9_159 hm210678 he210679 rfl (rm_zc pk210647) (rm_zs pk210647) (Nat.le_of_ble_eq_true rfl) (fun r210693 w210694 dc210690 ds210691 hp210692 => ?_) (fun _ _ _ _ _ z => z.elim)
            obtain ⟨rfl, rfl, hdc, hds⟩ := hp210692
            change G _ _ _ _ _ _ _ (.int p210681 :: _) _ _ _
            refine G_widen (cs' := ((rPh gm_F210621 el_F210621 f - rPh γ0 el0 f) / 18)) (sl' := (rPh gm_F210621 el_F210621 f - rPh γ0 el0 f)) (rm_d0 hdc) (rm_d0 hds) ?_
            refine G_icmp_ge 81 dr_cX13_copy_38 (by decide +kernel) (fun hc210695 => ?_) (fun hc210695 => ?_)
            · have r210696 : p210681.toInt ≤ g210619.toInt := gC_le hc210695
              have hx210697 : tl_RCode_copy_29 D I γ0 el0 f fo P196670 F196671 q196672 g209976 q196673 q210082 q210121 P210119 F210120 gm_F210120 el_F210120 (0 : Int32) 81 F210621 P210620 gm_F210621 el_F210621 := kt29_210642 81 F210621 P210620 gm_F210621 el_F210621 (fun R c1 c2 => c1 P210620 F210621 gm_F210621 el_F210621 g210619 q210657 p210681 bg210619 hT210622 hs210623 x210632 x210633 x210634 x210635 x210636 x210637 x210638 x210639 x210640 x210641 fq210677 fq210688 fq210689 r210696)
              refine G_aload 1 dr_cX13_copy_81 rfl ?_
              have hm210698 : q210121 ∈ P210620 := RS_m hT210622 ht210626 (by decide)
              obtain ⟨q210700, q210701, p210702, p210703, he210699, ht210709, ht210704, ht210705, ht210706, ht210707, ht210708, bp210702, bp210703⟩ := show rk_202 gm_F210621 q210121 (F210621 q210121) from RS_o hT210622 ht210626
              have hf210710 : gm_F210621 1 q210700 = f := (show gm_F210621 1 q210700 = gm_F210621 1 q210121 from ht210705).trans hf210627
              have hf210711 : gm_F210621 1 q210701 = f := (show gm_F210621 1 q210701 = gm_F210621 1 q210121 from ht210707).trans hf210627
              have r210712 : gm_F210621 6 (gm_F210621 1 q210121) = gm_F210621 6 f := by rw [hf210627]
              have r210713 : gm_F210621 7 (gm_F210621 1 q210121) = gm_F210621 7 f := by rw [hf210627]
              have r210714 : gm_F210621 19 (gm_F210621 1 q210121) = gm_F210621 19 f := by rw [hf210627]
              have r210715 : gm_F210621 2 (gm_F210621 14 q210121) = gm_F210621 2 q210700 := by rw [ht210709.1]
              have fq210716 : fR (F210621 q210121) 1 = q210701 := by rw [he210699]; rfl
              refine Gp_get 1 hm210698 he210699 dr_cX13_copy_83 (gk_X12 D I) (Nat.le_of_ble_eq_true rfl) wr_9_224 rfl ?_
              refine G_aload_n 2 dr_cX13_copy_86 rfl ?_
              have fq210717 : fR (F210621 q210082) 1 = q210658 := by rw [he210656]; rfl
              refine Gp_get 1 hm210655 he210656 dr_cX13_copy_87 (gk_X12 D I) (Nat.le_of_ble_eq_true rfl) wr_9_224 rfl ?_
              have hm210718 : q210701 ∈ P210620 := RS_m hT210622 ht210706 (by decide)
              obtain ⟨p210720, p210721, p210722, p210723, p210724, p210725, p210726, he210719, bp210720, bp210721, bp210724, bp210725, bp210726, r210727, r210728, r210729⟩ := show rkR (F210621 q210701) from RS_o hT210622 ht210706
              have bp210722 := gB_any p210722
              have bp210723 := gB_any p210723
              have r210730 : gm_F210621 7 (gm_F210621 1 q210701) = gm_F210621 7 f := by rw [hf210711]
              have hm210731 : q210658 ∈ P210620 := RS_m hT210622 ht210663 (by decide)
              obtain ⟨p210733, p210734, p210735, p210736, p210737, p210738, p210739, he210732, bp210733, bp210734, bp210737, bp210738, bp210739, r210740, r210741, r210742, r210743, r210744⟩ := show rk_1 gm_F210621 q210658 (F210621 q210658) from RS_o hT210622 ht210663
              have bp210735 := gB_any p210735
              have bp210736 := gB_any p210736
              have r210745 : gm_F210621 7 (gm_F210621 1 q210658) = gm_F210621 7 fo := by rw [hf210671]
              have fq210746 : fI (F210621 q210658) 0 = p210733 := by rw [he210732]; rfl
              have fq210747 : fI (F210621 q210658) 1 = p210734 := by rw [he210732]; rfl
              have fq210748 : fI (F210621 q210658) 2 = p210735 := by rw [he210732]; rfl
              have fq210749 : fI (F210621 q210658) 3 = p210736 := by rw [he210732]; rfl
              have fq210750 : fI (F210621 q210658) 4 = p210737 := by rw [he210732]; rfl
              have fq210751 : fI (F210621 q210658) 5 = p210738 := by rw [he210732]; rfl
              have fq210752 : fI (F210621 q210658) 6 = p210739 := by rw [he210732]; rfl
              refine Gw_callV (As := [.ref q210658]) (gV_ok D I) (cp_1728_Row_put l hl0 D I P210620 F210621 q210701 q210658 p210720 p210721 p210722 p210723 p210724 p210725 p210726 p210733 p210734 p210735 p210736 p210737 p210738 p210739 hm210718 hm210731 he210719 he210732 (rn_ty ht210706 ht210663 (by decide)) bp210720 bp210721 bp210724 bp210725 bp210726 bp210733 bp210734 bp210737 bp210738 bp210739) dr_cX13_copy_90 ⟨wr_10_144, wr_1_39, wr_10_147, by decide, rfl, (Nat.le_of_ble_eq_true rfl), (Nat.le_of_ble_eq_true rfl)⟩ wr_10_145 wr_10_146 hm210718 he210719 rfl (rm_zc pk210647) (rm_zs pk210647) (Nat.le_of_ble_eq_true rfl) (fun r210756 w210757 dc210753 ds210754 hp210755 => ?_) (fun _ _ _ _ _ z => z.elim)
              obtain ⟨F210758, rfl, rfl, hfr210760, he210761, he210762, hdc, hds⟩ := hp210755
              have he210763 : F210758 q210082 = .inr (17, [.ref q210657, .ref q210658, .int p210659, .int p210660]) := (hfr210760 q210082 hm210655 (nm_c (rn_oo he210656 he210719 (by decide)) nm_n)).trans he210656
              have he210764 : F210758 q210657 = .inr (4, [.int p210680, .ref q210682, .int p210681]) := (hfr210760 q210657 hm210678 (nm_c (rn_oo he210679 he210719 (by decide)) nm_n)).trans he210679
              have he210765 : F210758 q210121 = .inr (17, [.ref q210700, .ref q210701, .int p210702, .int p210703]) := (hfr210760 q210121 hm210698 (nm_c (rn_oo he210699 he210719 (by decide)) nm_n)).trans he210699
              have hfr210766 : rFr [q210701] P210620 F210621 F210758 := rFr_call (rSub_rf (P := P210620)) (rFr_rf (W := []) (P := P210620) (F := F210621)) hfr210760 (fun b hb hn => ⟨nm_n, (nm_c (fun e => hn (e ▸ List.mem_cons_self)) nm_n)⟩)
              change G _ _ _ _ _ _ _ _ _ _ _
              refine G_widen (cs' := ((rPh gm_F210621 el_F210621 f - rPh γ0 el0 f) / 18)) (sl' := (rPh gm_F210621 el_F210621 f - rPh γ0 el0 f)) (rm_d0 hdc) (rm_d0 hds) ?_
              have hT210767 : RS D I P210620 F210758 gm_F210621 el_F210621 := RS_fr hT210622 hfr210766 ht210706 (by decide) ⟨p210733, p210734, p210735, p210736, p210737, p210738, p210739, he210761, bp210733, bp210734, bp210737, bp210738, bp210739, r210740, r210741, r210742⟩
              have hs210768 := rSk_fr hs210623 hT210767 hfr210766 ht210706 (by decide) (by decide) (Or.inr (Or.inl hf210711))
              have md210769 : (fI (F210758 q196672) 3).toInt = (fI (F210621 q196672) 3).toInt := by rw [hfr210766 q196672 (RS_m hT210622 ht210643 (by decide)) (nm_c (rn_ty ht210643 ht210706 (by decide)) nm_n)]
              refine G_aload 1 dr_cX13_copy_93 rfl ?_
              refine G_aload_n 2 dr_cX13_copy_95 rfl ?_
              have fq210770 : fI (F210758 q210082) 2 = p210659 := by rw [he210763]; rfl
              refine Gp_get 2 hm210655 he210763 dr_cX13_copy_96 (gk_X12 D I) (Nat.le_of_ble_eq_true rfl) wr_9_227 rfl ?_
              refine Gp_put 2 hm210698 he210765 dr_cX13_copy_99 (gk_X12 D I) (Nat.le_of_ble_eq_true rfl) wr_9_227 rfl rfl rfl (Nat.le_of_ble_eq_true rfl) (fun F210771 e210772 n210773 => ?_)
              have he210774 : F210771 q210082 = .inr (17, [.ref q210657, .ref q210658, .int p210659, .int p210660]) := (n210773 q210082 (rn_ty ht210630 ht210626 (by decide))).trans he210763
              have he210775 : F210771 q210657 = .inr (4, [.int p210680, .ref q210682, .int p210681]) := (n210773 q210657 (rn_oo he210764 he210765 (by decide))).trans he210764
              have he210776 : F210771 q210701 = .inr (20, [.int p210733, .int p210734, .int p210735, .int p210736, .int p210737, .int p210738, .int p210739]) := (n210773 q210701 (rn_oo he210761 he210765 (by decide))).trans he210761
              have he210777 : F210771 q210658 = .inr (20, [.int p210733, .int p210734, .int p210735, .int p210736, .int p210737, .int p210738, .int p210739]) := (n210773 q210658 (rn_oo he210762 he210765 (by decide))).trans he210762
              have he210778 : F210771 q210121 = .inr (17, [.ref q210700, .ref q210701, .int p210659, .int p210703]) := e210772
              have fq210779 : F210771 q210121 = cF (F210758 q210121) 2 (.int p210659) := by rw [he210778, he210765]; rfl
              refine G_aload 1 dr_cX13_copy_102 rfl ?_
              refine G_aload_n 2 dr_cX13_copy_104 rfl ?_
              have fq210780 : fI (F210771 q210082) 3 = p210660 := by rw [he210774]; rfl
              refine Gp_get 3 hm210655 he210774 dr_cX13_copy_105 (gk_X12 D I) (Nat.le_of_ble_eq_true rfl) wr_9_231 rfl ?_
              refine Gp_put 3 hm210698 he210778 dr_cX13_copy_108 (gk_X12 D I) (Nat.le_of_ble_eq_true rfl) wr_9_231 rfl rfl rfl (Nat.le_of_ble_eq_true rfl) (fun F210781 e210782 n210783 => ?_)
              have he210784 : F210781 q210082 = .inr (17, [.ref q210657, .ref q210658, .int p210659, .int p210660]) := (n210783 q210082 (rn_ty ht210630 ht210626 (by decide))).trans he210774
              have he210785 : F210781 q210657 = .inr (4, [.int p210680, .ref q210682, .int p210681]) := (n210783 q210657 (rn_oo he210775 he210778 (by decide))).trans he210775
              have he210786 : F210781 q210701 = .inr (20, [.int p210733, .int p210734, .int p210735, .int p210736, .int p210737, .int p210738, .int p210739]) := (n210783 q210701 (rn_oo he210776 he210778 (by decide))).trans he210776
              have he210787 : F210781 q210658 = .inr (20, [.int p210733, .int p210734, .int p210735, .int p210736, .int p210737, .int p210738, .int p210739]) := (n210783 q210658 (rn_oo he210777 he210778 (by decide))).trans he210777
              have he210788 : F210781 q210121 = .inr (17, [.ref q210700, .ref q210701, .int p210659, .int p210660]) := e210782
              have n210789 : ∀ b, b ≠ q210121 → F210781 b = F210758 b := fun b hb => (n210783 b hb).trans (n210773 b hb)
              have fq210790 : F210781 q210121 = cF (F210771 q210121) 3 (.int p210660) := by rw [he210788, he210778]; rfl
              have hT210791 : RS D I P210620 F210781 gm_F210621 el_F210621 := RS_set hT210767 n210789 ht210626 (by decide) ⟨q210700, q210701, p210659, p210660, he210788, ht210709, ht210704, ht210705, ht210706, ht210707, ht210708, bp210659, bp210660⟩
              have hs210792 := rSk_put hs210768 hT210791 n210789 ht210626 (by decide) (by decide) (Or.inr (Or.inl hf210627))
              have md210793 : (fI (F210781 q196672) 3).toInt = (fI (F210758 q196672) 3).toInt := by rw [n210789 q196672 (rn_ty ht210643 ht210626 (by decide))]
              have hx210794 : rk_1 gm_F210621 q210701 (F210781 q210701) := ⟨p210733, p210734, p210735, p210736, p210737, p210738, p210739, he210786, bp210733, bp210734, bp210737, bp210738, bp210739, r210740, r210741, r210742, (Or.inl (r210743.resolve_right (by omega))), (Or.inr (r210744.resolve_left (fun z => absurd (ht210665.2.symm.trans z) (by decide))))⟩
              have hv210795 := St_seal (f := f) hT210791 ht210626 hf210627 he210788 ht210643 hf210644 (by omega) (by omega) (by omega) hx210794
              have hv210795 := And.intro hv210795 (gSea_ph (γ := gm_F210621) (el := el_F210621) (f := f) (b := q210121) (n := q210701))
              obtain ⟨gm_hg210796, hg210796⟩ : ∃ z, z = gSea gm_F210621 q210121 q210701 := ⟨_, rfl⟩
              have fq210797 : fR (F210781 q210121) 1 = q210701 := by rw [he210788]; rfl
              rw [← hg210796] at hv210795
              have hk210798 := rSk_of hv210795.1
              have r210799 := hv210795.2.1
              have hT210800 := hk210798.1
              have hs210801 := rSk_tr hs210792 hk210798 (by decide) (by decide) (by decide)
              have ht210802 : rKd gm_hg210796 q196672 9 := rSk_k hk210798 ht210643 (by decide) (by decide)
              have hf210803 : gm_hg210796 1 q196672 = f := rSk_1 hk210798 ht210643 (by decide) hf210644
              have ht210804 : rKd gm_hg210796 q196673 9 := rSk_kf hk210798 ht210645 (by decide) (by rw [hf210646]; exact hne)
              have hf210805 : gm_hg210796 1 q196673 = fo := rSk_1 hk210798 ht210645 (by decide) hf210646
              have ht210806 : rKd gm_hg210796 q210082 2 := rSk_kf hk210798 ht210630 (by decide) (by rw [hf210631]; exact hne)
              have hf210807 : gm_hg210796 1 q210082 = fo := rSk_1 hk210798 ht210630 (by decide) hf210631
              have ht210808 : rKd gm_hg210796 q210657 3 := rSk_kf hk210798 ht210661 (by decide) (by rw [hf210670]; exact hne)
              have hf210809 : gm_hg210796 1 q210657 = fo := rSk_1 hk210798 ht210661 (by decide) hf210670
              have ht210810 : rKd gm_hg210796 q210700 3 := rSk_k hk210798 ht210704 (by decide) (by decide)
              have hf210811 : gm_hg210796 1 q210700 = f := rSk_1 hk210798 ht210704 (by decide) hf210710
              have kb210812 : rKb gm_hg210796 el_F210621 q196672 (g209976.toInt : Int).toNat := rKb_t x210637 hk210798 (by decide) (rSk_s hk210798 ht210643 (by decide)).2.1 (fun _ _ => rfl)
              clear bp210659 bp210660 r210668 r210669 bp210702 bp210703 bp210720 bp210721 bp210724 bp210725 bp210726 bp210722 bp210723 bp210733 bp210734 bp210737 bp210738 bp210739 bp210735 bp210736
              clear r210727 r210728 r210729 r210740 r210741 r210742 r210743 r210744
              have r210813 := rSk_g hs210801 hne
              have r210814 : 0 < gm_hg210796 6 (gm_hg210796 1 q196673) := by rw [hf210805, r210813.1]; exact x196674
              have r210815 : gm_hg210796 6 fo = γ0 6 fo := r210813.1
              have r210816 : gm_hg210796 7 fo = 0 := by rw [r210813.2.1]; exact x196675
              have r210818 := RS_valid hT0 hzq196673 hfo0 x196674
              have r210817 := (rSk_o (i := g209976.toInt.toNat) hT0 hs210801 hzq196673 (by rw [hfo0]; exact hne)).2.2.2 (by omega)
              rw [← x210640] at r210817
              have xs210819 : gm_hg210796 2 (gm_hg210796 14 q210082) = γ0 2 (γ0 14 q210082) := by rw [r210817.1]; exact r210817.2.1
              have hB210820 : rBd gm_hg210796 el_F210621 f B := hv210795.2.2.2 B hB210625
              have hph210821 : rPh γ0 el0 f ≤ rPh gm_hg210796 el_F210621 f := by rw [r210799]; exact hph210624
              have pk210822 : rPh gm_hg210796 el_F210621 f ≤ 387 * B + 6000 := rm_pk (rM_ge hT210800 ht210802 hf210803).1 (rM_bd hB210820)
              refine G_widen (cs' := ((rPh gm_hg210796 el_F210621 f - rPh γ0 el0 f) / 18)) (sl' := (rPh gm_hg210796 el_F210621 f - rPh γ0 el0 f)) (rm_ec r210799) (rm_es r210799) ?_
              have r210823 := gSea_n hg210796 f
              have kb210824 : rKb gm_hg210796 el_F210621 q196672 (g209976.toInt + 1 : Int).toNat := rKb_s kb210812 (by omega) (by rw [(rSk_s hk210798 ht210643 (by decide)).2.1, r210629, hg210796]; exact if_pos rfl)
              obtain ⟨z210825, hz210825⟩ : ∃ z : Int32, z = g209976 + Int32.ofInt 1 := ⟨_, rfl⟩
              have ez210825 : z210825.toInt = g209976.toInt + 1 := gI_inc hz210825 (by decide) bg209976' (by decide) (by decide)
              have bz210825 : gB z210825 1 1000000 := ⟨by omega, by omega⟩
              refine G_iinc (L' := [(2, .int z210825), (5, .int g210619), (4, .ref q210121), (3, .ref q210082), (0, .ref q196672), (1, .ref q196673)]) z210825 3 dr_cX13_copy_111 rfl hz210825.symm (Nat.le_of_ble_eq_true rfl) rfl ?_
              refine G_goto 6 dr_cX13_copy_114 (by decide +kernel) ?_
              refine G_lv (L' := [(2, .int z210825), (0, .ref q196672), (1, .ref q196673)]) [0, 4, 5] rfl ?_
              have rs210826 : rsum (fun i => γ0 2 (γ0 14 (el0 (γ0 14 q196673) i))) z210825.toInt.toNat = rsum (fun i => γ0 2 (γ0 14 (el0 (γ0 14 q196673) i))) g209976.toInt.toNat + γ0 2 (γ0 14 (el0 (γ0 14 q196673) g209976.toInt.toNat)) := rsum_1 (by omega) (by omega)
              rw [← x210640] at rs210826
              exact ih6_209990 P210620 F210781 gm_hg210796 el_F210621 z210825 (gB_w bz210825 (by decide) (by decide)) hT210800 hs210801 hph210821 hB210820 (by omega) (by omega) (by omega) (by omega) (by omega) (by rw [show z210825.toInt.toNat = (g209976.toInt + 1 : Int).toNat by omega]; exact kb210824) (by omega) (by omega) (fun k e1 e2 e3 e4 ht => kt6_209991 k e1 e2 e3 e4 (fun R c1 c2 => c2 P209977 F209978 gm_F209978 el_F209978 g209976 p210006 q210003 q210082 p210064 P210119 F210120 gm_F210120 el_F210120 q210121 dc210122 ds210123 F210621 P210620 gm_F210621 el_F210621 q210701 q210658 p210733 p210734 p210735 p210736 p210737 p210738 p210739 F210758 p210659 F210771 p210660 F210781 gm_hg210796 z210825 k e1 e2 e3 e4 bg209976 hT209979 hs209980 x209983 x209984 x209985 x209986 x209987 x209988 x209989 x209990 fq210028 r210060 fq210087 hx210083 fq210105 ht210111 hq210125 hx210697 fq210716 fq210717 fq210746 fq210747 fq210748 fq210749 fq210750 fq210751 fq210752 hfr210766 he210761 fq210770 n210773 fq210779 fq210780 n210783 fq210790 fq210797 hg210796 ez210825 (ht R c1 c2))) (rm_m1 ez210825 bg209976'.1 x210639 hm6_209990)
            · have r210827 : g210619.toInt < p210681.toInt := gC_nle hc210695
              have bg210619' : gB g210619 0 999999 := ⟨by omega, by omega⟩
              have bp210681' : gB p210681 1 1000000 := ⟨by omega, by omega⟩
              have jl210828 : (g210619.toInt : Int) < γ0 2 (γ0 14 q210082) := by omega
              refine G_aload_n 4 dr_cX13_copy_41 rfl ?_
              have r210829 := (RS_valid hT0 hzq196673 hfo0 x196674).2.2.2.2
              have r210830 : rsum (fun i => γ0 2 (γ0 14 (el0 (γ0 14 q196673) i))) (g209976.toInt + 1).toNat = rsum (fun i => γ0 2 (γ0 14 (el0 (γ0 14 q196673) i))) g209976.toInt.toNat + γ0 2 (γ0 14 (el0 (γ0 14 q196673) g209976.toInt.toNat)) := rsum_1 rfl bg209976'.1
              rw [← x210640] at r210830
              have r210831 : rsum (fun i => γ0 2 (γ0 14 (el0 (γ0 14 q196673) i))) (g209976.toInt + 1).toNat ≤ rsum (fun i => γ0 2 (γ0 14 (el0 (γ0 14 q196673) i))) (γ0 6 fo) := rsum_m _ (rm_tn x210639)
              have r210833 : gm_F210621 16 f + 1 ≤ B := by omega
              have rg210834 := rM_ge hT210622 ht210643 hf210644
              have rm210835 := rM_bd hB210625
              have bd210836 := rBd_c hT210622 ht210643 hf210644 hB210625
              have rc210837 := rc_at hT210622 ht210643 hf210644
              obtain ⟨q210844, hl210845⟩ : ∃ z, z = gm_F210621 14 q210121 := ⟨_, rfl⟩
              have hl210846 : gm_F210621 0 q210844 = 3 ∨ gm_F210621 0 q210844 = 103 := by rw [hl210845, ← r210629]; exact (RS_lst hT210622 rc210837.2.1 r210628).1
              refine Gt_row (c := q196672) (f := f) hl0 dr_cX13_copy_42 ⟨wr_10_143, wr_1_15, wr_10_82, by decide, rfl, (Nat.le_of_ble_eq_true rfl), (Nat.le_of_ble_eq_true rfl)⟩ wr_10_80 wr_10_81 hT210622 ht210643 hf210644 (Nat.le_trans bd210836.2.2.1 (Nat.le_trans hBk (by decide))) (rm_cs hph210624 rg210834.2.1 rm210835 (by decide)) (rm_sl hph210624 rg210834.2.1 rm210835 rm_s18) (Nat.le_of_ble_eq_true rfl) (fun P210838 F210839 gm_F210839 el_F210839 q210840 dc210841 ds210842 hq210843 => ?_)
              have hq210847 := hq210843
              obtain ⟨hk210848, x0210849, x1210850, x22210851, x8210852, h16210853, h18210854, hnu210855, hot210856, h45210857, hf0210858, ⟨hr1210859, hr2210860⟩, hM210861, hBB210862⟩ := hq210843
              have hk210863 := rSk_of hk210848
              have hT210864 := hk210863.1
              have hs210865 := rSk_tr hs210623 hk210863 (by decide) (by decide) (by decide)
              have ht210866 : rKd gm_F210839 q196672 9 := rSk_k hk210863 ht210643 (by decide) (by decide)
              have hf210867 : gm_F210839 1 q196672 = f := rSk_1 hk210863 ht210643 (by decide) hf210644
              have ht210868 : rKd gm_F210839 q196673 9 := rSk_kf hk210863 ht210645 (by decide) (by rw [hf210646]; exact hne)
              have hf210869 : gm_F210839 1 q196673 = fo := rSk_1 hk210863 ht210645 (by decide) hf210646
              have ht210870 : rKd gm_F210839 q210121 202 := rSk_k hk210863 ht210626 (by decide) (by decide)
              have hf210871 : gm_F210839 1 q210121 = f := rSk_1 hk210863 ht210626 (by decide) hf210627
              have ht210872 : rKd gm_F210839 q210082 2 := rSk_kf hk210863 ht210630 (by decide) (by rw [hf210631]; exact hne)
              have hf210873 : gm_F210839 1 q210082 = fo := rSk_1 hk210863 ht210630 (by decide) hf210631
              have ht210874 : rKd gm_F210839 q210657 3 := rSk_kf hk210863 ht210661 (by decide) (by rw [hf210670]; exact hne)
              have hf210875 : gm_F210839 1 q210657 = fo := rSk_1 hk210863 ht210661 (by decide) hf210670
              have r210876 := (rSk_s hk210863 ht210643 (by decide)).2.1
              have r210877 := hot210856 _ (by rw [rc210837.2.1]; decide) (by rw [rc210837.2.1]; decide)
              have r210878 : (g209976.toInt : Int).toNat < gm_F210839 2 (gm_F210839 14 q196672) := by rw [r210876, r210877.1]; exact r210628
              have r210879 : el_F210839 (gm_F210839 14 q196672) (g209976.toInt : Int).toNat = q210121 := by rw [r210876, r210877.2]; exact r210629
              have kb210880 : rKb gm_F210839 el_F210839 q196672 (g209976.toInt : Int).toNat := rKb_t x210637 hk210863 (by decide) r210876 (fun i _ => by rw [r210877.2])
              clear bp210659 bp210660 r210668 r210669 rg210834 rm210835 bd210836 rc210837
              have r210881 := rSk_g hs210865 hne
              have r210882 : 0 < gm_F210839 6 (gm_F210839 1 q196673) := by rw [hf210869, r210881.1]; exact x196674
              have r210883 : gm_F210839 6 fo = γ0 6 fo := r210881.1
              have r210884 : gm_F210839 7 fo = 0 := by rw [r210881.2.1]; exact x196675
              have r210886 := RS_valid hT0 hzq196673 hfo0 x196674
              have r210885 := (rSk_o (i := g209976.toInt.toNat) hT0 hs210865 hzq196673 (by rw [hfo0]; exact hne)).2.2.2 (by omega)
              rw [← x210640] at r210885
              have xs210887 : gm_F210839 2 (gm_F210839 14 q210082) = γ0 2 (γ0 14 q210082) := by rw [r210885.1]; exact r210885.2.1
              have sz210888 := (rSk_s hk210863 ht210626 (by decide)).2.1
              have sz210889 := congrArg (gm_F210839 2) sz210888
              have sz210890 := (hot210856 q210844 (by omega) (by omega)).1
              rw [hl210845] at sz210890
              clear hl210846
              have sz210891 := (hot210856 q210657 (rT0 ht210661 (by decide)) (by rw [show _ = 3 from ht210661]; decide)).1
              obtain ⟨nu210892, nu210893, nu210894, nu210895⟩ := hnu210855
              have r210896 := hf0210858.2.2
              have hB210897 : rBd gm_F210839 el_F210839 f B := hBB210862 B r210833 hB210625
              have ht210898 : rKd gm_F210839 q210840 101 := x0210849
              have r210899 : gm_F210839 8 q210840 < gm_F210839 16 f := rm_x8 x8210852 h16210853 rfl
              have hph210900 : rPh γ0 el0 f ≤ rPh gm_F210839 el_F210839 f := rm_ph hph210624 hr2210860
              have pk210901 : rPh gm_F210839 el_F210839 f ≤ 387 * B + 6000 := rm_pk (rM_ge hT210864 ht210866 hf210867).1 (rM_bd hB210897)
              have hm210902 : q210840 ∈ P210838 := RS_m hT210864 ht210898 (by decide)
              obtain ⟨p210904, p210905, p210906, p210907, p210908, p210909, p210910, he210903, bp210904, bp210905, bp210908, bp210909, bp210910, r210911, r210912, r210913⟩ := show rkR (F210839 q210840) from RS_o hT210864 ht210898
              have bp210906 := gB_any p210906
              have bp210907 := gB_any p210907
              have r210914 : gm_F210839 7 (gm_F210839 1 q210840) = gm_F210839 7 f := by rw [x1210850]
              have r210915 : p210909.toInt = 0 := by have z := hf0210858.1; rw [he210903] at z; exact z
              have bp210909' : gB p210909 0 0 := ⟨by omega, by omega⟩
              have r210916 : p210910.toInt = 0 := by have z := hf0210858.2.1; rw [he210903] at z; exact z
              have bp210910' : gB p210910 0 0 := ⟨by omega, by omega⟩
              refine G_widen (cs' := ((rPh gm_F210839 el_F210839 f - rPh γ0 el0 f) / 18)) (sl' := (rPh gm_F210839 el_F210839 f - rPh γ0 el0 f)) (rm_wc hph210624 hr1210859) (rm_ws hph210624 hr2210860) ?_
              refine G_astore (L' := [(6, .ref q210840), (5, .int g210619), (4, .ref q210121), (3, .ref q210082), (2, .int g209976), (0, .ref q196672), (1, .ref q196673)]) dr_cX13_copy_45 (Nat.le_of_ble_eq_true rfl) rfl ?_
              refine G_aload 0 dr_cX13_copy_47 rfl ?_
              refine G_aload_n 3 dr_cX13_copy_49 rfl ?_
              have hm210917 : q210082 ∈ P210838 := RS_m hT210864 ht210872 (by decide)
              obtain ⟨q210919, q210920, p210921, p210922, he210918, ht210929, ht210923, ht210924, ht210925, ht210926, ht210927, bp210921, bp210922, r210928, r210930, r210931⟩ := show rk_2 gm_F210839 q210082 (F210839 q210082) from RS_o hT210864 ht210872
              have hf210932 : gm_F210839 1 q210919 = fo := (show gm_F210839 1 q210919 = gm_F210839 1 q210082 from ht210924).trans hf210873
              have hf210933 : gm_F210839 1 q210920 = fo := (show gm_F210839 1 q210920 = gm_F210839 1 q210082 from ht210926).trans hf210873
              have r210934 : gm_F210839 6 (gm_F210839 1 q210082) = gm_F210839 6 fo := by rw [hf210873]
              have r210935 : gm_F210839 7 (gm_F210839 1 q210082) = gm_F210839 7 fo := by rw [hf210873]
              have r210936 : gm_F210839 19 (gm_F210839 1 q210082) = gm_F210839 19 fo := by rw [hf210873]
              have r210937 := r210928.resolve_left (by omega)
              clear r210928
              have r210938 : gm_F210839 2 (gm_F210839 14 q210082) = gm_F210839 2 q210919 := by rw [ht210929.1]
              have fq210939 : fR (F210839 q210082) 0 = q210919 := by rw [he210918]; rfl
              refine Gp_get 0 hm210917 he210918 dr_cX13_copy_50 (gk_X12 D I) (Nat.le_of_ble_eq_true rfl) wr_9_219 rfl ?_
              have jl210940 : g210619.toInt.toNat < gm_F210839 2 q210919 := rm_ix bg210619'.1 jl210828 xs210887 (by rw [ht210929.1])
              refine G_iload 1 dr_cX13_copy_53 rfl ?_
              have hm210941 : q210919 ∈ P210838 := RS_m hT210864 ht210923 (by decide)
              obtain ⟨⟨p210943, p210944, q210945, he210942, r210946, r210947, r210948, r210950⟩, r210949⟩ := show rk_3 D I gm_F210839 el_F210839 F210839 q210919 from RS_o hT210864 ht210923
              have bp210943 := gB_any p210943
              have bp210944 : gB p210944 0 1000000 := ⟨by omega, by omega⟩
              obtain ⟨r210951, r210952, n210959, f210960, r210953, r210954, r210955, r210956, r210957, r210958⟩ := rLC_n r210948 (by omega)
              have hm210961 : q210945 ∈ P210838 := RS_m hT210864 r210951 (by decide)
              obtain ⟨q210962, hx210963⟩ : ∃ x, x = el_F210839 q210919 g210619.toInt.toNat := ⟨_, rfl⟩
              have hx210964 : f210960 g210619.toNatClampNeg = some q210962 := (r210957 _ (show g210619.toInt.toNat < gm_F210839 2 q210919 by first | assumption | omega)).trans (by rw [hx210963])
              have ht210965 : rKd gm_F210839 q210962 1 := by rw [hx210963]; exact (r210949 _ (show g210619.toInt.toNat < gm_F210839 2 q210919 by first | assumption | omega)).1
              have ht210966 : rFm gm_F210839 q210962 q210919 := by rw [hx210963]; exact (r210949 _ (show g210619.toInt.toNat < gm_F210839 2 q210919 by first | assumption | omega)).2.1
              have hf210967 : gm_F210839 1 q210962 = fo := (show gm_F210839 1 q210962 = gm_F210839 1 q210919 from ht210966).trans hf210932
              have fq210968 : fI (F210839 q210919) 2 = p210944 := by rw [he210942]; rfl
              refine Gw_callV (As := [.int g210619]) (gV_ok D I) (cp_22_ArrayList_get l hl0 D I P210838 F210839 q210919 q210945 g210619 p210943 p210944 f210960 n210959 q210962 hm210941 hm210961 he210942 r210953 (gB_w bg210619' (by decide) (by decide)) (gB_w bp210944 (by decide) (by decide)) (by omega) (by omega) (by assumption) (by omega)) dr_cX13_copy_55 ⟨wr_10_62, wr_1_18, wr_10_65, by decide, rfl, (Nat.le_of_ble_eq_true rfl), (Nat.le_of_ble_eq_true rfl)⟩ wr_10_63 wr_10_64 hm210941 he210942 rfl (rm_zc pk210901) (rm_zs pk210901) (Nat.le_of_ble_eq_true rfl) (fun r210972 w210973 dc210969 ds210970 hp210971 => ?_) (fun _ _ _ _ _ z => z.elim)
              obtain ⟨rfl, rfl, hdc, hds, ht210974⟩ := hp210971
              change G _ _ _ _ _ _ _ (.ref q210962 :: _) _ _ _
              refine G_widen (cs' := ((rPh gm_F210839 el_F210839 f - rPh γ0 el0 f) / 18)) (sl' := (rPh gm_F210839 el_F210839 f - rPh γ0 el0 f)) (rm_d0 hdc) (rm_d0 hds) ?_
              have hm210975 : q210962 ∈ P210838 := RS_m hT210864 ht210965 (by decide)
              obtain ⟨p210977, p210978, p210979, p210980, p210981, p210982, p210983, he210976, bp210977, bp210978, bp210981, bp210982, bp210983, r210984, r210985, r210986, r210987, r210988⟩ := show rk_1 gm_F210839 q210962 (F210839 q210962) from RS_o hT210864 ht210965
              have bp210979 := gB_any p210979
              have bp210980 := gB_any p210980
              have r210989 : gm_F210839 7 (gm_F210839 1 q210962) = gm_F210839 7 fo := by rw [hf210967]
              refine Gp_cast hm210975 he210976 rfl dr_cX13_copy_58 wr_10_83 (gr_cast 1 rfl) ?_
              have fq210990 : fI (F210839 q210962) 0 = p210977 := by rw [he210976]; rfl
              have fq210991 : fI (F210839 q210962) 1 = p210978 := by rw [he210976]; rfl
              have fq210992 : fI (F210839 q210962) 2 = p210979 := by rw [he210976]; rfl
              have fq210993 : fI (F210839 q210962) 3 = p210980 := by rw [he210976]; rfl
              have fq210994 : fI (F210839 q210962) 4 = p210981 := by rw [he210976]; rfl
              have fq210995 : fI (F210839 q210962) 5 = p210982 := by rw [he210976]; rfl
              have fq210996 : fI (F210839 q210962) 6 = p210983 := by rw [he210976]; rfl
              refine Gw_callV (As := [.ref q210962]) (gV_ok D I) (cp_1728_Row_put l hl0 D I P210838 F210839 q210840 q210962 p210904 p210905 p210906 p210907 p210908 p210909 p210910 p210977 p210978 p210979 p210980 p210981 p210982 p210983 hm210902 hm210975 he210903 he210976 (rn_ty ht210898 ht210965 (by decide)) bp210904 bp210905 bp210908 (gB_w bp210909' (by decide) (by decide)) (gB_w bp210910' (by decide) (by decide)) bp210977 bp210978 bp210981 bp210982 bp210983) dr_cX13_copy_61 ⟨wr_10_144, wr_1_39, wr_10_147, by decide, rfl, (Nat.le_of_ble_eq_true rfl), (Nat.le_of_ble_eq_true rfl)⟩ wr_10_145 wr_10_146 hm210902 he210903 rfl (rm_zc pk210901) (rm_zs pk210901) (Nat.le_of_ble_eq_true rfl) (fun r211000 w211001 dc210997 ds210998 hp210999 => ?_) (fun _ _ _ _ _ z => z.elim)
              obtain ⟨F211002, rfl, rfl, hfr211004, he211005, he211006, hdc, hds⟩ := hp210999
              have he211007 : F211002 q210082 = .inr (17, [.ref q210919, .ref q210920, .int p210921, .int p210922]) := (hfr211004 q210082 hm210917 (nm_c (rn_oo he210918 he210903 (by decide)) nm_n)).trans he210918
              have he211008 : F211002 q210919 = .inr (4, [.int p210943, .ref q210945, .int p210944]) := (hfr211004 q210919 hm210941 (nm_c (rn_oo he210942 he210903 (by decide)) nm_n)).trans he210942
              have he211009 : F211002 q210945 = .inl (I (.object "java/lang/Object"), n210959, .inr (.inr (.inr (.inr f210960)))) := (hfr211004 q210945 hm210961 (nm_c (rn_ao r210953 he210903) nm_n)).trans r210953
              have hfr211010 : rFr [q210840] P210838 F210839 F211002 := rFr_call (rSub_rf (P := P210838)) (rFr_rf (W := []) (P := P210838) (F := F210839)) hfr211004 (fun b hb hn => ⟨nm_n, (nm_c (fun e => hn (e ▸ List.mem_cons_self)) nm_n)⟩)
              change G _ _ _ _ _ _ _ _ _ _ _
              refine G_widen (cs' := ((rPh gm_F210839 el_F210839 f - rPh γ0 el0 f) / 18)) (sl' := (rPh gm_F210839 el_F210839 f - rPh γ0 el0 f)) (rm_d0 hdc) (rm_d0 hds) ?_
              have hT211011 : RS D I P210838 F211002 gm_F210839 el_F210839 := RS_fr hT210864 hfr211010 ht210898 (by decide) ⟨p210977, p210978, p210979, p210980, p210981, p210982, p210983, he211005, bp210977, bp210978, bp210981, bp210982, bp210983, r210984, r210985, r210986⟩
              have hs211012 := rSk_fr hs210865 hT211011 hfr211010 ht210898 (by decide) (by decide) (Or.inr (Or.inl x1210850))
              have md211013 : (fI (F211002 q196672) 3).toInt = (fI (F210839 q196672) 3).toInt := by rw [hfr211010 q196672 (RS_m hT210864 ht210866 (by decide)) (nm_c (rn_ty ht210866 ht210898 (by decide)) nm_n)]
              refine G_aload 2 dr_cX13_copy_64 rfl ?_
              have hm211014 : q210121 ∈ P210838 := RS_m hT211011 ht210870 (by decide)
              obtain ⟨q211016, q211017, p211018, p211019, he211015, ht211025, ht211020, ht211021, ht211022, ht211023, ht211024, bp211018, bp211019⟩ := show rk_202 gm_F210839 q210121 (F211002 q210121) from RS_o hT211011 ht210870
              have hf211026 : gm_F210839 1 q211016 = f := (show gm_F210839 1 q211016 = gm_F210839 1 q210121 from ht211021).trans hf210871
              have hf211027 : gm_F210839 1 q211017 = f := (show gm_F210839 1 q211017 = gm_F210839 1 q210121 from ht211023).trans hf210871
              have r211028 : gm_F210839 6 (gm_F210839 1 q210121) = gm_F210839 6 f := by rw [hf210871]
              have r211029 : gm_F210839 7 (gm_F210839 1 q210121) = gm_F210839 7 f := by rw [hf210871]
              have r211030 : gm_F210839 19 (gm_F210839 1 q210121) = gm_F210839 19 f := by rw [hf210871]
              have r211031 : gm_F210839 2 (gm_F210839 14 q210121) = gm_F210839 2 q211016 := by rw [ht211025.1]
              have fq211032 : fR (F211002 q210121) 0 = q211016 := by rw [he211015]; rfl
              refine Gp_get 0 hm211014 he211015 dr_cX13_copy_66 (gk_X12 D I) (Nat.le_of_ble_eq_true rfl) wr_9_219 rfl ?_
              refine G_aload 0 dr_cX13_copy_69 rfl ?_
              have rg211033 := rM_ge hT211011 ht210866 hf210867
              have rm211034 := rM_bd hB210897
              have bd211035 := rBd_c hT211011 ht210866 hf210867 hB210897
              have rc211036 := rc_at hT211011 ht210866 hf210867
              have r211038 : gm_F210839 14 (el_F210839 (gm_F210839 14 q196672) (g209976.toInt : Int).toNat) = q211016 := by rw [r210879]; exact ht211025.1
              have r211039 := rg211033.2.2 _ r210878
              rw [r211038] at r211039
              have r211040 := bd211035.2.2.2 _ r210878
              rw [r211038] at r211040
              have r211041 : gm_F210839 7 (gm_F210839 1 q210840) = gm_F210839 7 f := by rw [x1210850]
              have hx211042 : rk_1 gm_F210839 q210840 (F211002 q210840) := ⟨p210977, p210978, p210979, p210980, p210981, p210982, p210983, he211005, bp210977, bp210978, bp210981, bp210982, bp210983, r210984, r210985, r210986, (Or.inl (r210987.resolve_right (by omega))), (Or.inl x22210851)⟩
              refine Gt_add (c := q196672) (f := f) hl0 dr_cX13_copy_71 ⟨wr_10_3, wr_1_18, wr_10_6, by decide, rfl, (Nat.le_of_ble_eq_true rfl), (Nat.le_of_ble_eq_true rfl)⟩ wr_10_4 wr_10_5 hT211011 ht211020 hf211026 ht210898 x1210850 x22210851 r210899 (by omega) ht210866 hf210867 r210878 r211038 hx211042 (Nat.le_trans r211040 (Nat.le_trans hBk (by decide))) (rm_cs hph210900 r211039 rm211034 (by decide)) (rm_sl hph210900 r211039 rm211034 rm_s11) (Nat.le_of_ble_eq_true rfl) (fun P211043 F211037 gm_F211037 el_F211037 dc211044 ds211045 hq211046 => ?_)
              have hq211047 := hq211046
              obtain ⟨hk211048, x0211049, h2211050, hel211051, hot211052, h16211053, h18211054, hnu211055, hFx211056, hr211057, hM211058, hBB211059⟩ := hq211046
              have hk211060 := rSk_of hk211048
              have r211061 : (fI (F211037 q196672) 3).toInt = (fI (F211002 q196672) 3).toInt := by rw [rSk_F hk211060 ht210866 (by decide) (by decide)]
              have hT211062 := hk211060.1
              have hs211063 := rSk_tr hs211012 hk211060 (by decide) (by decide) (by decide)
              have ht211064 : rKd gm_F211037 q196672 9 := rSk_k hk211060 ht210866 (by decide) (by decide)
              have hf211065 : gm_F211037 1 q196672 = f := rSk_1 hk211060 ht210866 (by decide) hf210867
              have ht211066 : rKd gm_F211037 q196673 9 := rSk_kf hk211060 ht210868 (by decide) (by rw [hf210869]; exact hne)
              have hf211067 : gm_F211037 1 q196673 = fo := rSk_1 hk211060 ht210868 (by decide) hf210869
              have ht211068 : rKd gm_F211037 q210121 202 := rSk_k hk211060 ht210870 (by decide) (by decide)
              have hf211069 : gm_F211037 1 q210121 = f := rSk_1 hk211060 ht210870 (by decide) hf210871
              have ht211070 : rKd gm_F211037 q210082 2 := rSk_kf hk211060 ht210872 (by decide) (by rw [hf210873]; exact hne)
              have hf211071 : gm_F211037 1 q210082 = fo := rSk_1 hk211060 ht210872 (by decide) hf210873
              have ht211072 : rKd gm_F211037 q210657 3 := rSk_kf hk211060 ht210874 (by decide) (by rw [hf210875]; exact hne)
              have hf211073 : gm_F211037 1 q210657 = fo := rSk_1 hk211060 ht210874 (by decide) hf210875
              have ht211074 : rKd gm_F211037 q210919 3 := rSk_kf hk211060 ht210923 (by decide) (by rw [hf210932]; exact hne)
              have hf211075 : gm_F211037 1 q210919 = fo := rSk_1 hk211060 ht210923 (by decide) hf210932
              have ht211076 : rKd gm_F211037 q211016 3 := rSk_k hk211060 ht211020 (by decide) (by decide)
              have hf211077 : gm_F211037 1 q211016 = f := rSk_1 hk211060 ht211020 (by decide) hf211026
              have r211078 := (rSk_s hk211060 ht210866 (by decide)).2.1
              have r211079 := hot211052 _ (by rw [rc211036.2.1]; decide) (fun q => by rw [q, show _ = 3 from ht211020] at rc211036; exact absurd rc211036.2.1 (by decide))
              have r211080 : (g209976.toInt : Int).toNat < gm_F211037 2 (gm_F211037 14 q196672) := by rw [r211078, r211079.1]; exact r210878
              have r211081 : el_F211037 (gm_F211037 14 q196672) (g209976.toInt : Int).toNat = q210121 := by rw [r211078, r211079.2]; exact r210879
              have kb211082 : rKb gm_F211037 el_F211037 q196672 (g209976.toInt : Int).toNat := rKb_t kb210880 hk211060 (by decide) r211078 (fun i _ => by rw [r211079.2])
              clear bp210904 bp210905 bp210908 bp210909 bp210910 bp210906 bp210907 bp210921 bp210922 r210930 r210931 bp210977 bp210978 bp210981 bp210982 bp210983 bp210979 bp210980 bp211018 bp211019 rg211033 rm211034 bd211035 rc211036 r211039 r211040
              clear r210911 r210912 r210913 r210984 r210985 r210986 r210987 r210988
              have r211083 := rSk_g hs211063 hne
              have r211084 : 0 < gm_F211037 6 (gm_F211037 1 q196673) := by rw [hf211067, r211083.1]; exact x196674
              have r211085 : gm_F211037 6 fo = γ0 6 fo := r211083.1
              have r211086 : gm_F211037 7 fo = 0 := by rw [r211083.2.1]; exact x196675
              have r211088 := RS_valid hT0 hzq196673 hfo0 x196674
              have r211087 := (rSk_o (i := g209976.toInt.toNat) hT0 hs211063 hzq196673 (by rw [hfo0]; exact hne)).2.2.2 (by omega)
              rw [← x210640] at r211087
              have xs211089 : gm_F211037 2 (gm_F211037 14 q210082) = γ0 2 (γ0 14 q210082) := by rw [r211087.1]; exact r211087.2.1
              first | have sz211090 := (hot211052 q210657 (rT0 ht210874 (by decide)) (by assumption)).1 | skip
              first | have sz211091 := (hot211052 q210919 (rT0 ht210923 (by decide)) (by assumption)).1 | skip
              obtain ⟨nu211092, nu211093, nu211094, nu211095⟩ := hnu211055
              have ht211096 : rKd gm_F211037 q210840 1 := x0211049
              have hB211097 : rBd gm_F211037 el_F211037 f B := hBB211059 B hB210897
              have hph211098 : rPh γ0 el0 f ≤ rPh gm_F211037 el_F211037 f := rm_ph hph210900 hr211057.2
              have pk211099 : rPh gm_F211037 el_F211037 f ≤ 387 * B + 6000 := rm_pk (rM_ge hT211062 ht211064 hf211065).1 (rM_bd hB211097)
              refine G_widen (cs' := ((rPh gm_F211037 el_F211037 f - rPh γ0 el0 f) / 18)) (sl' := (rPh gm_F211037 el_F211037 f - rPh γ0 el0 f)) (rm_wc hph210900 hr211057.1) (rm_ws hph210900 hr211057.2) ?_
              refine G_pop dr_cX13_copy_74 rfl ?_
              obtain ⟨z211100, hz211100⟩ : ∃ z : Int32, z = g210619 + Int32.ofInt 1 := ⟨_, rfl⟩
              have ez211100 : z211100.toInt = g210619.toInt + 1 := gI_inc hz211100 (by decide) bg210619' (by decide) (by decide)
              have bz211100 : gB z211100 1 1000000 := ⟨by omega, by omega⟩
              refine G_iinc (L' := [(5, .int z211100), (6, .ref q210840), (4, .ref q210121), (3, .ref q210082), (2, .int g209976), (0, .ref q196672), (1, .ref q196673)]) z211100 1 dr_cX13_copy_75 rfl hz211100.symm (Nat.le_of_ble_eq_true rfl) rfl ?_
              refine G_goto 29 dr_cX13_copy_78 (by decide +kernel) ?_
              refine G_lv (L' := [(5, .int z211100), (4, .ref q210121), (3, .ref q210082), (2, .int g209976), (0, .ref q196672), (1, .ref q196673)]) [0, 2, 3, 4, 5, 6] rfl ?_
              exact ih29_210641 P211043 F211037 gm_F211037 el_F211037 z211100 (gB_w bz211100 (by decide) (by decide)) hT211062 hs211063 hph211098 hB211097 ht211068 hf211069 r211080 r211081 ht211070 hf211071 (by omega) (by omega) (by omega) (by omega) (by omega) kb211082 (by omega) (by omega) x210640 (by omega) (fun k e1 e2 e3 e4 ht => kt29_210642 k e1 e2 e3 e4 (fun R c1 c2 => c2 P210620 F210621 gm_F210621 el_F210621 g210619 q210657 p210681 P210838 F210839 gm_F210839 el_F210839 q210840 dc210841 ds210842 q210919 q210962 p210944 p210977 p210978 p210979 p210980 p210981 p210982 p210983 F211002 q211016 P211043 F211037 gm_F211037 el_F211037 dc211044 ds211045 z211100 k e1 e2 e3 e4 bg210619 hT210622 hs210623 x210632 x210633 x210634 x210635 x210636 x210637 x210638 x210639 x210640 x210641 fq210677 fq210688 fq210689 r210827 hq210847 fq210939 hx210963 fq210968 ht210974 fq210990 fq210991 fq210992 fq210993 fq210994 fq210995 fq210996 hfr211010 he211005 fq211032 hq211047 ez211100 (ht R c1 c2))) (rm_m1 ez211100 bg210619'.1 jl210828 hm29_210641)
        exact hlp29_210641 ((γ0 2 (γ0 14 q210082) - (0 : Int).toNat) + 1) P210119 F210120 gm_F210120 el_F210120 0 (gB_w (gBl (show Int32.toInt 0 = 0 by decide)) (by decide) (by decide)) hT210147 hs210148 hph210173 hB210163 ht210169 b1210128 r210171 r210172 ht210153 hf210154 (by have qa0 : Int32.toInt 0 = 0 := (by decide); omega) (by have qa0 : Int32.toInt 0 = 0 := (by decide); omega) (by have qa0 : Int32.toInt 0 = 0 := (by decide); omega) (by have qa0 : Int32.toInt 0 = 0 := (by decide); omega) (by have qa0 : Int32.toInt 0 = 0 := (by decide); omega) kb210155 (by have qa0 : Int32.toInt 0 = 0 := (by decide); omega) (by have qa0 : Int32.toInt 0 = 0 := (by decide); omega) hx0210114 (by have qa0 : Int32.toInt 0 = 0 := (by decide); omega) (fun k e1 e2 e3 e4 ht => ht) (Nat.lt_succ_self _)
  exact hlp6_209990 ((γ0 6 fo - (0 : Int).toNat) + 1) P196670 F196686 gm_F196686 el_F196686 0 (gB_w (gBl (show Int32.toInt 0 = 0 by decide)) (by decide) (by decide)) hT196703 hs196704 hph196714 hB196713 (by have qa0 : Int32.toInt 0 = 0 := (by decide); omega) (by have qa0 : Int32.toInt 0 = 0 := (by decide); omega) (by have qa0 : Int32.toInt 0 = 0 := (by decide); omega) (by have qa0 : Int32.toInt 0 = 0 := (by decide); omega) (by have qa0 : Int32.toInt 0 = 0 := (by decide); omega) rKb_0 (by show gm_F196686 16 f ≤ 0; omega) (by have qa0 : Int32.toInt 0 = 0 := (by decide); omega) (fun k e1 e2 e3 e4 ht => ht) (Nat.lt_succ_self _)
end
