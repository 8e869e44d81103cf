theorem dr_cX17_graph_0 : decode cX17_graph 0 = .ok (.aload_n 0, 1) := by decide +kernel
theorem dr_cX17_graph_1 : decode cX17_graph 1 = .ok (.aload_n 1, 1) := by decide +kernel
theorem dr_cX17_graph_2 : decode cX17_graph 2 = .ok (.iload_n 2, 1) := by decide +kernel
theorem dr_cX17_graph_3 : decode cX17_graph 3 = .ok (.invokevirtual 127, 3) := by decide +kernel
theorem wr_10_152 : (Jvm.Cond.methodLink "SpillForgeModel" (127 : Nat) ({ cls := "SpillForgeModel", name := "findLive", desc := "(LSpillForgeModel$Code;Z)V" } : Jvm.MethodName)) ∈ gw := gw_10 152 rfl rfl
theorem wr_10_155 : (Jvm.Cond.code ({ cls := "SpillForgeModel", name := "findLive", desc := "(LSpillForgeModel$Code;Z)V" } : Jvm.MethodName) prog_14_method_9_code (7 : Nat) (Option.none : Option Jvm.ClassFile.FieldType)) ∈ gw := gw_10 155 rfl rfl
theorem wr_10_154 : (Jvm.Cond.instanceMethod ({ cls := "SpillForgeModel", name := "findLive", desc := "(LSpillForgeModel$Code;Z)V" } : Jvm.MethodName)) ∈ gw := gw_10 154 rfl rfl
theorem wr_p_94 : Cond.selects "SpillForgeModel" ⟨"SpillForgeModel", "findLive", "(LSpillForgeModel$Code;Z)V"⟩ ⟨"SpillForgeModel", "findLive", "(LSpillForgeModel$Code;Z)V"⟩ ∈ gw := gw_p _ 94 rfl rfl rfl
theorem dr_cX17_graph_6 : decode cX17_graph 6 = .ok (.iconst 0, 1) := by decide +kernel
theorem dr_cX17_graph_7 : decode cX17_graph 7 = .ok (.istore_n 3, 1) := by decide +kernel
theorem dr_cX17_graph_8 : decode cX17_graph 8 = .ok (.iload_n 3, 1) := by decide +kernel
theorem dr_cX17_graph_9 : decode cX17_graph 9 = .ok (.sipush 2000, 3) := by decide +kernel
theorem dr_cX17_graph_12 : decode cX17_graph 12 = .ok (.if_icmp .ge 42, 3) := by decide +kernel
theorem dr_cX17_graph_54 : decode cX17_graph 54 = .ok (.iconst 0, 1) := by decide +kernel
theorem dr_cX17_graph_55 : decode cX17_graph 55 = .ok (.istore_n 3, 1) := by decide +kernel
theorem dr_cX17_graph_56 : decode cX17_graph 56 = .ok (.iload_n 3, 1) := by decide +kernel
theorem dr_cX17_graph_57 : decode cX17_graph 57 = .ok (.aload_n 1, 1) := by decide +kernel
theorem dr_cX17_graph_58 : decode cX17_graph 58 = .ok (.invokevirtual 96, 3) := by decide +kernel
theorem dr_cX17_graph_61 : decode cX17_graph 61 = .ok (.if_icmp .ge 235, 3) := by decide +kernel
theorem dr_cX17_graph_296 : decode cX17_graph 296 = .ok (.iconst 0, 1) := by decide +kernel
theorem dr_cX17_graph_297 : decode cX17_graph 297 = .ok (.istore_n 3, 1) := by decide +kernel
theorem dr_cX17_graph_298 : decode cX17_graph 298 = .ok (.iload_n 3, 1) := by decide +kernel
theorem dr_cX17_graph_299 : decode cX17_graph 299 = .ok (.sipush 2000, 3) := by decide +kernel
theorem dr_cX17_graph_302 : decode cX17_graph 302 = .ok (.if_icmp .ge 87, 3) := by decide +kernel
theorem dr_cX17_graph_389 : decode cX17_graph 389 = .ok (.return_, 1) := by decide +kernel
theorem dr_cX17_graph_305 : decode cX17_graph 305 = .ok (.aload_n 0, 1) := by decide +kernel
theorem dr_cX17_graph_306 : decode cX17_graph 306 = .ok (.getfield 131, 3) := by decide +kernel
theorem dr_cX17_graph_309 : decode cX17_graph 309 = .ok (.iload_n 3, 1) := by decide +kernel
theorem dr_cX17_graph_310 : decode cX17_graph 310 = .ok (.baload, 1) := by decide +kernel
theorem dr_cX17_graph_311 : decode cX17_graph 311 = .ok (.ifCond .ne 6, 3) := by decide +kernel
theorem dr_cX17_graph_317 : decode cX17_graph 317 = .ok (.iconst 0, 1) := by decide +kernel
theorem dr_cX17_graph_318 : decode cX17_graph 318 = .ok (.istore 4, 2) := by decide +kernel
theorem dr_cX17_graph_320 : decode cX17_graph 320 = .ok (.iload 4, 2) := by decide +kernel
theorem dr_cX17_graph_322 : decode cX17_graph 322 = .ok (.bipush 32, 2) := by decide +kernel
theorem dr_cX17_graph_324 : decode cX17_graph 324 = .ok (.if_icmp .ge 59, 3) := by decide +kernel
theorem dr_cX17_graph_383 : decode cX17_graph 383 = .ok (.iinc 3 1, 3) := by decide +kernel
theorem dr_cX17_graph_386 : decode cX17_graph 386 = .ok (.goto (-88), 3) := by decide +kernel
theorem dr_cX17_graph_327 : decode cX17_graph 327 = .ok (.aload_n 0, 1) := by decide +kernel
theorem dr_cX17_graph_328 : decode cX17_graph 328 = .ok (.getfield 135, 3) := by decide +kernel
theorem dr_cX17_graph_331 : decode cX17_graph 331 = .ok (.iload_n 3, 1) := by decide +kernel
theorem dr_cX17_graph_332 : decode cX17_graph 332 = .ok (.aaload, 1) := by decide +kernel
theorem dr_cX17_graph_333 : decode cX17_graph 333 = .ok (.iload 4, 2) := by decide +kernel
theorem dr_cX17_graph_335 : decode cX17_graph 335 = .ok (.laload, 1) := by decide +kernel
theorem dr_cX17_graph_336 : decode cX17_graph 336 = .ok (.lstore 5, 2) := by decide +kernel
theorem dr_cX17_graph_338 : decode cX17_graph 338 = .ok (.lload 5, 2) := by decide +kernel
theorem dr_cX17_graph_340 : decode cX17_graph 340 = .ok (.lconst 0, 1) := by decide +kernel
theorem dr_cX17_graph_341 : decode cX17_graph 341 = .ok (.lcmp, 1) := by decide +kernel
theorem dr_cX17_graph_342 : decode cX17_graph 342 = .ok (.ifCond .eq 35, 3) := by decide +kernel
theorem dr_cX17_graph_377 : decode cX17_graph 377 = .ok (.iinc 4 1, 3) := by decide +kernel
theorem dr_cX17_graph_380 : decode cX17_graph 380 = .ok (.goto (-60), 3) := by decide +kernel
theorem dr_cX17_graph_345 : decode cX17_graph 345 = .ok (.aload_n 0, 1) := by decide +kernel
theorem dr_cX17_graph_346 : decode cX17_graph 346 = .ok (.getfield 135, 3) := by decide +kernel
theorem dr_cX17_graph_349 : decode cX17_graph 349 = .ok (.bipush 64, 2) := by decide +kernel
theorem dr_cX17_graph_351 : decode cX17_graph 351 = .ok (.iload 4, 2) := by decide +kernel
theorem dr_cX17_graph_353 : decode cX17_graph 353 = .ok (.imul, 1) := by decide +kernel
theorem dr_cX17_graph_354 : decode cX17_graph 354 = .ok (.lload 5, 2) := by decide +kernel
theorem dr_cX17_graph_356 : decode cX17_graph 356 = .ok (.invokestatic 149, 3) := by decide +kernel
theorem wr_10_237 : (Jvm.Cond.methodLink "SpillForgeModel" (149 : Nat) ({ cls := "java/lang/Long", name := "numberOfTrailingZeros", desc := "(J)I" } : Jvm.MethodName)) ∈ gw := gw_10 237 rfl rfl
theorem wr_10_239 : (Jvm.Cond.code ({ cls := "java/lang/Long", name := "numberOfTrailingZeros", desc := "(J)I" } : Jvm.MethodName) prog_31_method_49_code (3 : Nat) (Option.some Jvm.ClassFile.FieldType.int)) ∈ gw := gw_10 239 rfl rfl
theorem wr_10_238 : (Jvm.Cond.static ({ cls := "java/lang/Long", name := "numberOfTrailingZeros", desc := "(J)I" } : Jvm.MethodName)) ∈ gw := gw_10 238 rfl rfl
theorem dr_cX17_graph_359 : decode cX17_graph 359 = .ok (.iadd, 1) := by decide +kernel
theorem dr_cX17_graph_360 : decode cX17_graph 360 = .ok (.aaload, 1) := by decide +kernel
theorem dr_cX17_graph_361 : decode cX17_graph 361 = .ok (.iload_n 3, 1) := by decide +kernel
theorem dr_cX17_graph_362 : decode cX17_graph 362 = .ok (.invokestatic 67, 3) := by decide +kernel
theorem dr_cX17_graph_365 : decode cX17_graph 365 = .ok (.lload 5, 2) := by decide +kernel
theorem dr_cX17_graph_367 : decode cX17_graph 367 = .ok (.lload 5, 2) := by decide +kernel
theorem dr_cX17_graph_369 : decode cX17_graph 369 = .ok (.lconst 1, 1) := by decide +kernel
theorem dr_cX17_graph_370 : decode cX17_graph 370 = .ok (.lsub, 1) := by decide +kernel
theorem dr_cX17_graph_371 : decode cX17_graph 371 = .ok (.land, 1) := by decide +kernel
theorem dr_cX17_graph_372 : decode cX17_graph 372 = .ok (.lstore 5, 2) := by decide +kernel
theorem dr_cX17_graph_374 : decode cX17_graph 374 = .ok (.goto (-36), 3) := by decide +kernel
theorem dr_cX17_graph_314 : decode cX17_graph 314 = .ok (.goto 69, 3) := by decide +kernel
theorem dr_cX17_graph_64 : decode cX17_graph 64 = .ok (.aload_n 1, 1) := by decide +kernel
theorem dr_cX17_graph_65 : decode cX17_graph 65 = .ok (.iload_n 3, 1) := by decide +kernel
theorem dr_cX17_graph_66 : decode cX17_graph 66 = .ok (.invokevirtual 101, 3) := by decide +kernel
theorem dr_cX17_graph_69 : decode cX17_graph 69 = .ok (.astore 4, 2) := by decide +kernel
theorem dr_cX17_graph_71 : decode cX17_graph 71 = .ok (.aload_n 0, 1) := by decide +kernel
theorem dr_cX17_graph_72 : decode cX17_graph 72 = .ok (.aload 4, 2) := by decide +kernel
theorem dr_cX17_graph_74 : decode cX17_graph 74 = .ok (.invokevirtual 105, 3) := by decide +kernel
theorem dr_cX17_graph_77 : decode cX17_graph 77 = .ok (.aload_n 0, 1) := by decide +kernel
theorem dr_cX17_graph_78 : decode cX17_graph 78 = .ok (.aload 4, 2) := by decide +kernel
theorem dr_cX17_graph_80 : decode cX17_graph 80 = .ok (.getfield 109, 3) := by decide +kernel
theorem dr_cX17_graph_83 : decode cX17_graph 83 = .ok (.iload_n 2, 1) := by decide +kernel
theorem dr_cX17_graph_84 : decode cX17_graph 84 = .ok (.invokevirtual 138, 3) := by decide +kernel
theorem wr_10_233 : (Jvm.Cond.methodLink "SpillForgeModel" (138 : Nat) ({ cls := "SpillForgeModel", name := "stand", desc := "(LSpillForgeModel$Row;Z)V" } : Jvm.MethodName)) ∈ gw := gw_10 233 rfl rfl
theorem wr_10_236 : (Jvm.Cond.code ({ cls := "SpillForgeModel", name := "stand", desc := "(LSpillForgeModel$Row;Z)V" } : Jvm.MethodName) prog_14_method_11_code (4 : Nat) (Option.none : Option Jvm.ClassFile.FieldType)) ∈ gw := gw_10 236 rfl rfl
theorem wr_10_235 : (Jvm.Cond.instanceMethod ({ cls := "SpillForgeModel", name := "stand", desc := "(LSpillForgeModel$Row;Z)V" } : Jvm.MethodName)) ∈ gw := gw_10 235 rfl rfl
theorem wr_p_100 : Cond.selects "SpillForgeModel" ⟨"SpillForgeModel", "stand", "(LSpillForgeModel$Row;Z)V"⟩ ⟨"SpillForgeModel", "stand", "(LSpillForgeModel$Row;Z)V"⟩ ∈ gw := gw_p _ 100 rfl rfl rfl
theorem dr_cX17_graph_87 : decode cX17_graph 87 = .ok (.aload_n 0, 1) := by decide +kernel
theorem dr_cX17_graph_88 : decode cX17_graph 88 = .ok (.aload 4, 2) := by decide +kernel
theorem dr_cX17_graph_90 : decode cX17_graph 90 = .ok (.getfield 109, 3) := by decide +kernel
theorem dr_cX17_graph_93 : decode cX17_graph 93 = .ok (.iload_n 2, 1) := by decide +kernel
theorem dr_cX17_graph_94 : decode cX17_graph 94 = .ok (.invokevirtual 113, 3) := by decide +kernel
theorem dr_cX17_graph_97 : decode cX17_graph 97 = .ok (.aload 4, 2) := by decide +kernel
theorem dr_cX17_graph_99 : decode cX17_graph 99 = .ok (.getfield 117, 3) := by decide +kernel
theorem dr_cX17_graph_102 : decode cX17_graph 102 = .ok (.invokevirtual 121, 3) := by decide +kernel
theorem dr_cX17_graph_105 : decode cX17_graph 105 = .ok (.iconst 1, 1) := by decide +kernel
theorem dr_cX17_graph_106 : decode cX17_graph 106 = .ok (.isub, 1) := by decide +kernel
theorem dr_cX17_graph_107 : decode cX17_graph 107 = .ok (.istore 5, 2) := by decide +kernel
theorem dr_cX17_graph_109 : decode cX17_graph 109 = .ok (.iload 5, 2) := by decide +kernel
theorem dr_cX17_graph_111 : decode cX17_graph 111 = .ok (.ifCond .lt 179, 3) := by decide +kernel
theorem dr_cX17_graph_290 : decode cX17_graph 290 = .ok (.iinc 3 1, 3) := by decide +kernel
theorem dr_cX17_graph_293 : decode cX17_graph 293 = .ok (.goto (-237), 3) := by decide +kernel
theorem dr_cX17_graph_114 : decode cX17_graph 114 = .ok (.aload 4, 2) := by decide +kernel
theorem dr_cX17_graph_116 : decode cX17_graph 116 = .ok (.getfield 117, 3) := by decide +kernel
theorem dr_cX17_graph_119 : decode cX17_graph 119 = .ok (.iload 5, 2) := by decide +kernel
theorem dr_cX17_graph_121 : decode cX17_graph 121 = .ok (.invokevirtual 124, 3) := by decide +kernel
theorem dr_cX17_graph_124 : decode cX17_graph 124 = .ok (.checkcast 40, 3) := by decide +kernel
theorem dr_cX17_graph_127 : decode cX17_graph 127 = .ok (.astore 6, 2) := by decide +kernel
theorem dr_cX17_graph_129 : decode cX17_graph 129 = .ok (.aload_n 0, 1) := by decide +kernel
theorem dr_cX17_graph_130 : decode cX17_graph 130 = .ok (.aload 6, 2) := by decide +kernel
theorem dr_cX17_graph_132 : decode cX17_graph 132 = .ok (.iload_n 2, 1) := by decide +kernel
theorem dr_cX17_graph_133 : decode cX17_graph 133 = .ok (.invokevirtual 138, 3) := by decide +kernel
theorem dr_cX17_graph_136 : decode cX17_graph 136 = .ok (.aload 6, 2) := by decide +kernel
theorem dr_cX17_graph_138 : decode cX17_graph 138 = .ok (.iload_n 2, 1) := by decide +kernel
theorem dr_cX17_graph_139 : decode cX17_graph 139 = .ok (.invokestatic 55, 3) := by decide +kernel
theorem dr_cX17_graph_142 : decode cX17_graph 142 = .ok (.istore 7, 2) := by decide +kernel
theorem dr_cX17_graph_144 : decode cX17_graph 144 = .ok (.iload_n 2, 1) := by decide +kernel
theorem dr_cX17_graph_145 : decode cX17_graph 145 = .ok (.ifCond .ne 27, 3) := by decide +kernel
theorem dr_cX17_graph_172 : decode cX17_graph 172 = .ok (.iconst (-1), 1) := by decide +kernel
theorem dr_cX17_graph_173 : decode cX17_graph 173 = .ok (.istore 8, 2) := by decide +kernel
theorem dr_cX17_graph_175 : decode cX17_graph 175 = .ok (.iload 7, 2) := by decide +kernel
theorem dr_cX17_graph_177 : decode cX17_graph 177 = .ok (.ifCond .lt 100, 3) := by decide +kernel
theorem dr_cX17_graph_277 : decode cX17_graph 277 = .ok (.aload_n 0, 1) := by decide +kernel
theorem dr_cX17_graph_278 : decode cX17_graph 278 = .ok (.aload 6, 2) := by decide +kernel
theorem dr_cX17_graph_280 : decode cX17_graph 280 = .ok (.iload_n 2, 1) := by decide +kernel
theorem dr_cX17_graph_281 : decode cX17_graph 281 = .ok (.invokevirtual 113, 3) := by decide +kernel
theorem dr_cX17_graph_284 : decode cX17_graph 284 = .ok (.iinc 5 (-1), 3) := by decide +kernel
theorem dr_cX17_graph_287 : decode cX17_graph 287 = .ok (.goto (-178), 3) := by decide +kernel
theorem dr_cX17_graph_180 : decode cX17_graph 180 = .ok (.iload 8, 2) := by decide +kernel
theorem dr_cX17_graph_182 : decode cX17_graph 182 = .ok (.ifCond .lt 22, 3) := by decide +kernel
theorem dr_cX17_graph_204 : decode cX17_graph 204 = .ok (.iconst 0, 1) := by decide +kernel
theorem dr_cX17_graph_205 : decode cX17_graph 205 = .ok (.istore 9, 2) := by decide +kernel
theorem dr_cX17_graph_207 : decode cX17_graph 207 = .ok (.iconst 0, 1) := by decide +kernel
theorem dr_cX17_graph_208 : decode cX17_graph 208 = .ok (.istore 10, 2) := by decide +kernel
theorem dr_cX17_graph_210 : decode cX17_graph 210 = .ok (.iload 10, 2) := by decide +kernel
theorem dr_cX17_graph_212 : decode cX17_graph 212 = .ok (.bipush 32, 2) := by decide +kernel
theorem dr_cX17_graph_214 : decode cX17_graph 214 = .ok (.if_icmp .ge 29, 3) := by decide +kernel
theorem dr_cX17_graph_243 : decode cX17_graph 243 = .ok (.iload 8, 2) := by decide +kernel
theorem dr_cX17_graph_245 : decode cX17_graph 245 = .ok (.ifCond .lt 20, 3) := by decide +kernel
theorem dr_cX17_graph_265 : decode cX17_graph 265 = .ok (.aload_n 0, 1) := by decide +kernel
theorem dr_cX17_graph_266 : decode cX17_graph 266 = .ok (.getfield 135, 3) := by decide +kernel
theorem dr_cX17_graph_269 : decode cX17_graph 269 = .ok (.iload 7, 2) := by decide +kernel
theorem dr_cX17_graph_271 : decode cX17_graph 271 = .ok (.aaload, 1) := by decide +kernel
theorem dr_cX17_graph_272 : decode cX17_graph 272 = .ok (.iload 7, 2) := by decide +kernel
theorem dr_cX17_graph_274 : decode cX17_graph 274 = .ok (.invokestatic 63, 3) := by decide +kernel
theorem dr_cX17_graph_217 : decode cX17_graph 217 = .ok (.aload_n 0, 1) := by decide +kernel
theorem dr_cX17_graph_218 : decode cX17_graph 218 = .ok (.getfield 135, 3) := by decide +kernel
theorem dr_cX17_graph_221 : decode cX17_graph 221 = .ok (.iload 7, 2) := by decide +kernel
theorem dr_cX17_graph_223 : decode cX17_graph 223 = .ok (.aaload, 1) := by decide +kernel
theorem dr_cX17_graph_224 : decode cX17_graph 224 = .ok (.iload 10, 2) := by decide +kernel
theorem dr_cX17_graph_226 : decode cX17_graph 226 = .ok (.dup2, 1) := by decide +kernel
theorem dr_cX17_graph_227 : decode cX17_graph 227 = .ok (.laload, 1) := by decide +kernel
theorem dr_cX17_graph_228 : decode cX17_graph 228 = .ok (.aload_n 0, 1) := by decide +kernel
theorem dr_cX17_graph_229 : decode cX17_graph 229 = .ok (.getfield 59, 3) := by decide +kernel
theorem dr_cX17_graph_232 : decode cX17_graph 232 = .ok (.iload 10, 2) := by decide +kernel
theorem dr_cX17_graph_234 : decode cX17_graph 234 = .ok (.laload, 1) := by decide +kernel
theorem dr_cX17_graph_235 : decode cX17_graph 235 = .ok (.lor, 1) := by decide +kernel
theorem dr_cX17_graph_236 : decode cX17_graph 236 = .ok (.lastore, 1) := by decide +kernel
theorem dr_cX17_graph_237 : decode cX17_graph 237 = .ok (.iinc 10 1, 3) := by decide +kernel
theorem dr_cX17_graph_240 : decode cX17_graph 240 = .ok (.goto (-30), 3) := by decide +kernel
theorem dr_cX17_graph_148 : decode cX17_graph 148 = .ok (.aload 6, 2) := by decide +kernel
theorem dr_cX17_graph_150 : decode cX17_graph 150 = .ok (.getfield 39, 3) := by decide +kernel
theorem dr_cX17_graph_153 : decode cX17_graph 153 = .ok (.ifCond .ne 19, 3) := by decide +kernel
theorem dr_cX17_graph_156 : decode cX17_graph 156 = .ok (.aload 6, 2) := by decide +kernel
theorem dr_cX17_graph_158 : decode cX17_graph 158 = .ok (.getfield 141, 3) := by decide +kernel
theorem dr_cX17_graph_161 : decode cX17_graph 161 = .ok (.ifCond .eq 11, 3) := by decide +kernel
theorem dr_cX17_graph_164 : decode cX17_graph 164 = .ok (.aload 6, 2) := by decide +kernel
theorem dr_cX17_graph_166 : decode cX17_graph 166 = .ok (.getfield 73, 3) := by decide +kernel
theorem dr_cX17_graph_169 : decode cX17_graph 169 = .ok (.goto 4, 3) := by decide +kernel
theorem dr_cX17_graph_185 : decode cX17_graph 185 = .ok (.aload_n 0, 1) := by decide +kernel
theorem dr_cX17_graph_186 : decode cX17_graph 186 = .ok (.getfield 135, 3) := by decide +kernel
theorem dr_cX17_graph_189 : decode cX17_graph 189 = .ok (.iload 7, 2) := by decide +kernel
theorem dr_cX17_graph_191 : decode cX17_graph 191 = .ok (.aaload, 1) := by decide +kernel
theorem dr_cX17_graph_192 : decode cX17_graph 192 = .ok (.iload 8, 2) := by decide +kernel
theorem dr_cX17_graph_194 : decode cX17_graph 194 = .ok (.invokestatic 145, 3) := by decide +kernel
theorem dr_cX17_graph_197 : decode cX17_graph 197 = .ok (.ifCond .eq 7, 3) := by decide +kernel
theorem dr_cX17_graph_248 : decode cX17_graph 248 = .ok (.iload 9, 2) := by decide +kernel
theorem dr_cX17_graph_250 : decode cX17_graph 250 = .ok (.ifCond .ne 15, 3) := by decide +kernel
theorem dr_cX17_graph_253 : decode cX17_graph 253 = .ok (.aload_n 0, 1) := by decide +kernel
theorem dr_cX17_graph_254 : decode cX17_graph 254 = .ok (.getfield 135, 3) := by decide +kernel
theorem dr_cX17_graph_257 : decode cX17_graph 257 = .ok (.iload 7, 2) := by decide +kernel
theorem dr_cX17_graph_259 : decode cX17_graph 259 = .ok (.aaload, 1) := by decide +kernel
theorem dr_cX17_graph_260 : decode cX17_graph 260 = .ok (.iload 8, 2) := by decide +kernel
theorem dr_cX17_graph_262 : decode cX17_graph 262 = .ok (.invokestatic 63, 3) := by decide +kernel
theorem dr_cX17_graph_200 : decode cX17_graph 200 = .ok (.iconst 1, 1) := by decide +kernel
theorem dr_cX17_graph_201 : decode cX17_graph 201 = .ok (.goto 4, 3) := by decide +kernel
theorem dr_cX17_graph_15 : decode cX17_graph 15 = .ok (.aload_n 0, 1) := by decide +kernel
theorem dr_cX17_graph_16 : decode cX17_graph 16 = .ok (.getfield 131, 3) := by decide +kernel
theorem dr_cX17_graph_19 : decode cX17_graph 19 = .ok (.iload_n 3, 1) := by decide +kernel
theorem dr_cX17_graph_20 : decode cX17_graph 20 = .ok (.iconst 0, 1) := by decide +kernel
theorem dr_cX17_graph_21 : decode cX17_graph 21 = .ok (.bastore, 1) := by decide +kernel
theorem dr_cX17_graph_22 : decode cX17_graph 22 = .ok (.iconst 0, 1) := by decide +kernel
theorem dr_cX17_graph_23 : decode cX17_graph 23 = .ok (.istore 4, 2) := by decide +kernel
theorem dr_cX17_graph_25 : decode cX17_graph 25 = .ok (.iload 4, 2) := by decide +kernel
theorem dr_cX17_graph_27 : decode cX17_graph 27 = .ok (.bipush 32, 2) := by decide +kernel
theorem dr_cX17_graph_29 : decode cX17_graph 29 = .ok (.if_icmp .ge 19, 3) := by decide +kernel
theorem dr_cX17_graph_48 : decode cX17_graph 48 = .ok (.iinc 3 1, 3) := by decide +kernel
theorem dr_cX17_graph_51 : decode cX17_graph 51 = .ok (.goto (-43), 3) := by decide +kernel
theorem dr_cX17_graph_32 : decode cX17_graph 32 = .ok (.aload_n 0, 1) := by decide +kernel
theorem dr_cX17_graph_33 : decode cX17_graph 33 = .ok (.getfield 135, 3) := by decide +kernel
theorem dr_cX17_graph_36 : decode cX17_graph 36 = .ok (.iload_n 3, 1) := by decide +kernel
theorem dr_cX17_graph_37 : decode cX17_graph 37 = .ok (.aaload, 1) := by decide +kernel
theorem dr_cX17_graph_38 : decode cX17_graph 38 = .ok (.iload 4, 2) := by decide +kernel
theorem dr_cX17_graph_40 : decode cX17_graph 40 = .ok (.lconst 0, 1) := by decide +kernel
theorem dr_cX17_graph_41 : decode cX17_graph 41 = .ok (.lastore, 1) := by decide +kernel
theorem dr_cX17_graph_42 : decode cX17_graph 42 = .ok (.iinc 4 1, 3) := by decide +kernel
theorem dr_cX17_graph_45 : decode cX17_graph 45 = .ok (.goto (-20), 3) := by decide +kernel
abbrev ky_276878_SpillForgeModel_back : gKey := (cX17_back, 4, "SpillForgeModel", none, [], "back", fun _ _ => True)
def pt_276878_SpillForgeModel_back (D : va_G) (I : FieldType → ClassId) (γ el : Nat → Nat → Nat) (P276873 : List Nat) (F276874 : Nat → va_E) (q276875 : Nat) (q276876 : Nat) (p276877 : Int32) : Option Value → va_W → Nat → Nat → Prop := fun r w dc ds => ∃ (F277336 : Nat → va_E), r = none ∧ w = va_pl P276873 F277336 ∧ RS D I P276873 F277336 γ el ∧ rStr γ [] F276874 F277336 ∧ dc ≤ 0 ∧ ds ≤ 0 ∧ (F277336 q276875 = F276874 q276875) ∧ (F277336 (γ 9 3) = F276874 (γ 9 3))
set_option maxRecDepth 100000 in
set_option maxHeartbeats 4000000 in
theorem ct_276878_SpillForgeModel_back (l : Launch) (hl0 : l.stackTraces = false) (D : va_G) (I : FieldType → ClassId) (γ el : Nat → Nat → Nat) (P276873 : List Nat) (F276874 : Nat → va_E) (q276875 : Nat) (q276876 : Nat) (p276877 : Int32) (hT : RS D I P276873 F276874 γ el) (htq276875 : rKd γ q276875 10) (htq276876 : rKd γ q276876 1) (bp276877 : gB p276877 0 1) : CtA (gV D I) l yX17_back cX17_back 4 none 2 41 0 0 [.ref q276875, .ref q276876, .int p276877] (va_pl P276873 F276874) (pt_276878_SpillForgeModel_back D I γ el P276873 F276874 q276875 q276876 p276877) gNA := by
  refine CtA_of hl0 (by decide) (Nat.le_of_ble_eq_true rfl) ?_
  refine G_aload_n 1 dr_cX17_back_0 rfl ?_
  refine G_iload_n 2 dr_cX17_back_1 rfl ?_
  have hm276879 : q276876 ∈ P276873 := RS_m hT htq276876 (by decide)
  obtain ⟨p276881, p276882, p276883, p276884, p276885, p276886, p276887, he276880, bp276881, bp276882, bp276885, bp276886, bp276887, r276888, r276889, r276890, r276891, r276892⟩ := show rk_1 γ q276876 (F276874 q276876) from RS_o hT htq276876
  have bp276883 := gB_any p276883
  have bp276884 := gB_any p276884
  refine Gw_callS (As := [.ref q276876, .int p276877]) (gV_ok D I) (cp_1778_SpillForgeModel_setOf l hl0 D I P276873 F276874 q276876 p276877 p276881 p276882 p276883 p276884 p276885 p276886 p276887 hm276879 he276880 bp276877 bp276881 bp276882 bp276885 bp276886 bp276887) dr_cX17_back_2 ⟨wr_10_174, wr_1_14, wr_10_176, by decide, rfl, (Nat.le_of_ble_eq_true rfl), (Nat.le_of_ble_eq_true rfl)⟩ wr_10_175 (show 0 + 0 ≤ 0 by first | omega | decide) (show 0 + 0 ≤ 0 by first | omega | decide) (Nat.le_of_ble_eq_true rfl) (fun r276896 w276897 dc276893 ds276894 hp276895 => ?_) (fun _ _ _ _ _ z => z.elim)
  obtain ⟨o276898, rfl, rfl, hdc, hds, bo276898⟩ := hp276895
  change G _ _ _ _ _ _ _ (.int o276898 :: _) _ _ _
  refine G_widen (cs' := 0) (sl' := 0) (by omega) (by omega) ?_
  refine G_istore_n (L' := [(3, .int o276898), (0, .ref q276875), (1, .ref q276876), (2, .int p276877)]) dr_cX17_back_5 (Nat.le_of_ble_eq_true rfl) rfl ?_
  refine G_iload_n 0 dr_cX17_back_6 rfl ?_
  refine G_if_lt 18 dr_cX17_back_7 (by decide +kernel) (fun hc276899 => ?_) (fun hc276899 => ?_)
  · have r276900 : o276898.toInt < 0 := gj_lt hc276899 (show Int32.toInt 0 = 0 by decide)
    have bo276898' : gB o276898 (-1) (-1) := ⟨by omega, by omega⟩
    refine G_iload_n 3 dr_cX17_back_18 rfl ?_
    refine G_if_eq 43 dr_cX17_back_19 (by decide +kernel) (fun hc276901 => ?_) (fun hc276901 => ?_)
    · have r276902 : p276877.toInt = 0 := gj_eq hc276901 (show Int32.toInt 0 = 0 by decide)
      have bp276877' : gB p276877 0 0 := gB_t0 r276902
      refine G_aload_n 2 dr_cX17_back_43 rfl ?_
      refine Gw_callV (As := []) (gV_ok D I) (cp_1669_Row_usesA l hl0 D I P276873 F276874 q276876 p276881 p276882 p276883 p276884 p276885 p276886 p276887 hm276879 he276880 bp276881 bp276882 bp276885 bp276886 bp276887) dr_cX17_back_44 ⟨wr_10_188, wr_1_39, wr_10_191, by decide, rfl, (Nat.le_of_ble_eq_true rfl), (Nat.le_of_ble_eq_true rfl)⟩ wr_10_189 wr_10_190 hm276879 he276880 rfl (show 0 + 0 ≤ 0 by first | omega | decide) (show 0 + 0 ≤ 0 by first | omega | decide) (Nat.le_of_ble_eq_true rfl) (fun r276906 w276907 dc276903 ds276904 hp276905 => ?_) (fun _ _ _ _ _ z => z.elim)
      obtain ⟨o276908, rfl, rfl, hdc, hds, bo276908, x276909⟩ := hp276905
      change G _ _ _ _ _ _ _ (.int o276908 :: _) _ _ _
      refine G_widen (cs' := 0) (sl' := 0) (by omega) (by omega) ?_
      refine G_if_eq 61 dr_cX17_back_47 (by decide +kernel) (fun hc276910 => ?_) (fun hc276910 => ?_)
      · have r276911 : o276908.toInt = 0 := gj_eq hc276910 (show Int32.toInt 0 = 0 by decide)
        have bo276908' : gB o276908 0 0 := gB_t0 r276911
        refine G_aload_n 2 dr_cX17_back_61 rfl ?_
        refine Gw_callV (As := []) (gV_ok D I) (cp_1693_Row_usesB l hl0 D I P276873 F276874 q276876 p276881 p276882 p276883 p276884 p276885 p276886 p276887 hm276879 he276880 bp276881 bp276882 bp276885 bp276886 bp276887) dr_cX17_back_62 ⟨wr_10_192, wr_1_39, wr_10_195, by decide, rfl, (Nat.le_of_ble_eq_true rfl), (Nat.le_of_ble_eq_true rfl)⟩ wr_10_193 wr_10_194 hm276879 he276880 rfl (show 0 + 0 ≤ 0 by first | omega | decide) (show 0 + 0 ≤ 0 by first | omega | decide) (Nat.le_of_ble_eq_true rfl) (fun r276915 w276916 dc276912 ds276913 hp276914 => ?_) (fun _ _ _ _ _ z => z.elim)
        obtain ⟨o276917, rfl, rfl, hdc, hds, bo276917, x276918⟩ := hp276914
        change G _ _ _ _ _ _ _ (.int o276917 :: _) _ _ _
        refine G_widen (cs' := 0) (sl' := 0) (by omega) (by omega) ?_
        refine G_if_eq 79 dr_cX17_back_65 (by decide +kernel) (fun hc276919 => ?_) (fun hc276919 => ?_)
        · have r276920 : o276917.toInt = 0 := gj_eq hc276919 (show Int32.toInt 0 = 0 by decide)
          have bo276917' : gB o276917 0 0 := gB_t0 r276920
          exact G_vretA dr_cX17_back_79 rfl (Nat.le_of_ble_eq_true rfl) (Nat.le_of_ble_eq_true rfl) ⟨F276874, rfl, rfl, hT, (rStr_rf (γ := γ) (W := []) (F := F276874)), (Nat.le_of_ble_eq_true rfl), (Nat.le_of_ble_eq_true rfl), rfl, rfl⟩
        · have r276921 : o276917.toInt ≠ 0 := gj_neq hc276919 (show Int32.toInt 0 = 0 by decide)
          have bo276917' : gB o276917 1 1 := gB_t1 bo276917 r276921
          refine G_aload_n 1 dr_cX17_back_68 rfl ?_
          have hm276922 : q276875 ∈ P276873 := RS_m hT htq276875 (by decide)
          refine rk10_e (show rk_10 γ (F276874 q276875) from RS_o hT htq276875) (fun q276924 q276925 p276926 p276927 p276928 p276929 p276930 p276931 p276932 p276933 p276934 p276935 p276936 p276937 p276938 p276939 p276940 he276923 hB276967 ht276941 ht276942 ht276943 ht276944 ht276945 ht276946 ht276947 ht276948 ht276949 ht276950 ht276951 ht276952 ht276953 ht276954 ht276955 ht276956 ht276957 ht276958 ht276959 ht276960 ht276961 ht276962 ht276963 ht276964 hB276968 => ?_)
          refine Gp_get 2 hm276922 he276923 dr_cX17_back_69 (gk_X17 D I) (Nat.le_of_ble_eq_true rfl) wr_7_76 rfl ?_
          refine G_aload_n 2 dr_cX17_back_72 rfl ?_
          refine Gp_get 3 hm276879 he276880 dr_cX17_back_73 (gk_X15 D I) (Nat.le_of_ble_eq_true rfl) wr_9_186 rfl ?_
          have hm276969 : (γ 9 2) ∈ P276873 := RS_m hT ht276945 (by decide)
          obtain ⟨f276971, he276970, wf276971⟩ := show rk_35 I (F276874 (γ 9 2)) from RS_o hT ht276945
          refine Gw_callS (As := [.ref (γ 9 2), .int p276884]) (gV_ok D I) (cp_1853_SpillForgeModel_set l hl0 D I P276873 F276874 (γ 9 2) p276884 f276971 hm276969 he276970 ⟨by omega, by omega⟩ wf276971) dr_cX17_back_76 ⟨wr_10_185, wr_1_14, wr_10_187, by decide, rfl, (Nat.le_of_ble_eq_true rfl), (Nat.le_of_ble_eq_true rfl)⟩ wr_10_186 (show 0 + 0 ≤ 0 by first | omega | decide) (show 0 + 0 ≤ 0 by first | omega | decide) (Nat.le_of_ble_eq_true rfl) (fun r276975 w276976 dc276972 ds276973 hp276974 => ?_) (fun _ _ _ _ _ z => z.elim)
          obtain ⟨F276979, f276977, rfl, rfl, hfr276981, he276982, hdc, hds, x276978⟩ := hp276974
          have he276983 : F276979 q276876 = .inr (20, [.int p276881, .int p276882, .int p276883, .int p276884, .int p276885, .int p276886, .int p276887]) := (hfr276981 q276876 hm276879 (nm_c (rn_oa he276880 he276970) nm_n)).trans he276880
          have he276984 : F276979 q276875 = .inr (22, [.ref (γ 9 0), .ref (γ 9 1), .ref (γ 9 2), .ref (γ 9 3), .ref (γ 9 4), .ref (γ 9 5), .ref (γ 9 6), .ref (γ 9 7), .ref (γ 9 8), .int p276926, .int p276927, .int p276928, .int p276929, .int p276930, .int p276931, .ref (γ 9 15), .ref (γ 9 16), .ref (γ 9 17), .ref (γ 9 18), .ref (γ 9 19), .ref (γ 9 20), .ref (γ 9 21), .ref (γ 9 22), .int p276932, .int p276933, .int p276934, .int p276935, .int p276936, .ref q276924, .ref (γ 9 29), .int p276937, .ref (γ 9 31), .int p276938, .int p276939, .int p276940, .ref q276925]) := (hfr276981 q276875 hm276922 (nm_c (rn_oa he276923 he276970) nm_n)).trans he276923
          have hfr276985 : rFr [(γ 9 2)] P276873 F276874 F276979 := rFr_call (rSub_rf (P := P276873)) (rFr_rf (W := []) (P := P276873) (F := F276874)) hfr276981 (fun b hb hn => ⟨nm_n, (nm_c (fun e => hn (e ▸ List.mem_cons_self)) nm_n)⟩)
          change G _ _ _ _ _ _ _ _ _ _ _
          refine G_widen (cs' := 0) (sl' := 0) (by omega) (by omega) ?_
          have hT276986 : RS D I P276873 F276979 γ el := RS_fr hT hfr276985 ht276945 (by decide) ⟨f276977, he276982, x276978⟩
          have hs276987 : rStr γ [] F276874 F276979 := rStr_fr hT (rStr_rf (γ := γ) (W := []) (F := F276874)) hfr276985 ht276945 (by decide)
          have kp276988 : F276979 q276875 = F276874 q276875 := hfr276985 q276875 (RS_m hT htq276875 (by decide)) (nm_c (rn_ty htq276875 ht276945 (by decide)) nm_n)
          have kp276989 : F276979 (γ 9 3) = F276874 (γ 9 3) := hfr276985 (γ 9 3) (RS_m hT ht276946 (by decide)) (nm_c (rn_ty ht276946 ht276945 (by decide)) nm_n)
          exact G_vretA dr_cX17_back_79 rfl (Nat.le_of_ble_eq_true rfl) (Nat.le_of_ble_eq_true rfl) ⟨F276979, rfl, rfl, hT276986, hs276987, (Nat.le_of_ble_eq_true rfl), (Nat.le_of_ble_eq_true rfl), kp276988, kp276989⟩
      · have r276990 : o276908.toInt ≠ 0 := gj_neq hc276910 (show Int32.toInt 0 = 0 by decide)
        have bo276908' : gB o276908 1 1 := gB_t1 bo276908 r276990
        refine G_aload_n 1 dr_cX17_back_50 rfl ?_
        have hm276991 : q276875 ∈ P276873 := RS_m hT htq276875 (by decide)
        refine rk10_e (show rk_10 γ (F276874 q276875) from RS_o hT htq276875) (fun q276993 q276994 p276995 p276996 p276997 p276998 p276999 p277000 p277001 p277002 p277003 p277004 p277005 p277006 p277007 p277008 p277009 he276992 hB277036 ht277010 ht277011 ht277012 ht277013 ht277014 ht277015 ht277016 ht277017 ht277018 ht277019 ht277020 ht277021 ht277022 ht277023 ht277024 ht277025 ht277026 ht277027 ht277028 ht277029 ht277030 ht277031 ht277032 ht277033 hB277037 => ?_)
        refine Gp_get 2 hm276991 he276992 dr_cX17_back_51 (gk_X17 D I) (Nat.le_of_ble_eq_true rfl) wr_7_76 rfl ?_
        refine G_aload_n 2 dr_cX17_back_54 rfl ?_
        refine Gp_get 2 hm276879 he276880 dr_cX17_back_55 (gk_X15 D I) (Nat.le_of_ble_eq_true rfl) wr_9_182 rfl ?_
        have hm277038 : (γ 9 2) ∈ P276873 := RS_m hT ht277014 (by decide)
        obtain ⟨f277040, he277039, wf277040⟩ := show rk_35 I (F276874 (γ 9 2)) from RS_o hT ht277014
        refine Gw_callS (As := [.ref (γ 9 2), .int p276883]) (gV_ok D I) (cp_1853_SpillForgeModel_set l hl0 D I P276873 F276874 (γ 9 2) p276883 f277040 hm277038 he277039 ⟨by omega, by omega⟩ wf277040) dr_cX17_back_58 ⟨wr_10_185, wr_1_14, wr_10_187, by decide, rfl, (Nat.le_of_ble_eq_true rfl), (Nat.le_of_ble_eq_true rfl)⟩ wr_10_186 (show 0 + 0 ≤ 0 by first | omega | decide) (show 0 + 0 ≤ 0 by first | omega | decide) (Nat.le_of_ble_eq_true rfl) (fun r277044 w277045 dc277041 ds277042 hp277043 => ?_) (fun _ _ _ _ _ z => z.elim)
        obtain ⟨F277048, f277046, rfl, rfl, hfr277050, he277051, hdc, hds, x277047⟩ := hp277043
        have he277052 : F277048 q276876 = .inr (20, [.int p276881, .int p276882, .int p276883, .int p276884, .int p276885, .int p276886, .int p276887]) := (hfr277050 q276876 hm276879 (nm_c (rn_oa he276880 he277039) nm_n)).trans he276880
        have he277053 : F277048 q276875 = .inr (22, [.ref (γ 9 0), .ref (γ 9 1), .ref (γ 9 2), .ref (γ 9 3), .ref (γ 9 4), .ref (γ 9 5), .ref (γ 9 6), .ref (γ 9 7), .ref (γ 9 8), .int p276995, .int p276996, .int p276997, .int p276998, .int p276999, .int p277000, .ref (γ 9 15), .ref (γ 9 16), .ref (γ 9 17), .ref (γ 9 18), .ref (γ 9 19), .ref (γ 9 20), .ref (γ 9 21), .ref (γ 9 22), .int p277001, .int p277002, .int p277003, .int p277004, .int p277005, .ref q276993, .ref (γ 9 29), .int p277006, .ref (γ 9 31), .int p277007, .int p277008, .int p277009, .ref q276994]) := (hfr277050 q276875 hm276991 (nm_c (rn_oa he276992 he277039) nm_n)).trans he276992
        have hfr277054 : rFr [(γ 9 2)] P276873 F276874 F277048 := rFr_call (rSub_rf (P := P276873)) (rFr_rf (W := []) (P := P276873) (F := F276874)) hfr277050 (fun b hb hn => ⟨nm_n, (nm_c (fun e => hn (e ▸ List.mem_cons_self)) nm_n)⟩)
        change G _ _ _ _ _ _ _ _ _ _ _
        refine G_widen (cs' := 0) (sl' := 0) (by omega) (by omega) ?_
        have hT277055 : RS D I P276873 F277048 γ el := RS_fr hT hfr277054 ht277014 (by decide) ⟨f277046, he277051, x277047⟩
        have hs277056 : rStr γ [] F276874 F277048 := rStr_fr hT (rStr_rf (γ := γ) (W := []) (F := F276874)) hfr277054 ht277014 (by decide)
        have kp277057 : F277048 q276875 = F276874 q276875 := hfr277054 q276875 (RS_m hT htq276875 (by decide)) (nm_c (rn_ty htq276875 ht277014 (by decide)) nm_n)
        have kp277058 : F277048 (γ 9 3) = F276874 (γ 9 3) := hfr277054 (γ 9 3) (RS_m hT ht277015 (by decide)) (nm_c (rn_ty ht277015 ht277014 (by decide)) nm_n)
        refine G_aload_n 2 dr_cX17_back_61 rfl ?_
        refine Gw_callV (As := []) (gV_ok D I) (cp_1693_Row_usesB l hl0 D I P276873 F277048 q276876 p276881 p276882 p276883 p276884 p276885 p276886 p276887 hm276879 he277052 bp276881 bp276882 bp276885 bp276886 bp276887) dr_cX17_back_62 ⟨wr_10_192, wr_1_39, wr_10_195, by decide, rfl, (Nat.le_of_ble_eq_true rfl), (Nat.le_of_ble_eq_true rfl)⟩ wr_10_193 wr_10_194 hm276879 he277052 rfl (show 0 + 0 ≤ 0 by first | omega | decide) (show 0 + 0 ≤ 0 by first | omega | decide) (Nat.le_of_ble_eq_true rfl) (fun r277062 w277063 dc277059 ds277060 hp277061 => ?_) (fun _ _ _ _ _ z => z.elim)
        obtain ⟨o277064, rfl, rfl, hdc, hds, bo277064, x277065⟩ := hp277061
        change G _ _ _ _ _ _ _ (.int o277064 :: _) _ _ _
        refine G_widen (cs' := 0) (sl' := 0) (by omega) (by omega) ?_
        refine G_if_eq 79 dr_cX17_back_65 (by decide +kernel) (fun hc277066 => ?_) (fun hc277066 => ?_)
        · have r277067 : o277064.toInt = 0 := gj_eq hc277066 (show Int32.toInt 0 = 0 by decide)
          have bo277064' : gB o277064 0 0 := gB_t0 r277067
          exact G_vretA dr_cX17_back_79 rfl (Nat.le_of_ble_eq_true rfl) (Nat.le_of_ble_eq_true rfl) ⟨F277048, rfl, rfl, hT277055, hs277056, (Nat.le_of_ble_eq_true rfl), (Nat.le_of_ble_eq_true rfl), kp277057, kp277058⟩
        · have r277068 : o277064.toInt ≠ 0 := gj_neq hc277066 (show Int32.toInt 0 = 0 by decide)
          have bo277064' : gB o277064 1 1 := gB_t1 bo277064 r277068
          refine G_aload_n 1 dr_cX17_back_68 rfl ?_
          refine Gp_get 2 hm276991 he277053 dr_cX17_back_69 (gk_X17 D I) (Nat.le_of_ble_eq_true rfl) wr_7_76 rfl ?_
          refine G_aload_n 2 dr_cX17_back_72 rfl ?_
          refine Gp_get 3 hm276879 he277052 dr_cX17_back_73 (gk_X15 D I) (Nat.le_of_ble_eq_true rfl) wr_9_186 rfl ?_
          refine Gw_callS (As := [.ref (γ 9 2), .int p276884]) (gV_ok D I) (cp_1853_SpillForgeModel_set l hl0 D I P276873 F277048 (γ 9 2) p276884 f277046 hm277038 he277051 ⟨by omega, by omega⟩ x277047) dr_cX17_back_76 ⟨wr_10_185, wr_1_14, wr_10_187, by decide, rfl, (Nat.le_of_ble_eq_true rfl), (Nat.le_of_ble_eq_true rfl)⟩ wr_10_186 (show 0 + 0 ≤ 0 by first | omega | decide) (show 0 + 0 ≤ 0 by first | omega | decide) (Nat.le_of_ble_eq_true rfl) (fun r277072 w277073 dc277069 ds277070 hp277071 => ?_) (fun _ _ _ _ _ z => z.elim)
          obtain ⟨F277076, f277074, rfl, rfl, hfr277078, he277079, hdc, hds, x277075⟩ := hp277071
          have he277080 : F277076 q276876 = .inr (20, [.int p276881, .int p276882, .int p276883, .int p276884, .int p276885, .int p276886, .int p276887]) := (hfr277078 q276876 hm276879 (nm_c (rn_oa he277052 he277051) nm_n)).trans he277052
          have he277081 : F277076 q276875 = .inr (22, [.ref (γ 9 0), .ref (γ 9 1), .ref (γ 9 2), .ref (γ 9 3), .ref (γ 9 4), .ref (γ 9 5), .ref (γ 9 6), .ref (γ 9 7), .ref (γ 9 8), .int p276995, .int p276996, .int p276997, .int p276998, .int p276999, .int p277000, .ref (γ 9 15), .ref (γ 9 16), .ref (γ 9 17), .ref (γ 9 18), .ref (γ 9 19), .ref (γ 9 20), .ref (γ 9 21), .ref (γ 9 22), .int p277001, .int p277002, .int p277003, .int p277004, .int p277005, .ref q276993, .ref (γ 9 29), .int p277006, .ref (γ 9 31), .int p277007, .int p277008, .int p277009, .ref q276994]) := (hfr277078 q276875 hm276991 (nm_c (rn_oa he277053 he277051) nm_n)).trans he277053
          have hfr277082 : rFr [(γ 9 2)] P276873 F277048 F277076 := rFr_call (rSub_rf (P := P276873)) (rFr_rf (W := []) (P := P276873) (F := F277048)) hfr277078 (fun b hb hn => ⟨nm_n, (nm_c (fun e => hn (e ▸ List.mem_cons_self)) nm_n)⟩)
          change G _ _ _ _ _ _ _ _ _ _ _
          refine G_widen (cs' := 0) (sl' := 0) (by omega) (by omega) ?_
          have hT277083 : RS D I P276873 F277076 γ el := RS_fr hT277055 hfr277082 ht277014 (by decide) ⟨f277074, he277079, x277075⟩
          have hs277084 : rStr γ [] F276874 F277076 := rStr_fr hT277055 hs277056 hfr277082 ht277014 (by decide)
          have kp277085 : F277076 q276875 = F276874 q276875 := (hfr277082 q276875 (RS_m hT277055 htq276875 (by decide)) (nm_c (rn_ty htq276875 ht277014 (by decide)) nm_n)).trans kp277057
          have kp277086 : F277076 (γ 9 3) = F276874 (γ 9 3) := (hfr277082 (γ 9 3) (RS_m hT277055 ht277015 (by decide)) (nm_c (rn_ty ht277015 ht277014 (by decide)) nm_n)).trans kp277058
          exact G_vretA dr_cX17_back_79 rfl (Nat.le_of_ble_eq_true rfl) (Nat.le_of_ble_eq_true rfl) ⟨F277076, rfl, rfl, hT277083, hs277084, (Nat.le_of_ble_eq_true rfl), (Nat.le_of_ble_eq_true rfl), kp277085, kp277086⟩
    · have r277087 : p276877.toInt ≠ 0 := gj_neq hc276901 (show Int32.toInt 0 = 0 by decide)
      have bp276877' : gB p276877 1 1 := gB_t1 bp276877 r277087
      refine G_aload_n 2 dr_cX17_back_22 rfl ?_
      refine Gp_get 0 hm276879 he276880 dr_cX17_back_23 (gk_X15 D I) (Nat.le_of_ble_eq_true rfl) wr_9_173 rfl ?_
      refine G_bipush 21 dr_cX17_back_26 (by decide +kernel) ?_
      refine G_icmp_ne 42 dr_cX17_back_28 (by decide +kernel) (fun hc277088 => ?_) (fun hc277088 => ?_)
      · have r277089 : p276881.toInt ≠ 21 := gj_neq hc277088 (show Int32.toInt 21 = 21 by decide)
        exact G_vretA dr_cX17_back_42 rfl (Nat.le_of_ble_eq_true rfl) (Nat.le_of_ble_eq_true rfl) ⟨F276874, rfl, rfl, hT, (rStr_rf (γ := γ) (W := []) (F := F276874)), (Nat.le_of_ble_eq_true rfl), (Nat.le_of_ble_eq_true rfl), rfl, rfl⟩
      · have r277090 : p276881.toInt = 21 := gj_eq hc277088 (show Int32.toInt 21 = 21 by decide)
        have bp276881' : gB p276881 21 21 := ⟨by omega, by omega⟩
        refine G_aload_n 1 dr_cX17_back_31 rfl ?_
        have hm277091 : q276875 ∈ P276873 := RS_m hT htq276875 (by decide)
        refine rk10_e (show rk_10 γ (F276874 q276875) from RS_o hT htq276875) (fun q277093 q277094 p277095 p277096 p277097 p277098 p277099 p277100 p277101 p277102 p277103 p277104 p277105 p277106 p277107 p277108 p277109 he277092 hB277136 ht277110 ht277111 ht277112 ht277113 ht277114 ht277115 ht277116 ht277117 ht277118 ht277119 ht277120 ht277121 ht277122 ht277123 ht277124 ht277125 ht277126 ht277127 ht277128 ht277129 ht277130 ht277131 ht277132 ht277133 hB277137 => ?_)
        refine Gp_get 2 hm277091 he277092 dr_cX17_back_32 (gk_X17 D I) (Nat.le_of_ble_eq_true rfl) wr_7_76 rfl ?_
        refine G_aload_n 2 dr_cX17_back_35 rfl ?_
        refine Gp_get 4 hm276879 he276880 dr_cX17_back_36 (gk_X15 D I) (Nat.le_of_ble_eq_true rfl) wr_9_189 rfl ?_
        have hm277138 : (γ 9 2) ∈ P276873 := RS_m hT ht277114 (by decide)
        obtain ⟨f277140, he277139, wf277140⟩ := show rk_35 I (F276874 (γ 9 2)) from RS_o hT ht277114
        refine Gw_callS (As := [.ref (γ 9 2), .int p276885]) (gV_ok D I) (cp_1853_SpillForgeModel_set l hl0 D I P276873 F276874 (γ 9 2) p276885 f277140 hm277138 he277139 bp276885 wf277140) dr_cX17_back_39 ⟨wr_10_185, wr_1_14, wr_10_187, by decide, rfl, (Nat.le_of_ble_eq_true rfl), (Nat.le_of_ble_eq_true rfl)⟩ wr_10_186 (show 0 + 0 ≤ 0 by first | omega | decide) (show 0 + 0 ≤ 0 by first | omega | decide) (Nat.le_of_ble_eq_true rfl) (fun r277144 w277145 dc277141 ds277142 hp277143 => ?_) (fun _ _ _ _ _ z => z.elim)
        obtain ⟨F277148, f277146, rfl, rfl, hfr277150, he277151, hdc, hds, x277147⟩ := hp277143
        have he277152 : F277148 q276876 = .inr (20, [.int p276881, .int p276882, .int p276883, .int p276884, .int p276885, .int p276886, .int p276887]) := (hfr277150 q276876 hm276879 (nm_c (rn_oa he276880 he277139) nm_n)).trans he276880
        have he277153 : F277148 q276875 = .inr (22, [.ref (γ 9 0), .ref (γ 9 1), .ref (γ 9 2), .ref (γ 9 3), .ref (γ 9 4), .ref (γ 9 5), .ref (γ 9 6), .ref (γ 9 7), .ref (γ 9 8), .int p277095, .int p277096, .int p277097, .int p277098, .int p277099, .int p277100, .ref (γ 9 15), .ref (γ 9 16), .ref (γ 9 17), .ref (γ 9 18), .ref (γ 9 19), .ref (γ 9 20), .ref (γ 9 21), .ref (γ 9 22), .int p277101, .int p277102, .int p277103, .int p277104, .int p277105, .ref q277093, .ref (γ 9 29), .int p277106, .ref (γ 9 31), .int p277107, .int p277108, .int p277109, .ref q277094]) := (hfr277150 q276875 hm277091 (nm_c (rn_oa he277092 he277139) nm_n)).trans he277092
        have hfr277154 : rFr [(γ 9 2)] P276873 F276874 F277148 := rFr_call (rSub_rf (P := P276873)) (rFr_rf (W := []) (P := P276873) (F := F276874)) hfr277150 (fun b hb hn => ⟨nm_n, (nm_c (fun e => hn (e ▸ List.mem_cons_self)) nm_n)⟩)
        change G _ _ _ _ _ _ _ _ _ _ _
        refine G_widen (cs' := 0) (sl' := 0) (by omega) (by omega) ?_
        have hT277155 : RS D I P276873 F277148 γ el := RS_fr hT hfr277154 ht277114 (by decide) ⟨f277146, he277151, x277147⟩
        have hs277156 : rStr γ [] F276874 F277148 := rStr_fr hT (rStr_rf (γ := γ) (W := []) (F := F276874)) hfr277154 ht277114 (by decide)
        have kp277157 : F277148 q276875 = F276874 q276875 := hfr277154 q276875 (RS_m hT htq276875 (by decide)) (nm_c (rn_ty htq276875 ht277114 (by decide)) nm_n)
        have kp277158 : F277148 (γ 9 3) = F276874 (γ 9 3) := hfr277154 (γ 9 3) (RS_m hT ht277115 (by decide)) (nm_c (rn_ty ht277115 ht277114 (by decide)) nm_n)
        exact G_vretA dr_cX17_back_42 rfl (Nat.le_of_ble_eq_true rfl) (Nat.le_of_ble_eq_true rfl) ⟨F277148, rfl, rfl, hT277155, hs277156, (Nat.le_of_ble_eq_true rfl), (Nat.le_of_ble_eq_true rfl), kp277157, kp277158⟩
  · have r277159 : 0 ≤ o276898.toInt := gj_nlt hc276899 (show Int32.toInt 0 = 0 by decide)
    have bo276898' : gB o276898 0 1999 := ⟨by omega, by omega⟩
    refine G_aload_n 1 dr_cX17_back_10 rfl ?_
    have hm277160 : q276875 ∈ P276873 := RS_m hT htq276875 (by decide)
    refine rk10_e (show rk_10 γ (F276874 q276875) from RS_o hT htq276875) (fun q277162 q277163 p277164 p277165 p277166 p277167 p277168 p277169 p277170 p277171 p277172 p277173 p277174 p277175 p277176 p277177 p277178 he277161 hB277205 ht277179 ht277180 ht277181 ht277182 ht277183 ht277184 ht277185 ht277186 ht277187 ht277188 ht277189 ht277190 ht277191 ht277192 ht277193 ht277194 ht277195 ht277196 ht277197 ht277198 ht277199 ht277200 ht277201 ht277202 hB277206 => ?_)
    refine Gp_get 2 hm277160 he277161 dr_cX17_back_11 (gk_X17 D I) (Nat.le_of_ble_eq_true rfl) wr_7_76 rfl ?_
    refine G_iload_n 0 dr_cX17_back_14 rfl ?_
    have hm277207 : (γ 9 2) ∈ P276873 := RS_m hT ht277183 (by decide)
    obtain ⟨f277209, he277208, wf277209⟩ := show rk_35 I (F276874 (γ 9 2)) from RS_o hT ht277183
    refine Gw_callS (As := [.ref (γ 9 2), .int o276898]) (gV_ok D I) (cp_1873_SpillForgeModel_clear l hl0 D I P276873 F276874 (γ 9 2) o276898 f277209 hm277207 he277208 bo276898' wf277209) dr_cX17_back_15 ⟨wr_10_181, wr_1_14, wr_10_183, by decide, rfl, (Nat.le_of_ble_eq_true rfl), (Nat.le_of_ble_eq_true rfl)⟩ wr_10_182 (show 0 + 0 ≤ 0 by first | omega | decide) (show 0 + 0 ≤ 0 by first | omega | decide) (Nat.le_of_ble_eq_true rfl) (fun r277213 w277214 dc277210 ds277211 hp277212 => ?_) (fun _ _ _ _ _ z => z.elim)
    obtain ⟨F277217, f277215, rfl, rfl, hfr277219, he277220, hdc, hds, x277216⟩ := hp277212
    have he277221 : F277217 q276876 = .inr (20, [.int p276881, .int p276882, .int p276883, .int p276884, .int p276885, .int p276886, .int p276887]) := (hfr277219 q276876 hm276879 (nm_c (rn_oa he276880 he277208) nm_n)).trans he276880
    have he277222 : F277217 q276875 = .inr (22, [.ref (γ 9 0), .ref (γ 9 1), .ref (γ 9 2), .ref (γ 9 3), .ref (γ 9 4), .ref (γ 9 5), .ref (γ 9 6), .ref (γ 9 7), .ref (γ 9 8), .int p277164, .int p277165, .int p277166, .int p277167, .int p277168, .int p277169, .ref (γ 9 15), .ref (γ 9 16), .ref (γ 9 17), .ref (γ 9 18), .ref (γ 9 19), .ref (γ 9 20), .ref (γ 9 21), .ref (γ 9 22), .int p277170, .int p277171, .int p277172, .int p277173, .int p277174, .ref q277162, .ref (γ 9 29), .int p277175, .ref (γ 9 31), .int p277176, .int p277177, .int p277178, .ref q277163]) := (hfr277219 q276875 hm277160 (nm_c (rn_oa he277161 he277208) nm_n)).trans he277161
    have hfr277223 : rFr [(γ 9 2)] P276873 F276874 F277217 := rFr_call (rSub_rf (P := P276873)) (rFr_rf (W := []) (P := P276873) (F := F276874)) hfr277219 (fun b hb hn => ⟨nm_n, (nm_c (fun e => hn (e ▸ List.mem_cons_self)) nm_n)⟩)
    change G _ _ _ _ _ _ _ _ _ _ _
    refine G_widen (cs' := 0) (sl' := 0) (by omega) (by omega) ?_
    have hT277224 : RS D I P276873 F277217 γ el := RS_fr hT hfr277223 ht277183 (by decide) ⟨f277215, he277220, x277216⟩
    have hs277225 : rStr γ [] F276874 F277217 := rStr_fr hT (rStr_rf (γ := γ) (W := []) (F := F276874)) hfr277223 ht277183 (by decide)
    have kp277226 : F277217 q276875 = F276874 q276875 := hfr277223 q276875 (RS_m hT htq276875 (by decide)) (nm_c (rn_ty htq276875 ht277183 (by decide)) nm_n)
    have kp277227 : F277217 (γ 9 3) = F276874 (γ 9 3) := hfr277223 (γ 9 3) (RS_m hT ht277184 (by decide)) (nm_c (rn_ty ht277184 ht277183 (by decide)) nm_n)
    refine G_iload_n 3 dr_cX17_back_18 rfl ?_
    refine G_if_eq 43 dr_cX17_back_19 (by decide +kernel) (fun hc277228 => ?_) (fun hc277228 => ?_)
    · have r277229 : p276877.toInt = 0 := gj_eq hc277228 (show Int32.toInt 0 = 0 by decide)
      have bp276877' : gB p276877 0 0 := gB_t0 r277229
      refine G_aload_n 2 dr_cX17_back_43 rfl ?_
      refine Gw_callV (As := []) (gV_ok D I) (cp_1669_Row_usesA l hl0 D I P276873 F277217 q276876 p276881 p276882 p276883 p276884 p276885 p276886 p276887 hm276879 he277221 bp276881 bp276882 bp276885 bp276886 bp276887) dr_cX17_back_44 ⟨wr_10_188, wr_1_39, wr_10_191, by decide, rfl, (Nat.le_of_ble_eq_true rfl), (Nat.le_of_ble_eq_true rfl)⟩ wr_10_189 wr_10_190 hm276879 he277221 rfl (show 0 + 0 ≤ 0 by first | omega | decide) (show 0 + 0 ≤ 0 by first | omega | decide) (Nat.le_of_ble_eq_true rfl) (fun r277233 w277234 dc277230 ds277231 hp277232 => ?_) (fun _ _ _ _ _ z => z.elim)
      obtain ⟨o277235, rfl, rfl, hdc, hds, bo277235, x277236⟩ := hp277232
      change G _ _ _ _ _ _ _ (.int o277235 :: _) _ _ _
      refine G_widen (cs' := 0) (sl' := 0) (by omega) (by omega) ?_
      refine G_if_eq 61 dr_cX17_back_47 (by decide +kernel) (fun hc277237 => ?_) (fun hc277237 => ?_)
      · have r277238 : o277235.toInt = 0 := gj_eq hc277237 (show Int32.toInt 0 = 0 by decide)
        have bo277235' : gB o277235 0 0 := gB_t0 r277238
        refine G_aload_n 2 dr_cX17_back_61 rfl ?_
        refine Gw_callV (As := []) (gV_ok D I) (cp_1693_Row_usesB l hl0 D I P276873 F277217 q276876 p276881 p276882 p276883 p276884 p276885 p276886 p276887 hm276879 he277221 bp276881 bp276882 bp276885 bp276886 bp276887) dr_cX17_back_62 ⟨wr_10_192, wr_1_39, wr_10_195, by decide, rfl, (Nat.le_of_ble_eq_true rfl), (Nat.le_of_ble_eq_true rfl)⟩ wr_10_193 wr_10_194 hm276879 he277221 rfl (show 0 + 0 ≤ 0 by first | omega | decide) (show 0 + 0 ≤ 0 by first | omega | decide) (Nat.le_of_ble_eq_true rfl) (fun r277242 w277243 dc277239 ds277240 hp277241 => ?_) (fun _ _ _ _ _ z => z.elim)
        obtain ⟨o277244, rfl, rfl, hdc, hds, bo277244, x277245⟩ := hp277241
        change G _ _ _ _ _ _ _ (.int o277244 :: _) _ _ _
        refine G_widen (cs' := 0) (sl' := 0) (by omega) (by omega) ?_
        refine G_if_eq 79 dr_cX17_back_65 (by decide +kernel) (fun hc277246 => ?_) (fun hc277246 => ?_)
        · have r277247 : o277244.toInt = 0 := gj_eq hc277246 (show Int32.toInt 0 = 0 by decide)
          have bo277244' : gB o277244 0 0 := gB_t0 r277247
          exact G_vretA dr_cX17_back_79 rfl (Nat.le_of_ble_eq_true rfl) (Nat.le_of_ble_eq_true rfl) ⟨F277217, rfl, rfl, hT277224, hs277225, (Nat.le_of_ble_eq_true rfl), (Nat.le_of_ble_eq_true rfl), kp277226, kp277227⟩
        · have r277248 : o277244.toInt ≠ 0 := gj_neq hc277246 (show Int32.toInt 0 = 0 by decide)
          have bo277244' : gB o277244 1 1 := gB_t1 bo277244 r277248
          refine G_aload_n 1 dr_cX17_back_68 rfl ?_
          refine Gp_get 2 hm277160 he277222 dr_cX17_back_69 (gk_X17 D I) (Nat.le_of_ble_eq_true rfl) wr_7_76 rfl ?_
          refine G_aload_n 2 dr_cX17_back_72 rfl ?_
          refine Gp_get 3 hm276879 he277221 dr_cX17_back_73 (gk_X15 D I) (Nat.le_of_ble_eq_true rfl) wr_9_186 rfl ?_
          refine Gw_callS (As := [.ref (γ 9 2), .int p276884]) (gV_ok D I) (cp_1853_SpillForgeModel_set l hl0 D I P276873 F277217 (γ 9 2) p276884 f277215 hm277207 he277220 ⟨by omega, by omega⟩ x277216) dr_cX17_back_76 ⟨wr_10_185, wr_1_14, wr_10_187, by decide, rfl, (Nat.le_of_ble_eq_true rfl), (Nat.le_of_ble_eq_true rfl)⟩ wr_10_186 (show 0 + 0 ≤ 0 by first | omega | decide) (show 0 + 0 ≤ 0 by first | omega | decide) (Nat.le_of_ble_eq_true rfl) (fun r277252 w277253 dc277249 ds277250 hp277251 => ?_) (fun _ _ _ _ _ z => z.elim)
          obtain ⟨F277256, f277254, rfl, rfl, hfr277258, he277259, hdc, hds, x277255⟩ := hp277251
          have he277260 : F277256 q276876 = .inr (20, [.int p276881, .int p276882, .int p276883, .int p276884, .int p276885, .int p276886, .int p276887]) := (hfr277258 q276876 hm276879 (nm_c (rn_oa he277221 he277220) nm_n)).trans he277221
          have he277261 : F277256 q276875 = .inr (22, [.ref (γ 9 0), .ref (γ 9 1), .ref (γ 9 2), .ref (γ 9 3), .ref (γ 9 4), .ref (γ 9 5), .ref (γ 9 6), .ref (γ 9 7), .ref (γ 9 8), .int p277164, .int p277165, .int p277166, .int p277167, .int p277168, .int p277169, .ref (γ 9 15), .ref (γ 9 16), .ref (γ 9 17), .ref (γ 9 18), .ref (γ 9 19), .ref (γ 9 20), .ref (γ 9 21), .ref (γ 9 22), .int p277170, .int p277171, .int p277172, .int p277173, .int p277174, .ref q277162, .ref (γ 9 29), .int p277175, .ref (γ 9 31), .int p277176, .int p277177, .int p277178, .ref q277163]) := (hfr277258 q276875 hm277160 (nm_c (rn_oa he277222 he277220) nm_n)).trans he277222
          have hfr277262 : rFr [(γ 9 2)] P276873 F277217 F277256 := rFr_call (rSub_rf (P := P276873)) (rFr_rf (W := []) (P := P276873) (F := F277217)) hfr277258 (fun b hb hn => ⟨nm_n, (nm_c (fun e => hn (e ▸ List.mem_cons_self)) nm_n)⟩)
          change G _ _ _ _ _ _ _ _ _ _ _
          refine G_widen (cs' := 0) (sl' := 0) (by omega) (by omega) ?_
          have hT277263 : RS D I P276873 F277256 γ el := RS_fr hT277224 hfr277262 ht277183 (by decide) ⟨f277254, he277259, x277255⟩
          have hs277264 : rStr γ [] F276874 F277256 := rStr_fr hT277224 hs277225 hfr277262 ht277183 (by decide)
          have kp277265 : F277256 q276875 = F276874 q276875 := (hfr277262 q276875 (RS_m hT277224 htq276875 (by decide)) (nm_c (rn_ty htq276875 ht277183 (by decide)) nm_n)).trans kp277226
          have kp277266 : F277256 (γ 9 3) = F276874 (γ 9 3) := (hfr277262 (γ 9 3) (RS_m hT277224 ht277184 (by decide)) (nm_c (rn_ty ht277184 ht277183 (by decide)) nm_n)).trans kp277227
          exact G_vretA dr_cX17_back_79 rfl (Nat.le_of_ble_eq_true rfl) (Nat.le_of_ble_eq_true rfl) ⟨F277256, rfl, rfl, hT277263, hs277264, (Nat.le_of_ble_eq_true rfl), (Nat.le_of_ble_eq_true rfl), kp277265, kp277266⟩
      · have r277267 : o277235.toInt ≠ 0 := gj_neq hc277237 (show Int32.toInt 0 = 0 by decide)
        have bo277235' : gB o277235 1 1 := gB_t1 bo277235 r277267
        refine G_aload_n 1 dr_cX17_back_50 rfl ?_
        refine Gp_get 2 hm277160 he277222 dr_cX17_back_51 (gk_X17 D I) (Nat.le_of_ble_eq_true rfl) wr_7_76 rfl ?_
        refine G_aload_n 2 dr_cX17_back_54 rfl ?_
        refine Gp_get 2 hm276879 he277221 dr_cX17_back_55 (gk_X15 D I) (Nat.le_of_ble_eq_true rfl) wr_9_182 rfl ?_
        refine Gw_callS (As := [.ref (γ 9 2), .int p276883]) (gV_ok D I) (cp_1853_SpillForgeModel_set l hl0 D I P276873 F277217 (γ 9 2) p276883 f277215 hm277207 he277220 ⟨by omega, by omega⟩ x277216) dr_cX17_back_58 ⟨wr_10_185, wr_1_14, wr_10_187, by decide, rfl, (Nat.le_of_ble_eq_true rfl), (Nat.le_of_ble_eq_true rfl)⟩ wr_10_186 (show 0 + 0 ≤ 0 by first | omega | decide) (show 0 + 0 ≤ 0 by first | omega | decide) (Nat.le_of_ble_eq_true rfl) (fun r277271 w277272 dc277268 ds277269 hp277270 => ?_) (fun _ _ _ _ _ z => z.elim)
        obtain ⟨F277275, f277273, rfl, rfl, hfr277277, he277278, hdc, hds, x277274⟩ := hp277270
        have he277279 : F277275 q276876 = .inr (20, [.int p276881, .int p276882, .int p276883, .int p276884, .int p276885, .int p276886, .int p276887]) := (hfr277277 q276876 hm276879 (nm_c (rn_oa he277221 he277220) nm_n)).trans he277221
        have he277280 : F277275 q276875 = .inr (22, [.ref (γ 9 0), .ref (γ 9 1), .ref (γ 9 2), .ref (γ 9 3), .ref (γ 9 4), .ref (γ 9 5), .ref (γ 9 6), .ref (γ 9 7), .ref (γ 9 8), .int p277164, .int p277165, .int p277166, .int p277167, .int p277168, .int p277169, .ref (γ 9 15), .ref (γ 9 16), .ref (γ 9 17), .ref (γ 9 18), .ref (γ 9 19), .ref (γ 9 20), .ref (γ 9 21), .ref (γ 9 22), .int p277170, .int p277171, .int p277172, .int p277173, .int p277174, .ref q277162, .ref (γ 9 29), .int p277175, .ref (γ 9 31), .int p277176, .int p277177, .int p277178, .ref q277163]) := (hfr277277 q276875 hm277160 (nm_c (rn_oa he277222 he277220) nm_n)).trans he277222
        have hfr277281 : rFr [(γ 9 2)] P276873 F277217 F277275 := rFr_call (rSub_rf (P := P276873)) (rFr_rf (W := []) (P := P276873) (F := F277217)) hfr277277 (fun b hb hn => ⟨nm_n, (nm_c (fun e => hn (e ▸ List.mem_cons_self)) nm_n)⟩)
        change G _ _ _ _ _ _ _ _ _ _ _
        refine G_widen (cs' := 0) (sl' := 0) (by omega) (by omega) ?_
        have hT277282 : RS D I P276873 F277275 γ el := RS_fr hT277224 hfr277281 ht277183 (by decide) ⟨f277273, he277278, x277274⟩
        have hs277283 : rStr γ [] F276874 F277275 := rStr_fr hT277224 hs277225 hfr277281 ht277183 (by decide)
        have kp277284 : F277275 q276875 = F276874 q276875 := (hfr277281 q276875 (RS_m hT277224 htq276875 (by decide)) (nm_c (rn_ty htq276875 ht277183 (by decide)) nm_n)).trans kp277226
        have kp277285 : F277275 (γ 9 3) = F276874 (γ 9 3) := (hfr277281 (γ 9 3) (RS_m hT277224 ht277184 (by decide)) (nm_c (rn_ty ht277184 ht277183 (by decide)) nm_n)).trans kp277227
        refine G_aload_n 2 dr_cX17_back_61 rfl ?_
        refine Gw_callV (As := []) (gV_ok D I) (cp_1693_Row_usesB l hl0 D I P276873 F277275 q276876 p276881 p276882 p276883 p276884 p276885 p276886 p276887 hm276879 he277279 bp276881 bp276882 bp276885 bp276886 bp276887) dr_cX17_back_62 ⟨wr_10_192, wr_1_39, wr_10_195, by decide, rfl, (Nat.le_of_ble_eq_true rfl), (Nat.le_of_ble_eq_true rfl)⟩ wr_10_193 wr_10_194 hm276879 he277279 rfl (show 0 + 0 ≤ 0 by first | omega | decide) (show 0 + 0 ≤ 0 by first | omega | decide) (Nat.le_of_ble_eq_true rfl) (fun r277289 w277290 dc277286 ds277287 hp277288 => ?_) (fun _ _ _ _ _ z => z.elim)
        obtain ⟨o277291, rfl, rfl, hdc, hds, bo277291, x277292⟩ := hp277288
        change G _ _ _ _ _ _ _ (.int o277291 :: _) _ _ _
        refine G_widen (cs' := 0) (sl' := 0) (by omega) (by omega) ?_
        refine G_if_eq 79 dr_cX17_back_65 (by decide +kernel) (fun hc277293 => ?_) (fun hc277293 => ?_)
        · have r277294 : o277291.toInt = 0 := gj_eq hc277293 (show Int32.toInt 0 = 0 by decide)
          have bo277291' : gB o277291 0 0 := gB_t0 r277294
          exact G_vretA dr_cX17_back_79 rfl (Nat.le_of_ble_eq_true rfl) (Nat.le_of_ble_eq_true rfl) ⟨F277275, rfl, rfl, hT277282, hs277283, (Nat.le_of_ble_eq_true rfl), (Nat.le_of_ble_eq_true rfl), kp277284, kp277285⟩
        · have r277295 : o277291.toInt ≠ 0 := gj_neq hc277293 (show Int32.toInt 0 = 0 by decide)
          have bo277291' : gB o277291 1 1 := gB_t1 bo277291 r277295
          refine G_aload_n 1 dr_cX17_back_68 rfl ?_
          refine Gp_get 2 hm277160 he277280 dr_cX17_back_69 (gk_X17 D I) (Nat.le_of_ble_eq_true rfl) wr_7_76 rfl ?_
          refine G_aload_n 2 dr_cX17_back_72 rfl ?_
          refine Gp_get 3 hm276879 he277279 dr_cX17_back_73 (gk_X15 D I) (Nat.le_of_ble_eq_true rfl) wr_9_186 rfl ?_
          refine Gw_callS (As := [.ref (γ 9 2), .int p276884]) (gV_ok D I) (cp_1853_SpillForgeModel_set l hl0 D I P276873 F277275 (γ 9 2) p276884 f277273 hm277207 he277278 ⟨by omega, by omega⟩ x277274) dr_cX17_back_76 ⟨wr_10_185, wr_1_14, wr_10_187, by decide, rfl, (Nat.le_of_ble_eq_true rfl), (Nat.le_of_ble_eq_true rfl)⟩ wr_10_186 (show 0 + 0 ≤ 0 by first | omega | decide) (show 0 + 0 ≤ 0 by first | omega | decide) (Nat.le_of_ble_eq_true rfl) (fun r277299 w277300 dc277296 ds277297 hp277298 => ?_) (fun _ _ _ _ _ z => z.elim)
          obtain ⟨F277303, f277301, rfl, rfl, hfr277305, he277306, hdc, hds, x277302⟩ := hp277298
          have he277307 : F277303 q276876 = .inr (20, [.int p276881, .int p276882, .int p276883, .int p276884, .int p276885, .int p276886, .int p276887]) := (hfr277305 q276876 hm276879 (nm_c (rn_oa he277279 he277278) nm_n)).trans he277279
          have he277308 : F277303 q276875 = .inr (22, [.ref (γ 9 0), .ref (γ 9 1), .ref (γ 9 2), .ref (γ 9 3), .ref (γ 9 4), .ref (γ 9 5), .ref (γ 9 6), .ref (γ 9 7), .ref (γ 9 8), .int p277164, .int p277165, .int p277166, .int p277167, .int p277168, .int p277169, .ref (γ 9 15), .ref (γ 9 16), .ref (γ 9 17), .ref (γ 9 18), .ref (γ 9 19), .ref (γ 9 20), .ref (γ 9 21), .ref (γ 9 22), .int p277170, .int p277171, .int p277172, .int p277173, .int p277174, .ref q277162, .ref (γ 9 29), .int p277175, .ref (γ 9 31), .int p277176, .int p277177, .int p277178, .ref q277163]) := (hfr277305 q276875 hm277160 (nm_c (rn_oa he277280 he277278) nm_n)).trans he277280
          have hfr277309 : rFr [(γ 9 2)] P276873 F277275 F277303 := rFr_call (rSub_rf (P := P276873)) (rFr_rf (W := []) (P := P276873) (F := F277275)) hfr277305 (fun b hb hn => ⟨nm_n, (nm_c (fun e => hn (e ▸ List.mem_cons_self)) nm_n)⟩)
          change G _ _ _ _ _ _ _ _ _ _ _
          refine G_widen (cs' := 0) (sl' := 0) (by omega) (by omega) ?_
          have hT277310 : RS D I P276873 F277303 γ el := RS_fr hT277282 hfr277309 ht277183 (by decide) ⟨f277301, he277306, x277302⟩
          have hs277311 : rStr γ [] F276874 F277303 := rStr_fr hT277282 hs277283 hfr277309 ht277183 (by decide)
          have kp277312 : F277303 q276875 = F276874 q276875 := (hfr277309 q276875 (RS_m hT277282 htq276875 (by decide)) (nm_c (rn_ty htq276875 ht277183 (by decide)) nm_n)).trans kp277284
          have kp277313 : F277303 (γ 9 3) = F276874 (γ 9 3) := (hfr277309 (γ 9 3) (RS_m hT277282 ht277184 (by decide)) (nm_c (rn_ty ht277184 ht277183 (by decide)) nm_n)).trans kp277285
          exact G_vretA dr_cX17_back_79 rfl (Nat.le_of_ble_eq_true rfl) (Nat.le_of_ble_eq_true rfl) ⟨F277303, rfl, rfl, hT277310, hs277311, (Nat.le_of_ble_eq_true rfl), (Nat.le_of_ble_eq_true rfl), kp277312, kp277313⟩
    · have r277314 : p276877.toInt ≠ 0 := gj_neq hc277228 (show Int32.toInt 0 = 0 by decide)
      have bp276877' : gB p276877 1 1 := gB_t1 bp276877 r277314
      refine G_aload_n 2 dr_cX17_back_22 rfl ?_
      refine Gp_get 0 hm276879 he277221 dr_cX17_back_23 (gk_X15 D I) (Nat.le_of_ble_eq_true rfl) wr_9_173 rfl ?_
      refine G_bipush 21 dr_cX17_back_26 (by decide +kernel) ?_
      refine G_icmp_ne 42 dr_cX17_back_28 (by decide +kernel) (fun hc277315 => ?_) (fun hc277315 => ?_)
      · have r277316 : p276881.toInt ≠ 21 := gj_neq hc277315 (show Int32.toInt 21 = 21 by decide)
        exact G_vretA dr_cX17_back_42 rfl (Nat.le_of_ble_eq_true rfl) (Nat.le_of_ble_eq_true rfl) ⟨F277217, rfl, rfl, hT277224, hs277225, (Nat.le_of_ble_eq_true rfl), (Nat.le_of_ble_eq_true rfl), kp277226, kp277227⟩
      · have r277317 : p276881.toInt = 21 := gj_eq hc277315 (show Int32.toInt 21 = 21 by decide)
        have bp276881' : gB p276881 21 21 := ⟨by omega, by omega⟩
        refine G_aload_n 1 dr_cX17_back_31 rfl ?_
        refine Gp_get 2 hm277160 he277222 dr_cX17_back_32 (gk_X17 D I) (Nat.le_of_ble_eq_true rfl) wr_7_76 rfl ?_
        refine G_aload_n 2 dr_cX17_back_35 rfl ?_
        refine Gp_get 4 hm276879 he277221 dr_cX17_back_36 (gk_X15 D I) (Nat.le_of_ble_eq_true rfl) wr_9_189 rfl ?_
        refine Gw_callS (As := [.ref (γ 9 2), .int p276885]) (gV_ok D I) (cp_1853_SpillForgeModel_set l hl0 D I P276873 F277217 (γ 9 2) p276885 f277215 hm277207 he277220 bp276885 x277216) dr_cX17_back_39 ⟨wr_10_185, wr_1_14, wr_10_187, by decide, rfl, (Nat.le_of_ble_eq_true rfl), (Nat.le_of_ble_eq_true rfl)⟩ wr_10_186 (show 0 + 0 ≤ 0 by first | omega | decide) (show 0 + 0 ≤ 0 by first | omega | decide) (Nat.le_of_ble_eq_true rfl) (fun r277321 w277322 dc277318 ds277319 hp277320 => ?_) (fun _ _ _ _ _ z => z.elim)
        obtain ⟨F277325, f277323, rfl, rfl, hfr277327, he277328, hdc, hds, x277324⟩ := hp277320
        have he277329 : F277325 q276876 = .inr (20, [.int p276881, .int p276882, .int p276883, .int p276884, .int p276885, .int p276886, .int p276887]) := (hfr277327 q276876 hm276879 (nm_c (rn_oa he277221 he277220) nm_n)).trans he277221
        have he277330 : F277325 q276875 = .inr (22, [.ref (γ 9 0), .ref (γ 9 1), .ref (γ 9 2), .ref (γ 9 3), .ref (γ 9 4), .ref (γ 9 5), .ref (γ 9 6), .ref (γ 9 7), .ref (γ 9 8), .int p277164, .int p277165, .int p277166, .int p277167, .int p277168, .int p277169, .ref (γ 9 15), .ref (γ 9 16), .ref (γ 9 17), .ref (γ 9 18), .ref (γ 9 19), .ref (γ 9 20), .ref (γ 9 21), .ref (γ 9 22), .int p277170, .int p277171, .int p277172, .int p277173, .int p277174, .ref q277162, .ref (γ 9 29), .int p277175, .ref (γ 9 31), .int p277176, .int p277177, .int p277178, .ref q277163]) := (hfr277327 q276875 hm277160 (nm_c (rn_oa he277222 he277220) nm_n)).trans he277222
        have hfr277331 : rFr [(γ 9 2)] P276873 F277217 F277325 := rFr_call (rSub_rf (P := P276873)) (rFr_rf (W := []) (P := P276873) (F := F277217)) hfr277327 (fun b hb hn => ⟨nm_n, (nm_c (fun e => hn (e ▸ List.mem_cons_self)) nm_n)⟩)
        change G _ _ _ _ _ _ _ _ _ _ _
        refine G_widen (cs' := 0) (sl' := 0) (by omega) (by omega) ?_
        have hT277332 : RS D I P276873 F277325 γ el := RS_fr hT277224 hfr277331 ht277183 (by decide) ⟨f277323, he277328, x277324⟩
        have hs277333 : rStr γ [] F276874 F277325 := rStr_fr hT277224 hs277225 hfr277331 ht277183 (by decide)
        have kp277334 : F277325 q276875 = F276874 q276875 := (hfr277331 q276875 (RS_m hT277224 htq276875 (by decide)) (nm_c (rn_ty htq276875 ht277183 (by decide)) nm_n)).trans kp277226
        have kp277335 : F277325 (γ 9 3) = F276874 (γ 9 3) := (hfr277331 (γ 9 3) (RS_m hT277224 ht277184 (by decide)) (nm_c (rn_ty ht277184 ht277183 (by decide)) nm_n)).trans kp277227
        exact G_vretA dr_cX17_back_42 rfl (Nat.le_of_ble_eq_true rfl) (Nat.le_of_ble_eq_true rfl) ⟨F277325, rfl, rfl, hT277332, hs277333, (Nat.le_of_ble_eq_true rfl), (Nat.le_of_ble_eq_true rfl), kp277334, kp277335⟩
abbrev ky_270169_SpillForgeModel_graph : gKey := (cX17_graph, 11, "SpillForgeModel", none, [], "graph", fun _ _ => True)
def pt_270169_SpillForgeModel_graph (D : va_G) (I : FieldType → ClassId) (γ el : Nat → Nat → Nat) (P270163 : List Nat) (F270164 : Nat → va_E) (q270165 : Nat) (q270166 : Nat) (p270167 : Int32) : Option Value → va_W → Nat → Nat → Prop := fun r w dc ds => ∃ (F327361 : Nat → va_E), r = none ∧ w = va_pl P270163 F327361 ∧ RS D I P270163 F327361 γ el ∧ rStr γ [] F270164 F327361 ∧ dc ≤ 0 ∧ ds ≤ 0 ∧ (gIp (p270167.toInt = 0) (rGr γ el F270164 q270166 (γ 6 (γ 1 q270166)) (cB (F327361 (γ 9 3))) (vA (γ 6 (γ 1 q270166))))) ∧ (F327361 q270165 = F270164 q270165)
set_option maxRecDepth 100000 in
set_option maxHeartbeats 4000000 in
theorem ct_270169_SpillForgeModel_graph (l : Launch) (hl0 : l.stackTraces = false) (D : va_G) (I : FieldType → ClassId) (γ el : Nat → Nat → Nat) (P270163 : List Nat) (F270164 : Nat → va_E) (q270165 : Nat) (q270166 : Nat) (p270167 : Int32) (hT : RS D I P270163 F270164 γ el) (htq270165 : rKd γ q270165 10) (htq270166 : rKd γ q270166 9) (bp270167 : gB p270167 0 1) (x270168 : 0 < γ 6 (γ 1 q270166)) : CtA (gV D I) l yX17_graph cX17_graph 11 none 5 111 0 0 [.ref q270165, .ref q270166, .int p270167] (va_pl P270163 F270164) (pt_270169_SpillForgeModel_graph D I γ el P270163 F270164 q270165 q270166 p270167) gNA := by
  refine CtA_of hl0 (by decide) (Nat.le_of_ble_eq_true rfl) ?_
  have hm270170 : q270165 ∈ P270163 := RS_m hT htq270165 (by decide)
  refine rk10_e (show rk_10 γ (F270164 q270165) from RS_o hT htq270165) (fun q270172 q270173 p270174 p270175 p270176 p270177 p270178 p270179 p270180 p270181 p270182 p270183 p270184 p270185 p270186 p270187 p270188 he270171 hB270215 ht270189 ht270190 ht270191 ht270192 ht270193 ht270194 ht270195 ht270196 ht270197 ht270198 ht270199 ht270200 ht270201 ht270202 ht270203 ht270204 ht270205 ht270206 ht270207 ht270208 ht270209 ht270210 ht270211 ht270212 hB270216 => ?_)
  refine G_aload_n 0 dr_cX17_graph_0 rfl ?_
  refine G_aload_n 1 dr_cX17_graph_1 rfl ?_
  refine G_iload_n 2 dr_cX17_graph_2 rfl ?_
  refine Gw_callV (As := [.ref q270166, .int p270167]) (gV_ok D I) (ct_218861_SpillForgeModel_findLive l hl0 D I γ el P270163 F270164 q270165 q270166 p270167 hT htq270165 htq270166 bp270167 (by omega)) dr_cX17_graph_3 ⟨wr_10_152, wr_1_14, wr_10_155, by decide, rfl, (Nat.le_of_ble_eq_true rfl), (Nat.le_of_ble_eq_true rfl)⟩ wr_10_154 wr_p_94 hm270170 he270171 rfl (show 0 + 0 ≤ 0 by first | omega | decide) (show 0 + 0 ≤ 0 by first | omega | decide) (Nat.le_of_ble_eq_true rfl) (fun r270220 w270221 dc270217 ds270218 hp270219 => ?_) (fun _ _ _ _ _ z => z.elim)
  obtain ⟨F270223, rfl, rfl, hT270224, hs270225, hdc, hds, x270222⟩ := hp270219
  have hs270226 : rStr γ [] F270164 F270223 := rStr_tr (rStr_rf (γ := γ) (W := []) (F := F270164)) hs270225
  have kp270227 : F270223 q270165 = F270164 q270165 := x270222
  have he270228 : F270223 q270165 = .inr (22, [.ref (γ 9 0), .ref (γ 9 1), .ref (γ 9 2), .ref (γ 9 3), .ref (γ 9 4), .ref (γ 9 5), .ref (γ 9 6), .ref (γ 9 7), .ref (γ 9 8), .int p270174, .int p270175, .int p270176, .int p270177, .int p270178, .int p270179, .ref (γ 9 15), .ref (γ 9 16), .ref (γ 9 17), .ref (γ 9 18), .ref (γ 9 19), .ref (γ 9 20), .ref (γ 9 21), .ref (γ 9 22), .int p270180, .int p270181, .int p270182, .int p270183, .int p270184, .ref q270172, .ref (γ 9 29), .int p270185, .ref (γ 9 31), .int p270186, .int p270187, .int p270188, .ref q270173]) := (x270222).trans he270171
  change G _ _ _ _ _ _ _ _ _ _ _
  refine G_widen (cs' := 0) (sl' := 0) (by omega) (by omega) ?_
  refine G_iconst 0 dr_cX17_graph_6 (by decide +kernel) ?_
  refine G_istore_n (L' := [(3, .int 0), (0, .ref q270165), (1, .ref q270166), (2, .int p270167)]) dr_cX17_graph_7 (Nat.le_of_ble_eq_true rfl) rfl ?_
  have hlp8_319150 : ∀ (n8_319150 : Nat) (F319146 : Nat → va_E) (g319145 : Int32), gB g319145 0 2000 → RS D I P270163 F319146 γ el → rStr γ [] F270164 F319146 → (∀ n : Nat, (n : Int) < g319145.toInt → ¬ rSd (cB (F319146 (γ 9 3))) n) → (F319146 q270165 = F270164 q270165) → ((2001 : Int) - g319145.toInt).toNat < n8_319150 → G (gV D I) l (gRm 5 111 0 0) (gMA (gV D I) (pt_270169_SpillForgeModel_graph D I γ el P270163 F270164 q270165 q270166 p270167) gNA 0 0) ky_270169_SpillForgeModel_graph 8 [(3, .int g319145), (0, .ref q270165), (1, .ref q270166), (2, .int p270167)] [] (va_pl P270163 F319146) 0 0 := by
    intro n8_319150
    induction n8_319150 with
    | zero => intro F319146 g319145 bg319145 hT319147 hs319148 x319149 x319150 hm8_319150; exact absurd hm8_319150 (Nat.not_lt_zero _)
    | succ n8_319150 ih8_319150 =>
      intro F319146 g319145 bg319145 hT319147 hs319148 x319149 x319150 hm8_319150
      have hs319152 : rStr γ [] F270223 F319146 := fun b h0 hb hw => (hs319148 b h0 hb hw).trans (hs270226 b h0 hb hw).symm
      have hs319153 : rStr γ [] F270164 F319146 := rStr_tr hs270226 hs319152
      have he319154 : F319146 q270165 = .inr (22, [.ref (γ 9 0), .ref (γ 9 1), .ref (γ 9 2), .ref (γ 9 3), .ref (γ 9 4), .ref (γ 9 5), .ref (γ 9 6), .ref (γ 9 7), .ref (γ 9 8), .int p270174, .int p270175, .int p270176, .int p270177, .int p270178, .int p270179, .ref (γ 9 15), .ref (γ 9 16), .ref (γ 9 17), .ref (γ 9 18), .ref (γ 9 19), .ref (γ 9 20), .ref (γ 9 21), .ref (γ 9 22), .int p270180, .int p270181, .int p270182, .int p270183, .int p270184, .ref q270172, .ref (γ 9 29), .int p270185, .ref (γ 9 31), .int p270186, .int p270187, .int p270188, .ref q270173]) := x319150.trans he270171
      have hm319155 : q270165 ∈ P270163 := RS_m hT319147 htq270165 (by decide)
      refine G_iload_n 0 dr_cX17_graph_8 rfl ?_
      refine G_sipush 2000 dr_cX17_graph_9 (by decide +kernel) ?_
      refine G_icmp_ge 54 dr_cX17_graph_12 (by decide +kernel) (fun hc319156 => ?_) (fun hc319156 => ?_)
      · have r319157 : 2000 ≤ g319145.toInt := gj_leL hc319156 (show Int32.toInt 2000 = 2000 by decide)
        have bg319145' : gB g319145 2000 2000 := ⟨by omega, by omega⟩
        refine G_iconst 0 dr_cX17_graph_54 (by decide +kernel) ?_
        refine G_istore_n (L' := [(3, .int 0), (0, .ref q270165), (1, .ref q270166), (2, .int p270167)]) dr_cX17_graph_55 (Nat.le_of_ble_eq_true rfl) rfl ?_
        have hlp56_323221 : ∀ (n56_323221 : Nat) (F323217 : Nat → va_E) (g323216 : Int32), gB g323216 0 1000000 → RS D I P270163 F323217 γ el → rStr γ [] F270164 F323217 → (gIp (p270167.toInt = 0) (rGr γ el F270164 q270166 (γ 6 (γ 1 q270166)) (cB (F323217 (γ 9 3))) (vA (g323216.toInt : Int).toNat))) → (F323217 q270165 = F270164 q270165) → ((1000001 : Int) - g323216.toInt).toNat < n56_323221 → G (gV D I) l (gRm 5 111 0 0) (gMA (gV D I) (pt_270169_SpillForgeModel_graph D I γ el P270163 F270164 q270165 q270166 p270167) gNA 0 0) ky_270169_SpillForgeModel_graph 56 [(3, .int g323216), (0, .ref q270165), (1, .ref q270166), (2, .int p270167)] [] (va_pl P270163 F323217) 0 0 := by
          intro n56_323221
          induction n56_323221 with
          | zero => intro F323217 g323216 bg323216 hT323218 hs323219 x323220 x323221 hm56_323221; exact absurd hm56_323221 (Nat.not_lt_zero _)
          | succ n56_323221 ih56_323221 =>
            intro F323217 g323216 bg323216 hT323218 hs323219 x323220 x323221 hm56_323221
            have hs323223 : rStr γ [] F319146 F323217 := fun b h0 hb hw => (hs323219 b h0 hb hw).trans (hs319148 b h0 hb hw).symm
            have hs323224 : rStr γ [] F270164 F323217 := rStr_tr hs319148 hs323223
            have he323225 : F323217 q270165 = .inr (22, [.ref (γ 9 0), .ref (γ 9 1), .ref (γ 9 2), .ref (γ 9 3), .ref (γ 9 4), .ref (γ 9 5), .ref (γ 9 6), .ref (γ 9 7), .ref (γ 9 8), .int p270174, .int p270175, .int p270176, .int p270177, .int p270178, .int p270179, .ref (γ 9 15), .ref (γ 9 16), .ref (γ 9 17), .ref (γ 9 18), .ref (γ 9 19), .ref (γ 9 20), .ref (γ 9 21), .ref (γ 9 22), .int p270180, .int p270181, .int p270182, .int p270183, .int p270184, .ref q270172, .ref (γ 9 29), .int p270185, .ref (γ 9 31), .int p270186, .int p270187, .int p270188, .ref q270173]) := x323221.trans he270171
            have hm323226 : q270165 ∈ P270163 := RS_m hT323218 htq270165 (by decide)
            refine G_iload_n 0 dr_cX17_graph_56 rfl ?_
            refine G_aload_n 2 dr_cX17_graph_57 rfl ?_
            have hm323227 : q270166 ∈ P270163 := RS_m hT323218 htq270166 (by decide)
            obtain ⟨q323229, q323230, p323231, p323232, he323228, ht323248, ht323233, ht323234, ht323235, ht323236, r323237, r323238, r323239, r323240, r323241, r323242, r323243, r323244, r323245, r323246, r323247⟩ := show rk_9 γ el q270166 (F323217 q270166) from RS_o hT323218 htq270166
            have bp323231 : gB p323231 0 1000000 := ⟨by omega, by omega⟩
            have bp323232 : gB p323232 0 1000000 := ⟨by omega, by omega⟩
            refine Gw_callV (As := []) (gV_ok D I) (cp_12496_Code_size l hl0 D I P270163 F323217 q270166 q323229 q323230 p323231 p323232 hm323227 he323228) dr_cX17_graph_58 ⟨wr_10_156, wr_1_15, wr_9_127, by decide, rfl, (Nat.le_of_ble_eq_true rfl), (Nat.le_of_ble_eq_true rfl)⟩ wr_9_125 wr_9_126 hm323227 he323228 rfl (show 0 + 0 ≤ 0 by first | omega | decide) (show 0 + 0 ≤ 0 by first | omega | decide) (Nat.le_of_ble_eq_true rfl) (fun r323252 w323253 dc323249 ds323250 hp323251 => ?_) (fun _ _ _ _ _ z => z.elim)
            obtain ⟨rfl, rfl, hdc, hds⟩ := hp323251
            change G _ _ _ _ _ _ _ (.int p323232 :: _) _ _ _
            refine G_widen (cs' := 0) (sl' := 0) (by omega) (by omega) ?_
            refine G_icmp_ge 296 dr_cX17_graph_61 (by decide +kernel) (fun hc323254 => ?_) (fun hc323254 => ?_)
            · have r323255 : p323232.toInt ≤ g323216.toInt := gC_le hc323254
              refine G_iconst 0 dr_cX17_graph_296 (by decide +kernel) ?_
              refine G_istore_n (L' := [(3, .int 0), (0, .ref q270165), (1, .ref q270166), (2, .int p270167)]) dr_cX17_graph_297 (Nat.le_of_ble_eq_true rfl) rfl ?_
              have hlp298_323560 : ∀ (n298_323560 : Nat) (F323556 : Nat → va_E) (g323555 : Int32), gB g323555 0 2000 → RS D I P270163 F323556 γ el → rStr γ [] F270164 F323556 → (gIp (p270167.toInt = 0) (rGr γ el F270164 q270166 (γ 6 (γ 1 q270166)) (cB (F323556 (γ 9 3))) (vA (γ 6 (γ 1 q270166))))) → (F323556 q270165 = F270164 q270165) → ((2001 : Int) - g323555.toInt).toNat < n298_323560 → G (gV D I) l (gRm 5 111 0 0) (gMA (gV D I) (pt_270169_SpillForgeModel_graph D I γ el P270163 F270164 q270165 q270166 p270167) gNA 0 0) ky_270169_SpillForgeModel_graph 298 [(3, .int g323555), (0, .ref q270165), (1, .ref q270166), (2, .int p270167)] [] (va_pl P270163 F323556) 0 0 := by
                intro n298_323560
                induction n298_323560 with
                | zero => intro F323556 g323555 bg323555 hT323557 hs323558 x323559 x323560 hm298_323560; exact absurd hm298_323560 (Nat.not_lt_zero _)
                | succ n298_323560 ih298_323560 =>
                  intro F323556 g323555 bg323555 hT323557 hs323558 x323559 x323560 hm298_323560
                  have hs323562 : rStr γ [] F323217 F323556 := fun b h0 hb hw => (hs323558 b h0 hb hw).trans (hs323219 b h0 hb hw).symm
                  have he323563 : F323556 q270166 = .inr (18, [.ref q323229, .ref q323230, .int p323231, .int p323232]) := (hs323562 q270166 (rT0 htq270166 (by decide)) (rT1 htq270166 (by decide)) (rT2 htq270166 (by decide))).trans he323228
                  have hs323564 : rStr γ [] F270164 F323556 := rStr_tr hs323219 hs323562
                  have he323565 : F323556 q270165 = .inr (22, [.ref (γ 9 0), .ref (γ 9 1), .ref (γ 9 2), .ref (γ 9 3), .ref (γ 9 4), .ref (γ 9 5), .ref (γ 9 6), .ref (γ 9 7), .ref (γ 9 8), .int p270174, .int p270175, .int p270176, .int p270177, .int p270178, .int p270179, .ref (γ 9 15), .ref (γ 9 16), .ref (γ 9 17), .ref (γ 9 18), .ref (γ 9 19), .ref (γ 9 20), .ref (γ 9 21), .ref (γ 9 22), .int p270180, .int p270181, .int p270182, .int p270183, .int p270184, .ref q270172, .ref (γ 9 29), .int p270185, .ref (γ 9 31), .int p270186, .int p270187, .int p270188, .ref q270173]) := x323560.trans he270171
                  have hm323566 : q270165 ∈ P270163 := RS_m hT323557 htq270165 (by decide)
                  refine G_iload_n 0 dr_cX17_graph_298 rfl ?_
                  refine G_sipush 2000 dr_cX17_graph_299 (by decide +kernel) ?_
                  refine G_icmp_ge 389 dr_cX17_graph_302 (by decide +kernel) (fun hc323567 => ?_) (fun hc323567 => ?_)
                  · have r323568 : 2000 ≤ g323555.toInt := gj_leL hc323567 (show Int32.toInt 2000 = 2000 by decide)
                    have bg323555' : gB g323555 2000 2000 := ⟨by omega, by omega⟩
                    exact G_vretA dr_cX17_graph_389 rfl (Nat.le_of_ble_eq_true rfl) (Nat.le_of_ble_eq_true rfl) ⟨F323556, rfl, rfl, hT323557, hs323558, (Nat.le_of_ble_eq_true rfl), (Nat.le_of_ble_eq_true rfl), x323559, x323560⟩
                  · have r323569 : g323555.toInt < 2000 := gj_nleL hc323567 (show Int32.toInt 2000 = 2000 by decide)
                    have bg323555' : gB g323555 0 1999 := ⟨by omega, by omega⟩
                    refine G_aload_n 1 dr_cX17_graph_305 rfl ?_
                    refine Gp_get 3 hm323566 he323565 dr_cX17_graph_306 (gk_X17 D I) (Nat.le_of_ble_eq_true rfl) wr_7_77 rfl ?_
                    refine G_iload_n 0 dr_cX17_graph_309 rfl ?_
                    have hm323570 : (γ 9 3) ∈ P270163 := RS_m hT323557 ht270194 (by decide)
                    obtain ⟨f323572, he323571, bf323572⟩ := show rk_14 I (F323556 (γ 9 3)) from RS_o hT323557 ht270194
                    refine Gp_zald 3 hm323570 he323571 dr_cX17_graph_310 rfl (gB_in bg323555' (by decide) (by decide)) (G_nam fun z323573 hz323573 => ?_)
                    have bz323573 : gB z323573 0 1 := by rw [hz323573]; exact bf323572 _
                    refine G_if_ne 317 dr_cX17_graph_311 (by decide +kernel) (fun hc323574 => ?_) (fun hc323574 => ?_)
                    · have r323575 : z323573.toInt ≠ 0 := gj_neq hc323574 (show Int32.toInt 0 = 0 by decide)
                      have bz323573' : gB z323573 1 1 := gB_t1 bz323573 r323575
                      refine G_iconst 0 dr_cX17_graph_317 (by decide +kernel) ?_
                      refine G_istore (L' := [(4, .int 0), (3, .int g323555), (0, .ref q270165), (1, .ref q270166), (2, .int p270167)]) dr_cX17_graph_318 (Nat.le_of_ble_eq_true rfl) rfl ?_
                      have hlp320_323719 : ∀ (n320_323719 : Nat) (F323715 : Nat → va_E) (g323714 : Int32), gB g323714 0 32 → RS D I P270163 F323715 γ el → rStr γ [] F270164 F323715 → (gIp (p270167.toInt = 0) (rGr γ el F270164 q270166 (γ 6 (γ 1 q270166)) (cB (F323715 (γ 9 3))) (vA (γ 6 (γ 1 q270166))))) → (F323715 q270165 = F270164 q270165) → ((33 : Int) - g323714.toInt).toNat < n320_323719 → G (gV D I) l (gRm 5 111 0 0) (gMA (gV D I) (pt_270169_SpillForgeModel_graph D I γ el P270163 F270164 q270165 q270166 p270167) gNA 0 0) ky_270169_SpillForgeModel_graph 320 [(4, .int g323714), (3, .int g323555), (0, .ref q270165), (1, .ref q270166), (2, .int p270167)] [] (va_pl P270163 F323715) 0 0 := by
                        intro n320_323719
                        induction n320_323719 with
                        | zero => intro F323715 g323714 bg323714 hT323716 hs323717 x323718 x323719 hm320_323719; exact absurd hm320_323719 (Nat.not_lt_zero _)
                        | succ n320_323719 ih320_323719 =>
                          intro F323715 g323714 bg323714 hT323716 hs323717 x323718 x323719 hm320_323719
                          have hs323721 : rStr γ [] F323556 F323715 := fun b h0 hb hw => (hs323717 b h0 hb hw).trans (hs323558 b h0 hb hw).symm
                          have he323722 : F323715 q270166 = .inr (18, [.ref q323229, .ref q323230, .int p323231, .int p323232]) := (hs323721 q270166 (rT0 htq270166 (by decide)) (rT1 htq270166 (by decide)) (rT2 htq270166 (by decide))).trans he323563
                          have hs323723 : rStr γ [] F270164 F323715 := rStr_tr hs323558 hs323721
                          have he323724 : F323715 q270165 = .inr (22, [.ref (γ 9 0), .ref (γ 9 1), .ref (γ 9 2), .ref (γ 9 3), .ref (γ 9 4), .ref (γ 9 5), .ref (γ 9 6), .ref (γ 9 7), .ref (γ 9 8), .int p270174, .int p270175, .int p270176, .int p270177, .int p270178, .int p270179, .ref (γ 9 15), .ref (γ 9 16), .ref (γ 9 17), .ref (γ 9 18), .ref (γ 9 19), .ref (γ 9 20), .ref (γ 9 21), .ref (γ 9 22), .int p270180, .int p270181, .int p270182, .int p270183, .int p270184, .ref q270172, .ref (γ 9 29), .int p270185, .ref (γ 9 31), .int p270186, .int p270187, .int p270188, .ref q270173]) := x323719.trans he270171
                          have hm323725 : q270165 ∈ P270163 := RS_m hT323716 htq270165 (by decide)
                          refine G_iload 0 dr_cX17_graph_320 rfl ?_
                          refine G_bipush 32 dr_cX17_graph_322 (by decide +kernel) ?_
                          refine G_icmp_ge 383 dr_cX17_graph_324 (by decide +kernel) (fun hc323726 => ?_) (fun hc323726 => ?_)
                          · have r323727 : 32 ≤ g323714.toInt := gj_leL hc323726 (show Int32.toInt 32 = 32 by decide)
                            have bg323714' : gB g323714 32 32 := ⟨by omega, by omega⟩
                            obtain ⟨z323728, hz323728⟩ : ∃ z : Int32, z = g323555 + Int32.ofInt 1 := ⟨_, rfl⟩
                            have ez323728 : z323728.toInt = g323555.toInt + 1 := gI_inc hz323728 (by decide) bg323555' (by decide) (by decide)
                            have bz323728 : gB z323728 1 2000 := ⟨by omega, by omega⟩
                            refine G_iinc (L' := [(3, .int z323728), (4, .int g323714), (0, .ref q270165), (1, .ref q270166), (2, .int p270167)]) z323728 1 dr_cX17_graph_383 rfl hz323728.symm (Nat.le_of_ble_eq_true rfl) rfl ?_
                            refine G_goto 298 dr_cX17_graph_386 (by decide +kernel) ?_
                            refine G_lv (L' := [(3, .int z323728), (0, .ref q270165), (1, .ref q270166), (2, .int p270167)]) [0, 2, 3, 4] rfl ?_
                            exact ih298_323560 F323715 z323728 (gB_w bz323728 (by decide) (by decide)) hT323716 hs323717 x323718 x323719 (mz_up ez323728 (Int.le_trans bg323555'.2 (by decide)) hm298_323560)
                          · have r323729 : g323714.toInt < 32 := gj_nleL hc323726 (show Int32.toInt 32 = 32 by decide)
                            have bg323714' : gB g323714 0 31 := ⟨by omega, by omega⟩
                            refine G_aload_n 2 dr_cX17_graph_327 rfl ?_
                            refine Gp_get 1 hm323725 he323724 dr_cX17_graph_328 (gk_X17 D I) (Nat.le_of_ble_eq_true rfl) wr_7_75 rfl ?_
                            refine G_iload_n 1 dr_cX17_graph_331 rfl ?_
                            have hm323730 : (γ 9 1) ∈ P270163 := RS_m hT323716 ht270192 (by decide)
                            obtain ⟨f323732, he323731, hg323733⟩ := show rk_13 I γ (F323715 (γ 9 1)) from RS_o hT323716 ht270192
                            obtain ⟨q323734, hx323736⟩ : ∃ x, x = γ 11 g323555.toInt.toNat := ⟨_, rfl⟩
                            have ht323735 : rKd γ q323734 36 := by rw [hx323736]; exact (hg323733 _ (show g323555.toInt.toNat < 2000 by omega)).2.1
                            refine Gp_aald 5 hm323730 he323731 dr_cX17_graph_332 rfl rfl (gB_in bg323555' (by decide) (by decide)) ?_
                            rw [show f323732 g323555.toNatClampNeg = some q323734 from (hg323733 _ (show g323555.toInt.toNat < 2000 by omega)).1.trans (by rw [hx323736])]
                            change G _ _ _ _ _ _ _ (.ref q323734 :: _) _ _ _
                            refine G_iload 0 dr_cX17_graph_333 rfl ?_
                            have hm323737 : q323734 ∈ P270163 := RS_m hT323716 ht323735 (by decide)
                            obtain ⟨f323739, he323738, wf323739⟩ := show rk_36 I (F323715 q323734) from RS_o hT323716 ht323735
                            refine Gp_lald 2 hm323737 he323738 dr_cX17_graph_335 rfl (gB_in bg323714' (by decide) (by decide)) (G_namL fun u323740 hu323740 => ?_)
                            have qu323740 : lb_Q u323740 (2000 - 64 * g323714.toInt) := lb_Wld hu323740 wf323739 (by omega) (by omega) (lb_Mod0 (by omega) (by omega))
                            refine G_lstore (L' := [(5, .long u323740), (4, .int g323714), (3, .int g323555), (0, .ref q270165), (1, .ref q270166), (2, .int p270167)]) dr_cX17_graph_336 (Nat.le_of_ble_eq_true rfl) rfl ?_
                            have hlp338_323802 : ∀ (n338_323802 : Nat) (F323797 : Nat → va_E) (gl323796 : Int64), RS D I P270163 F323797 γ el → rStr γ [] F270164 F323797 → (lb_Q gl323796 (2000 - 64 * g323714.toInt)) → (gIp (p270167.toInt = 0) (rGr γ el F270164 q270166 (γ 6 (γ 1 q270166)) (cB (F323797 (γ 9 3))) (vA (γ 6 (γ 1 q270166))))) → (F323797 q270165 = F270164 q270165) → (rpop gl323796) < n338_323802 → G (gV D I) l (gRm 5 111 0 0) (gMA (gV D I) (pt_270169_SpillForgeModel_graph D I γ el P270163 F270164 q270165 q270166 p270167) gNA 0 0) ky_270169_SpillForgeModel_graph 338 [(5, .long gl323796), (4, .int g323714), (3, .int g323555), (0, .ref q270165), (1, .ref q270166), (2, .int p270167)] [] (va_pl P270163 F323797) 0 0 := by
                              intro n338_323802
                              induction n338_323802 with
                              | zero => intro F323797 gl323796 hT323798 hs323799 x323800 x323801 x323802 hm338_323802; exact absurd hm338_323802 (Nat.not_lt_zero _)
                              | succ n338_323802 ih338_323802 =>
                                intro F323797 gl323796 hT323798 hs323799 x323800 x323801 x323802 hm338_323802
                                have hs323804 : rStr γ [] F323715 F323797 := fun b h0 hb hw => (hs323799 b h0 hb hw).trans (hs323717 b h0 hb hw).symm
                                have he323805 : F323797 q270166 = .inr (18, [.ref q323229, .ref q323230, .int p323231, .int p323232]) := (hs323804 q270166 (rT0 htq270166 (by decide)) (rT1 htq270166 (by decide)) (rT2 htq270166 (by decide))).trans he323722
                                have hs323806 : rStr γ [] F270164 F323797 := rStr_tr hs323717 hs323804
                                have he323807 : F323797 q270165 = .inr (22, [.ref (γ 9 0), .ref (γ 9 1), .ref (γ 9 2), .ref (γ 9 3), .ref (γ 9 4), .ref (γ 9 5), .ref (γ 9 6), .ref (γ 9 7), .ref (γ 9 8), .int p270174, .int p270175, .int p270176, .int p270177, .int p270178, .int p270179, .ref (γ 9 15), .ref (γ 9 16), .ref (γ 9 17), .ref (γ 9 18), .ref (γ 9 19), .ref (γ 9 20), .ref (γ 9 21), .ref (γ 9 22), .int p270180, .int p270181, .int p270182, .int p270183, .int p270184, .ref q270172, .ref (γ 9 29), .int p270185, .ref (γ 9 31), .int p270186, .int p270187, .int p270188, .ref q270173]) := x323802.trans he270171
                                have hm323808 : q270165 ∈ P270163 := RS_m hT323798 htq270165 (by decide)
                                refine G_lload 0 dr_cX17_graph_338 rfl ?_
                                refine G_lconst 0 dr_cX17_graph_340 rfl ?_
                                refine G_lcmp dr_cX17_graph_341 (G_nam fun z323809 hz323809 => ?_)
                                have bz323809 : gB z323809 (-1) 1 := gB_cmp hz323809
                                refine G_if_eq 377 dr_cX17_graph_342 (by decide +kernel) (fun hc323810 => ?_) (fun hc323810 => ?_)
                                · have r323811 : z323809.toInt = 0 := gj_eq hc323810 (show Int32.toInt 0 = 0 by decide)
                                  have bz323809' : gB z323809 0 0 := ⟨by omega, by omega⟩
                                  have lhc323810 := gC_cmpE hz323809 hc323810
                                  obtain ⟨z323812, hz323812⟩ : ∃ z : Int32, z = g323714 + Int32.ofInt 1 := ⟨_, rfl⟩
                                  have ez323812 : z323812.toInt = g323714.toInt + 1 := gI_inc hz323812 (by decide) bg323714' (by decide) (by decide)
                                  have bz323812 : gB z323812 1 32 := ⟨by omega, by omega⟩
                                  refine G_iinc (L' := [(4, .int z323812), (5, .long gl323796), (3, .int g323555), (0, .ref q270165), (1, .ref q270166), (2, .int p270167)]) z323812 1 dr_cX17_graph_377 rfl hz323812.symm (Nat.le_of_ble_eq_true rfl) rfl ?_
                                  refine G_goto 320 dr_cX17_graph_380 (by decide +kernel) ?_
                                  refine G_lv (L' := [(4, .int z323812), (3, .int g323555), (0, .ref q270165), (1, .ref q270166), (2, .int p270167)]) [0, 2, 3, 4, 5] rfl ?_
                                  exact ih320_323719 F323797 z323812 (gB_w bz323812 (by decide) (by decide)) hT323798 hs323799 x323801 x323802 (mz_up ez323812 (Int.le_trans bg323714'.2 (by decide)) hm320_323719)
                                · have r323813 : z323809.toInt ≠ 0 := gj_neq hc323810 (show Int32.toInt 0 = 0 by decide)
                                  have lhc323810 := gC_cmpN hz323809 hc323810
                                  refine G_aload_n 3 dr_cX17_graph_345 rfl ?_
                                  refine Gp_get 1 hm323808 he323807 dr_cX17_graph_346 (gk_X17 D I) (Nat.le_of_ble_eq_true rfl) wr_7_75 rfl ?_
                                  refine G_bipush 64 dr_cX17_graph_349 (by decide +kernel) ?_
                                  refine G_iload 1 dr_cX17_graph_351 rfl ?_
                                  refine G_imul dr_cX17_graph_353 (G_nam fun z323814 hz323814 => ?_)
                                  have ez323814 : z323814.toInt = 64 * g323714.toInt := by rw [gI_mul hz323814 (gBl (show Int32.toInt 64 = 64 by decide)) bg323714' (by decide) (by decide) (by decide), show Int32.toInt 64 = 64 from by decide]
                                  have bz323814 : gB z323814 0 1984 := gB_mul hz323814 (gBl (show Int32.toInt 64 = 64 by decide)) bg323714' (by decide) (by decide) (by decide) (by decide)
                                  refine G_lload 0 dr_cX17_graph_354 rfl ?_
                                  refine Gw_callS (As := [.long gl323796]) (gV_ok D I) (nzc_Long_numberOfTrailingZeros l hl0 D I P270163 F323797 gl323796) dr_cX17_graph_356 ⟨wr_10_237, wr_1_31, wr_10_239, by decide, rfl, (Nat.le_of_ble_eq_true rfl), (Nat.le_of_ble_eq_true rfl)⟩ wr_10_238 (show 0 + 0 ≤ 0 by first | omega | decide) (show 0 + 0 ≤ 0 by first | omega | decide) (Nat.le_of_ble_eq_true rfl) (fun r323818 w323819 dc323815 ds323816 hp323817 => ?_) (fun _ _ _ _ _ z => z.elim)
                                  obtain ⟨o323822, rfl, rfl, hdc, hds, hO323820⟩ := hp323817
                                  have hO323820 := hO323820 lhc323810
                                  have bo323822 : gB o323822 0 63 := ⟨hO323820.1, hO323820.2.1⟩
                                  have r323821 : o323822.toInt < 2000 - 64 * g323714.toInt := lb_Qlt x323800 hO323820.1 hO323820.2.2
                                  change G _ _ _ _ _ _ _ (.int o323822 :: _) _ _ _
                                  refine G_widen (cs' := 0) (sl' := 0) (by omega) (by omega) ?_
                                  refine G_iadd dr_cX17_graph_359 (G_nam fun z323823 hz323823 => ?_)
                                  have ez323823 : z323823.toInt = z323814.toInt + o323822.toInt := by rw [gI_add hz323823 bz323814 bo323822 (by decide) (by decide)]
                                  have bz323823 : gB z323823 0 2047 := gB_add (gI_add hz323823 bz323814 bo323822 (by decide) (by decide)) bz323814 bo323822 (by decide) (by decide)
                                  have hm323824 : (γ 9 1) ∈ P270163 := RS_m hT323798 ht270192 (by decide)
                                  obtain ⟨f323826, he323825, hg323827⟩ := show rk_13 I γ (F323797 (γ 9 1)) from RS_o hT323798 ht270192
                                  obtain ⟨q323828, hx323830⟩ : ∃ x, x = γ 11 z323823.toInt.toNat := ⟨_, rfl⟩
                                  have ht323829 : rKd γ q323828 36 := by rw [hx323830]; exact (hg323827 _ (show z323823.toInt.toNat < 2000 by omega)).2.1
                                  refine Gp_aald 5 hm323824 he323825 dr_cX17_graph_360 rfl rfl (gB_inr (by omega) (by omega)) ?_
                                  rw [show f323826 z323823.toNatClampNeg = some q323828 from (hg323827 _ (show z323823.toInt.toNat < 2000 by omega)).1.trans (by rw [hx323830])]
                                  change G _ _ _ _ _ _ _ (.ref q323828 :: _) _ _ _
                                  refine G_iload_n 2 dr_cX17_graph_361 rfl ?_
                                  have hm323831 : q323828 ∈ P270163 := RS_m hT323798 ht323829 (by decide)
                                  obtain ⟨f323833, he323832, wf323833⟩ := show rk_36 I (F323797 q323828) from RS_o hT323798 ht323829
                                  refine Gw_callS (As := [.ref q323828, .int g323555]) (gV_ok D I) (cp_1853_SpillForgeModel_set l hl0 D I P270163 F323797 q323828 g323555 f323833 hm323831 he323832 bg323555' wf323833) dr_cX17_graph_362 ⟨wr_10_185, wr_1_14, wr_10_187, by decide, rfl, (Nat.le_of_ble_eq_true rfl), (Nat.le_of_ble_eq_true rfl)⟩ wr_10_186 (show 0 + 0 ≤ 0 by first | omega | decide) (show 0 + 0 ≤ 0 by first | omega | decide) (Nat.le_of_ble_eq_true rfl) (fun r323837 w323838 dc323834 ds323835 hp323836 => ?_) (fun _ _ _ _ _ z => z.elim)
                                  obtain ⟨F323841, f323839, rfl, rfl, hfr323843, he323844, hdc, hds, x323840⟩ := hp323836
                                  have he323845 : F323841 q270166 = .inr (18, [.ref q323229, .ref q323230, .int p323231, .int p323232]) := (hfr323843 q270166 hm323227 (nm_c (rn_oa he323805 he323832) nm_n)).trans he323805
                                  have he323846 : F323841 q270165 = .inr (22, [.ref (γ 9 0), .ref (γ 9 1), .ref (γ 9 2), .ref (γ 9 3), .ref (γ 9 4), .ref (γ 9 5), .ref (γ 9 6), .ref (γ 9 7), .ref (γ 9 8), .int p270174, .int p270175, .int p270176, .int p270177, .int p270178, .int p270179, .ref (γ 9 15), .ref (γ 9 16), .ref (γ 9 17), .ref (γ 9 18), .ref (γ 9 19), .ref (γ 9 20), .ref (γ 9 21), .ref (γ 9 22), .int p270180, .int p270181, .int p270182, .int p270183, .int p270184, .ref q270172, .ref (γ 9 29), .int p270185, .ref (γ 9 31), .int p270186, .int p270187, .int p270188, .ref q270173]) := (hfr323843 q270165 hm323808 (nm_c (rn_oa he323807 he323832) nm_n)).trans he323807
                                  have he323847 : F323841 (γ 9 1) = .inl (I (.array .long), 2000, .inr (.inr (.inr (.inr f323826)))) := (hfr323843 (γ 9 1) hm323824 (nm_c (rn_ref_long he323825 he323832) nm_n)).trans he323825
                                  have hfr323848 : rFr [q323828] P270163 F323797 F323841 := rFr_call (rSub_rf (P := P270163)) (rFr_rf (W := []) (P := P270163) (F := F323797)) hfr323843 (fun b hb hn => ⟨nm_n, (nm_c (fun e => hn (e ▸ List.mem_cons_self)) nm_n)⟩)
                                  change G _ _ _ _ _ _ _ _ _ _ _
                                  refine G_widen (cs' := 0) (sl' := 0) (by omega) (by omega) ?_
                                  have hT323849 : RS D I P270163 F323841 γ el := RS_fr hT323798 hfr323848 ht323829 (by decide) ⟨f323839, he323844, x323840⟩
                                  have hs323850 : rStr γ [] F270164 F323841 := rStr_fr hT323798 hs323799 hfr323848 ht323829 (by decide)
                                  have kp323851 : F323841 q270165 = F270164 q270165 := (hfr323848 q270165 (RS_m hT323798 htq270165 (by decide)) (nm_c (rn_ty htq270165 ht323829 (by decide)) nm_n)).trans x323802
                                  have kp323852 : F323841 (γ 9 3) = F323797 (γ 9 3) := hfr323848 (γ 9 3) (RS_m hT323798 ht270194 (by decide)) (nm_c (rn_ty ht270194 ht323829 (by decide)) nm_n)
                                  refine G_lload 0 dr_cX17_graph_365 rfl ?_
                                  refine G_lload 0 dr_cX17_graph_367 rfl ?_
                                  refine G_lconst 1 dr_cX17_graph_369 rfl ?_
                                  refine G_lsub dr_cX17_graph_370 (G_namL fun u323853 hu323853 => ?_)
                                  refine G_land dr_cX17_graph_371 (G_namL fun u323854 hu323854 => ?_)
                                  refine G_lstore (L' := [(5, .long u323854), (4, .int g323714), (3, .int g323555), (0, .ref q270165), (1, .ref q270166), (2, .int p270167)]) dr_cX17_graph_372 (Nat.le_of_ble_eq_true rfl) rfl ?_
                                  refine G_goto 338 dr_cX17_graph_374 (by decide +kernel) ?_
                                  exact ih338_323802 F323841 u323854 hT323849 hs323850 (lb_QandL hu323854 x323800) (by rw [kp323852]; exact x323801) kp323851 (by have q := rpop_low lhc323810 hu323853 hu323854; omega)
                            exact hlp338_323802 ((rpop u323740) + 1) F323715 u323740 hT323716 hs323717 qu323740 x323718 x323719 (Nat.lt_succ_self _)
                      exact hlp320_323719 (((33 : Int) - 0).toNat + 1) F323556 0 (gB_w (gBl (show Int32.toInt 0 = 0 by decide)) (by decide) (by decide)) hT323557 hs323558 x323559 x323560 (Nat.lt_succ_self _)
                    · have r323855 : z323573.toInt = 0 := gj_eq hc323574 (show Int32.toInt 0 = 0 by decide)
                      have bz323573' : gB z323573 0 0 := gB_t0 r323855
                      refine G_goto 383 dr_cX17_graph_314 (by decide +kernel) ?_
                      obtain ⟨z323856, hz323856⟩ : ∃ z : Int32, z = g323555 + Int32.ofInt 1 := ⟨_, rfl⟩
                      have ez323856 : z323856.toInt = g323555.toInt + 1 := gI_inc hz323856 (by decide) bg323555' (by decide) (by decide)
                      have bz323856 : gB z323856 1 2000 := ⟨by omega, by omega⟩
                      refine G_iinc (L' := [(3, .int z323856), (0, .ref q270165), (1, .ref q270166), (2, .int p270167)]) z323856 0 dr_cX17_graph_383 rfl hz323856.symm (Nat.le_of_ble_eq_true rfl) rfl ?_
                      refine G_goto 298 dr_cX17_graph_386 (by decide +kernel) ?_
                      exact ih298_323560 F323556 z323856 (gB_w bz323856 (by decide) (by decide)) hT323557 hs323558 x323559 x323560 (mz_up ez323856 (Int.le_trans bg323555'.2 (by decide)) hm298_323560)
              exact hlp298_323560 (((2001 : Int) - 0).toNat + 1) F323217 0 (gB_w (gBl (show Int32.toInt 0 = 0 by decide)) (by decide) (by decide)) hT323218 hs323219 (fun h0 => by have z := x323220 h0; exact gq_al z (by omega)) x323221 (Nat.lt_succ_self _)
            · have r323857 : g323216.toInt < p323232.toInt := gC_nle hc323254
              have bg323216' : gB g323216 0 999999 := ⟨by omega, by omega⟩
              have bp323232' : gB p323232 1 1000000 := ⟨by omega, by omega⟩
              refine G_aload_n 2 dr_cX17_graph_64 rfl ?_
              refine G_iload_n 0 dr_cX17_graph_65 rfl ?_
              have hm323858 : q323229 ∈ P270163 := RS_m hT323218 ht323233 (by decide)
              obtain ⟨⟨p323860, p323861, q323862, he323859, r323863, r323864, r323865, r323867⟩, r323866⟩ := show rk_4 D I γ el F323217 q323229 from RS_o hT323218 ht323233
              have bp323860 := gB_any p323860
              have bp323861 : gB p323861 0 1000000 := ⟨by omega, by omega⟩
              obtain ⟨r323868, r323869, n323876, f323877, r323870, r323871, r323872, r323873, r323874, r323875⟩ := rLC_n r323865 (by omega)
              have hm323878 : q323862 ∈ P270163 := RS_m hT323218 r323868 (by decide)
              obtain ⟨q323879, hx323880⟩ : ∃ x, x = el q323229 g323216.toInt.toNat := ⟨_, rfl⟩
              have hx323881 : f323877 g323216.toNatClampNeg = some q323879 := (r323874 _ (show g323216.toInt.toNat < γ 2 q323229 by omega)).trans (by rw [hx323880])
              have ht323884 : rKd γ q323879 2 := by rw [hx323880]; exact (r323244 _ (by omega)).resolve_right (fun z => absurd z.1 (by omega))
              have ht323885 : rFm γ q323879 q323229 := by rw [hx323880]; exact (r323866 _ (show g323216.toInt.toNat < γ 2 q323229 by omega)).2.1
              have hm323886 : q323879 ∈ P270163 := RS_m hT323218 ht323884 (by decide)
              obtain ⟨q323888, q323889, p323890, p323891, he323887, ht323898, ht323892, ht323893, ht323894, ht323895, ht323896, bp323890, bp323891, r323897, r323899, r323900⟩ := show rk_2 γ q323879 (F323217 q323879) from RS_o hT323218 ht323884
              refine Gw_callV (As := [.int g323216]) (gV_ok D I) (cp_7737_Code_get l hl0 D I P270163 F323217 q270166 q323229 q323862 g323216 q323230 p323231 p323232 p323860 p323861 f323877 n323876 q323879 q323888 q323889 p323890 p323891 hm323227 hm323858 hm323878 hm323886 he323228 he323859 r323870 he323887 (gB_w bg323216' (by decide) (by decide)) (gB_w bp323861 (by decide) (by decide)) (by omega) (by omega) (by assumption) (by omega)) dr_cX17_graph_66 ⟨wr_10_157, wr_1_15, wr_10_137, by decide, rfl, (Nat.le_of_ble_eq_true rfl), (Nat.le_of_ble_eq_true rfl)⟩ wr_10_135 wr_10_136 hm323227 he323228 rfl (show 0 + 0 ≤ 0 by first | omega | decide) (show 0 + 0 ≤ 0 by first | omega | decide) (Nat.le_of_ble_eq_true rfl) (fun r323904 w323905 dc323901 ds323902 hp323903 => ?_) (fun _ _ _ _ _ z => z.elim)
              obtain ⟨rfl, rfl, hdc, hds⟩ := hp323903
              change G _ _ _ _ _ _ _ (.ref q323879 :: _) _ _ _
              refine G_widen (cs' := 0) (sl' := 0) (by omega) (by omega) ?_
              have hb323906 : el (γ 14 q270166) (g323216.toInt : Int).toNat = q323879 := by rw [ht323248.1, hx323880]
              refine G_astore (L' := [(4, .ref q323879), (3, .int g323216), (0, .ref q270165), (1, .ref q270166), (2, .int p270167)]) dr_cX17_graph_69 (Nat.le_of_ble_eq_true rfl) rfl ?_
              refine G_aload_n 2 dr_cX17_graph_71 rfl ?_
              refine G_aload 0 dr_cX17_graph_72 rfl ?_
              refine Gw_callV (As := [.ref q323879]) (gV_ok D I) (ct_273905_SpillForgeModel_behind l hl0 D I γ el P270163 F323217 q270165 q323879 hT323218 htq270165 ht323884) dr_cX17_graph_74 ⟨wr_10_158, wr_1_14, wr_10_161, by decide, rfl, (Nat.le_of_ble_eq_true rfl), (Nat.le_of_ble_eq_true rfl)⟩ wr_10_160 wr_p_95 hm323226 he323225 rfl (show 0 + 0 ≤ 0 by first | omega | decide) (show 0 + 0 ≤ 0 by first | omega | decide) (Nat.le_of_ble_eq_true rfl) (fun r323910 w323911 dc323907 ds323908 hp323909 => ?_) (fun _ _ _ _ _ z => z.elim)
              obtain ⟨F323914, rfl, rfl, hT323915, hs323916, hdc, hds, x323912, x323913⟩ := hp323909
              have he323917 : F323914 q270166 = .inr (18, [.ref q323229, .ref q323230, .int p323231, .int p323232]) := (hs323916 q270166 (rT0 htq270166 (by decide)) (rT1 htq270166 (by decide)) (rT2 htq270166 (by decide))).trans he323228
              have he323918 : F323914 q323229 = .inr (4, [.int p323860, .ref q323862, .int p323861]) := (hs323916 q323229 (rT0 ht323233 (by decide)) (rT1 ht323233 (by decide)) (rT2 ht323233 (by decide))).trans he323859
              have he323919 : F323914 q323862 = .inl (I (.object "java/lang/Object"), n323876, .inr (.inr (.inr (.inr f323877)))) := (hs323916 q323862 (rT0 r323868 (by decide)) (rT1 r323868 (by decide)) (rT2 r323868 (by decide))).trans r323870
              have he323920 : F323914 q323879 = .inr (17, [.ref q323888, .ref q323889, .int p323890, .int p323891]) := (hs323916 q323879 (rT0 ht323884 (by decide)) (rT1 ht323884 (by decide)) (rT2 ht323884 (by decide))).trans he323887
              have hs323921 : rStr γ [] F270164 F323914 := rStr_tr hs323219 hs323916
              have kp323922 : F323914 q270165 = F270164 q270165 := (x323912).trans x323221
              have kp323923 : F323914 (γ 9 3) = F323217 (γ 9 3) := x323913
              have he323924 : F323914 q270165 = .inr (22, [.ref (γ 9 0), .ref (γ 9 1), .ref (γ 9 2), .ref (γ 9 3), .ref (γ 9 4), .ref (γ 9 5), .ref (γ 9 6), .ref (γ 9 7), .ref (γ 9 8), .int p270174, .int p270175, .int p270176, .int p270177, .int p270178, .int p270179, .ref (γ 9 15), .ref (γ 9 16), .ref (γ 9 17), .ref (γ 9 18), .ref (γ 9 19), .ref (γ 9 20), .ref (γ 9 21), .ref (γ 9 22), .int p270180, .int p270181, .int p270182, .int p270183, .int p270184, .ref q270172, .ref (γ 9 29), .int p270185, .ref (γ 9 31), .int p270186, .int p270187, .int p270188, .ref q270173]) := (x323912).trans he323225
              change G _ _ _ _ _ _ _ _ _ _ _
              refine G_widen (cs' := 0) (sl' := 0) (by omega) (by omega) ?_
              refine G_aload_n 2 dr_cX17_graph_77 rfl ?_
              refine G_aload 0 dr_cX17_graph_78 rfl ?_
              refine Gp_get 1 hm323886 he323920 dr_cX17_graph_80 (gk_X12 D I) (Nat.le_of_ble_eq_true rfl) wr_9_219 rfl ?_
              refine G_iload_n 4 dr_cX17_graph_83 rfl ?_
              refine Gw_callV (As := [.ref q323889, .int p270167]) (gV_ok D I) (ct_276612_SpillForgeModel_stand l hl0 D I γ el P270163 F323914 q270165 q323889 p270167 hT323915 htq270165 ht323894 bp270167) dr_cX17_graph_84 ⟨wr_10_233, wr_1_14, wr_10_236, by decide, rfl, (Nat.le_of_ble_eq_true rfl), (Nat.le_of_ble_eq_true rfl)⟩ wr_10_235 wr_p_100 hm323226 he323924 rfl (show 0 + 0 ≤ 0 by first | omega | decide) (show 0 + 0 ≤ 0 by first | omega | decide) (Nat.le_of_ble_eq_true rfl) (fun r323928 w323929 dc323925 ds323926 hp323927 => ?_) (fun _ _ _ _ _ z => z.elim)
              obtain ⟨F323932, rfl, rfl, hT323933, hs323934, hdc, hds, x323930, x323931⟩ := hp323927
              have he323935 : F323932 q270166 = .inr (18, [.ref q323229, .ref q323230, .int p323231, .int p323232]) := (hs323934 q270166 (rT0 htq270166 (by decide)) (rT1 htq270166 (by decide)) (rT2 htq270166 (by decide))).trans he323917
              have he323936 : F323932 q323229 = .inr (4, [.int p323860, .ref q323862, .int p323861]) := (hs323934 q323229 (rT0 ht323233 (by decide)) (rT1 ht323233 (by decide)) (rT2 ht323233 (by decide))).trans he323918
              have he323937 : F323932 q323862 = .inl (I (.object "java/lang/Object"), n323876, .inr (.inr (.inr (.inr f323877)))) := (hs323934 q323862 (rT0 r323868 (by decide)) (rT1 r323868 (by decide)) (rT2 r323868 (by decide))).trans he323919
              have he323938 : F323932 q323879 = .inr (17, [.ref q323888, .ref q323889, .int p323890, .int p323891]) := (hs323934 q323879 (rT0 ht323884 (by decide)) (rT1 ht323884 (by decide)) (rT2 ht323884 (by decide))).trans he323920
              have hs323939 : rStr γ [] F270164 F323932 := rStr_tr hs323921 hs323934
              have kp323940 : F323932 q270165 = F270164 q270165 := (x323931).trans kp323922
              have he323941 : F323932 q270165 = .inr (22, [.ref (γ 9 0), .ref (γ 9 1), .ref (γ 9 2), .ref (γ 9 3), .ref (γ 9 4), .ref (γ 9 5), .ref (γ 9 6), .ref (γ 9 7), .ref (γ 9 8), .int p270174, .int p270175, .int p270176, .int p270177, .int p270178, .int p270179, .ref (γ 9 15), .ref (γ 9 16), .ref (γ 9 17), .ref (γ 9 18), .ref (γ 9 19), .ref (γ 9 20), .ref (γ 9 21), .ref (γ 9 22), .int p270180, .int p270181, .int p270182, .int p270183, .int p270184, .ref q270172, .ref (γ 9 29), .int p270185, .ref (γ 9 31), .int p270186, .int p270187, .int p270188, .ref q270173]) := (x323931).trans he323924
              change G _ _ _ _ _ _ _ _ _ _ _
              refine G_widen (cs' := 0) (sl' := 0) (by omega) (by omega) ?_
              have hb323942 : el (γ 14 q270166) (g323216.toInt : Int).toNat = q323879 := hb323906
              have hL323943 : rwL γ el q270166 (g323216.toInt : Int).toNat = q323888 := by unfold rwL; rw [hb323942]; exact ht323898.1
              have hs323944 : F323914 q323889 = F270164 q323889 := hs323921 q323889 (rT0 ht323894 (by decide)) (rT1 ht323894 (by decide)) (rT2 ht323894 (by decide))
              have gr323945 : gIp (p270167.toInt = 0) (rGr γ el F270164 q270166 (γ 6 (γ 1 q270166)) (cB (F323932 (γ 9 3))) (vB (g323216.toInt : Int).toNat (γ 2 q323888))) := fun h0 => gq_end (x323220 h0) (fun m => by have z := x323930 h0 m; rw [kp323923, hs323944] at z; exact z) ((rAt_e hb323942 ht323898.1 (Nat.le_refl _)).trans ht323898.2.1) (show (g323216.toInt : Int).toNat < γ 6 (γ 1 q270166) by omega) (by rw [hL323943])
              refine G_aload_n 2 dr_cX17_graph_87 rfl ?_
              refine G_aload 0 dr_cX17_graph_88 rfl ?_
              refine Gp_get 1 hm323886 he323938 dr_cX17_graph_90 (gk_X12 D I) (Nat.le_of_ble_eq_true rfl) wr_9_219 rfl ?_
              refine G_iload_n 4 dr_cX17_graph_93 rfl ?_
              refine Gw_callV (As := [.ref q323889, .int p270167]) (gV_ok D I) (ct_276878_SpillForgeModel_back l hl0 D I γ el P270163 F323932 q270165 q323889 p270167 hT323933 htq270165 ht323894 bp270167) dr_cX17_graph_94 ⟨wr_10_170, wr_1_14, wr_10_173, by decide, rfl, (Nat.le_of_ble_eq_true rfl), (Nat.le_of_ble_eq_true rfl)⟩ wr_10_172 wr_p_96 hm323226 he323941 rfl (show 0 + 0 ≤ 0 by first | omega | decide) (show 0 + 0 ≤ 0 by first | omega | decide) (Nat.le_of_ble_eq_true rfl) (fun r323949 w323950 dc323946 ds323947 hp323948 => ?_) (fun _ _ _ _ _ z => z.elim)
              obtain ⟨F323953, rfl, rfl, hT323954, hs323955, hdc, hds, x323951, x323952⟩ := hp323948
              have he323956 : F323953 q270166 = .inr (18, [.ref q323229, .ref q323230, .int p323231, .int p323232]) := (hs323955 q270166 (rT0 htq270166 (by decide)) (rT1 htq270166 (by decide)) (rT2 htq270166 (by decide))).trans he323935
              have he323957 : F323953 q323229 = .inr (4, [.int p323860, .ref q323862, .int p323861]) := (hs323955 q323229 (rT0 ht323233 (by decide)) (rT1 ht323233 (by decide)) (rT2 ht323233 (by decide))).trans he323936
              have he323958 : F323953 q323862 = .inl (I (.object "java/lang/Object"), n323876, .inr (.inr (.inr (.inr f323877)))) := (hs323955 q323862 (rT0 r323868 (by decide)) (rT1 r323868 (by decide)) (rT2 r323868 (by decide))).trans he323937
              have he323959 : F323953 q323879 = .inr (17, [.ref q323888, .ref q323889, .int p323890, .int p323891]) := (hs323955 q323879 (rT0 ht323884 (by decide)) (rT1 ht323884 (by decide)) (rT2 ht323884 (by decide))).trans he323938
              have hs323960 : rStr γ [] F270164 F323953 := rStr_tr hs323939 hs323955
              have kp323961 : F323953 q270165 = F270164 q270165 := (x323951).trans kp323940
              have kp323962 : F323953 (γ 9 3) = F323932 (γ 9 3) := x323952
              have he323963 : F323953 q270165 = .inr (22, [.ref (γ 9 0), .ref (γ 9 1), .ref (γ 9 2), .ref (γ 9 3), .ref (γ 9 4), .ref (γ 9 5), .ref (γ 9 6), .ref (γ 9 7), .ref (γ 9 8), .int p270174, .int p270175, .int p270176, .int p270177, .int p270178, .int p270179, .ref (γ 9 15), .ref (γ 9 16), .ref (γ 9 17), .ref (γ 9 18), .ref (γ 9 19), .ref (γ 9 20), .ref (γ 9 21), .ref (γ 9 22), .int p270180, .int p270181, .int p270182, .int p270183, .int p270184, .ref q270172, .ref (γ 9 29), .int p270185, .ref (γ 9 31), .int p270186, .int p270187, .int p270188, .ref q270173]) := (x323951).trans he323941
              change G _ _ _ _ _ _ _ _ _ _ _
              refine G_widen (cs' := 0) (sl' := 0) (by omega) (by omega) ?_
              refine G_aload 0 dr_cX17_graph_97 rfl ?_
              refine Gp_get 0 hm323886 he323959 dr_cX17_graph_99 (gk_X12 D I) (Nat.le_of_ble_eq_true rfl) wr_9_216 rfl ?_
              have fl323964 : γ 2 (γ 14 q323879) = γ 2 q323888 := by rw [ht323898.1]
              have hm323965 : q323888 ∈ P270163 := RS_m hT323954 ht323892 (by decide)
              obtain ⟨⟨p323967, p323968, q323969, he323966, r323970, r323971, r323972, r323974⟩, r323973⟩ := show rk_3 D I γ el F323953 q323888 from RS_o hT323954 ht323892
              have bp323967 := gB_any p323967
              have bp323968 : gB p323968 0 1000000 := ⟨by omega, by omega⟩
              refine Gw_callV (As := []) (gV_ok D I) (cp_7_ArrayList_size l hl0 D I P270163 F323953 q323888 p323967 q323969 p323968 hm323965 he323966 (gB_w bp323968 (by decide) (by decide))) dr_cX17_graph_102 ⟨wr_10_196, wr_1_18, wr_9_156, by decide, rfl, (Nat.le_of_ble_eq_true rfl), (Nat.le_of_ble_eq_true rfl)⟩ wr_9_154 wr_9_155 hm323965 he323966 rfl (show 0 + 0 ≤ 0 by first | omega | decide) (show 0 + 0 ≤ 0 by first | omega | decide) (Nat.le_of_ble_eq_true rfl) (fun r323978 w323979 dc323975 ds323976 hp323977 => ?_) (fun _ _ _ _ _ z => z.elim)
              obtain ⟨rfl, rfl, hdc, hds⟩ := hp323977
              change G _ _ _ _ _ _ _ (.int p323968 :: _) _ _ _
              refine G_widen (cs' := 0) (sl' := 0) (by omega) (by omega) ?_
              refine G_iconst 1 dr_cX17_graph_105 (by decide +kernel) ?_
              refine G_isub dr_cX17_graph_106 (G_nam fun z323980 hz323980 => ?_)
              have ez323980 : z323980.toInt = p323968.toInt - 1 := by rw [gI_sub hz323980 bp323968 (gBl (show Int32.toInt 1 = 1 by decide)) (by decide) (by decide), show Int32.toInt 1 = 1 from by decide]
              have bz323980 : gB z323980 (-1) 999999 := gB_sub (gI_sub hz323980 bp323968 (gBl (show Int32.toInt 1 = 1 by decide)) (by decide) (by decide)) bp323968 (gBl (show Int32.toInt 1 = 1 by decide)) (by decide) (by decide)
              refine G_istore (L' := [(5, .int z323980), (4, .ref q323879), (3, .int g323216), (0, .ref q270165), (1, .ref q270166), (2, .int p270167)]) dr_cX17_graph_107 (Nat.le_of_ble_eq_true rfl) rfl ?_
              have hlp109_325633 : ∀ (n109_325633 : Nat) (F325628 : Nat → va_E) (g325627 : Int32), gB g325627 (-1) 999999 → RS D I P270163 F325628 γ el → rStr γ [] F270164 F325628 → ((g325627.toInt : Int) < γ 2 (γ 14 q323879)) → (gIp (p270167.toInt = 0) (rGr γ el F270164 q270166 (γ 6 (γ 1 q270166)) (cB (F325628 (γ 9 3))) (vB (g323216.toInt : Int).toNat (g325627.toInt + 1 : Int).toNat))) → (F325628 q270165 = F270164 q270165) → ((g325627.toInt : Int) - (-2)).toNat < n109_325633 → G (gV D I) l (gRm 5 111 0 0) (gMA (gV D I) (pt_270169_SpillForgeModel_graph D I γ el P270163 F270164 q270165 q270166 p270167) gNA 0 0) ky_270169_SpillForgeModel_graph 109 [(5, .int g325627), (4, .ref q323879), (3, .int g323216), (0, .ref q270165), (1, .ref q270166), (2, .int p270167)] [] (va_pl P270163 F325628) 0 0 := by
                intro n109_325633
                induction n109_325633 with
                | zero => intro F325628 g325627 bg325627 hT325629 hs325630 x325631 x325632 x325633 hm109_325633; exact absurd hm109_325633 (Nat.not_lt_zero _)
                | succ n109_325633 ih109_325633 =>
                  intro F325628 g325627 bg325627 hT325629 hs325630 x325631 x325632 x325633 hm109_325633
                  have hs325635 : rStr γ [] F323953 F325628 := fun b h0 hb hw => (hs325630 b h0 hb hw).trans (hs323960 b h0 hb hw).symm
                  have he325636 : F325628 q270166 = .inr (18, [.ref q323229, .ref q323230, .int p323231, .int p323232]) := (hs325635 q270166 (rT0 htq270166 (by decide)) (rT1 htq270166 (by decide)) (rT2 htq270166 (by decide))).trans he323956
                  have he325637 : F325628 q323229 = .inr (4, [.int p323860, .ref q323862, .int p323861]) := (hs325635 q323229 (rT0 ht323233 (by decide)) (rT1 ht323233 (by decide)) (rT2 ht323233 (by decide))).trans he323957
                  have he325638 : F325628 q323862 = .inl (I (.object "java/lang/Object"), n323876, .inr (.inr (.inr (.inr f323877)))) := (hs325635 q323862 (rT0 r323868 (by decide)) (rT1 r323868 (by decide)) (rT2 r323868 (by decide))).trans he323958
                  have he325639 : F325628 q323879 = .inr (17, [.ref q323888, .ref q323889, .int p323890, .int p323891]) := (hs325635 q323879 (rT0 ht323884 (by decide)) (rT1 ht323884 (by decide)) (rT2 ht323884 (by decide))).trans he323959
                  have he325640 : F325628 q323888 = .inr (4, [.int p323967, .ref q323969, .int p323968]) := (hs325635 q323888 (rT0 ht323892 (by decide)) (rT1 ht323892 (by decide)) (rT2 ht323892 (by decide))).trans he323966
                  have hs325641 : rStr γ [] F270164 F325628 := rStr_tr hs323960 hs325635
                  have he325642 : F325628 q270165 = .inr (22, [.ref (γ 9 0), .ref (γ 9 1), .ref (γ 9 2), .ref (γ 9 3), .ref (γ 9 4), .ref (γ 9 5), .ref (γ 9 6), .ref (γ 9 7), .ref (γ 9 8), .int p270174, .int p270175, .int p270176, .int p270177, .int p270178, .int p270179, .ref (γ 9 15), .ref (γ 9 16), .ref (γ 9 17), .ref (γ 9 18), .ref (γ 9 19), .ref (γ 9 20), .ref (γ 9 21), .ref (γ 9 22), .int p270180, .int p270181, .int p270182, .int p270183, .int p270184, .ref q270172, .ref (γ 9 29), .int p270185, .ref (γ 9 31), .int p270186, .int p270187, .int p270188, .ref q270173]) := x325633.trans he270171
                  have hm325643 : q270165 ∈ P270163 := RS_m hT325629 htq270165 (by decide)
                  refine G_iload 0 dr_cX17_graph_109 rfl ?_
                  refine G_if_lt 290 dr_cX17_graph_111 (by decide +kernel) (fun hc325644 => ?_) (fun hc325644 => ?_)
                  · have r325645 : g325627.toInt < 0 := gj_lt hc325644 (show Int32.toInt 0 = 0 by decide)
                    have bg325627' : gB g325627 (-1) (-1) := ⟨by omega, by omega⟩
                    obtain ⟨z325646, hz325646⟩ : ∃ z : Int32, z = g323216 + Int32.ofInt 1 := ⟨_, rfl⟩
                    have ez325646 : z325646.toInt = g323216.toInt + 1 := gI_inc hz325646 (by decide) bg323216' (by decide) (by decide)
                    have bz325646 : gB z325646 1 1000000 := ⟨by omega, by omega⟩
                    refine G_iinc (L' := [(3, .int z325646), (5, .int g325627), (4, .ref q323879), (0, .ref q270165), (1, .ref q270166), (2, .int p270167)]) z325646 2 dr_cX17_graph_290 rfl hz325646.symm (Nat.le_of_ble_eq_true rfl) rfl ?_
                    refine G_goto 56 dr_cX17_graph_293 (by decide +kernel) ?_
                    refine G_lv (L' := [(3, .int z325646), (0, .ref q270165), (1, .ref q270166), (2, .int p270167)]) [0, 3, 4, 5] rfl ?_
                    exact ih56_323221 F325628 z325646 (gB_w bz325646 (by decide) (by decide)) hT325629 hs325630 (fun h0 => by have z := x325632 h0; exact gq_nx z (by omega) (by rw [ez325646]; omega)) x325633 (mz_up ez325646 (Int.le_trans bg323216'.2 (by decide)) hm56_323221)
                  · have r325647 : 0 ≤ g325627.toInt := gj_nlt hc325644 (show Int32.toInt 0 = 0 by decide)
                    have bg325627' : gB g325627 0 999999 := ⟨by omega, by omega⟩
                    refine G_aload 1 dr_cX17_graph_114 rfl ?_
                    refine Gp_get 0 hm323886 he325639 dr_cX17_graph_116 (gk_X12 D I) (Nat.le_of_ble_eq_true rfl) wr_9_216 rfl ?_
                    refine G_iload 0 dr_cX17_graph_119 rfl ?_
                    have fl325648 : γ 2 (γ 14 q323879) = γ 2 q323888 := by rw [ht323898.1]
                    have hm325649 : q323888 ∈ P270163 := RS_m hT325629 ht323892 (by decide)
                    obtain ⟨⟨p325651, p325652, q325653, he325650, r325654, r325655, r325656, r325658⟩, r325657⟩ := show rk_3 D I γ el F325628 q323888 from RS_o hT325629 ht323892
                    have bp325651 := gB_any p325651
                    have bp325652 : gB p325652 0 1000000 := ⟨by omega, by omega⟩
                    obtain ⟨r325659, r325660, n325667, f325668, r325661, r325662, r325663, r325664, r325665, r325666⟩ := rLC_n r325656 (by omega)
                    have hm325669 : q325653 ∈ P270163 := RS_m hT325629 r325659 (by decide)
                    obtain ⟨q325670, hx325671⟩ : ∃ x, x = el q323888 g325627.toInt.toNat := ⟨_, rfl⟩
                    have hx325672 : f325668 g325627.toNatClampNeg = some q325670 := (r325665 _ (show g325627.toInt.toNat < γ 2 q323888 by omega)).trans (by rw [hx325671])
                    have ht325673 : rKd γ q325670 1 := by rw [hx325671]; exact (r325657 _ (show g325627.toInt.toNat < γ 2 q323888 by omega)).1
                    have ht325674 : rFm γ q325670 q323888 := by rw [hx325671]; exact (r325657 _ (show g325627.toInt.toNat < γ 2 q323888 by omega)).2.1
                    refine Gw_callV (As := [.int g325627]) (gV_ok D I) (cp_22_ArrayList_get l hl0 D I P270163 F325628 q323888 q325653 g325627 p325651 p325652 f325668 n325667 q325670 hm325649 hm325669 he325650 r325661 (gB_w bg325627' (by decide) (by decide)) (gB_w bp325652 (by decide) (by decide)) (by omega) (by omega) (by assumption) (by omega)) dr_cX17_graph_121 ⟨wr_10_197, wr_1_18, wr_10_61, by decide, rfl, (Nat.le_of_ble_eq_true rfl), (Nat.le_of_ble_eq_true rfl)⟩ wr_10_59 wr_10_60 hm325649 he325650 rfl (show 0 + 0 ≤ 0 by first | omega | decide) (show 0 + 0 ≤ 0 by first | omega | decide) (Nat.le_of_ble_eq_true rfl) (fun r325678 w325679 dc325675 ds325676 hp325677 => ?_) (fun _ _ _ _ _ z => z.elim)
                    obtain ⟨rfl, rfl, hdc, hds⟩ := hp325677
                    change G _ _ _ _ _ _ _ (.ref q325670 :: _) _ _ _
                    refine G_widen (cs' := 0) (sl' := 0) (by omega) (by omega) ?_
                    have hr325680 : el q323888 (g325627.toInt : Int).toNat = q325670 := by rw [hx325671]
                    have hm325681 : q325670 ∈ P270163 := RS_m hT325629 ht325673 (by decide)
                    obtain ⟨p325683, p325684, p325685, p325686, p325687, p325688, p325689, he325682, bp325683, bp325684, bp325687, bp325688, bp325689, r325690, r325691, r325692, r325693, r325694⟩ := show rk_1 γ q325670 (F325628 q325670) from RS_o hT325629 ht325673
                    have bp325685 := gB_any p325685
                    have bp325686 := gB_any p325686
                    refine Gp_cast hm325681 he325682 rfl dr_cX17_graph_124 wr_10_198 (gr_cast 1 rfl) ?_
                    refine G_astore (L' := [(6, .ref q325670), (5, .int g325627), (4, .ref q323879), (3, .int g323216), (0, .ref q270165), (1, .ref q270166), (2, .int p270167)]) dr_cX17_graph_127 (Nat.le_of_ble_eq_true rfl) rfl ?_
                    refine G_aload_n 4 dr_cX17_graph_129 rfl ?_
                    refine G_aload 0 dr_cX17_graph_130 rfl ?_
                    refine G_iload_n 6 dr_cX17_graph_132 rfl ?_
                    refine Gw_callV (As := [.ref q325670, .int p270167]) (gV_ok D I) (ct_276612_SpillForgeModel_stand l hl0 D I γ el P270163 F325628 q270165 q325670 p270167 hT325629 htq270165 ht325673 bp270167) dr_cX17_graph_133 ⟨wr_10_233, wr_1_14, wr_10_236, by decide, rfl, (Nat.le_of_ble_eq_true rfl), (Nat.le_of_ble_eq_true rfl)⟩ wr_10_235 wr_p_100 hm325643 he325642 rfl (show 0 + 0 ≤ 0 by first | omega | decide) (show 0 + 0 ≤ 0 by first | omega | decide) (Nat.le_of_ble_eq_true rfl) (fun r325698 w325699 dc325695 ds325696 hp325697 => ?_) (fun _ _ _ _ _ z => z.elim)
                    obtain ⟨F325702, rfl, rfl, hT325703, hs325704, hdc, hds, x325700, x325701⟩ := hp325697
                    have he325705 : F325702 q270166 = .inr (18, [.ref q323229, .ref q323230, .int p323231, .int p323232]) := (hs325704 q270166 (rT0 htq270166 (by decide)) (rT1 htq270166 (by decide)) (rT2 htq270166 (by decide))).trans he325636
                    have he325706 : F325702 q323229 = .inr (4, [.int p323860, .ref q323862, .int p323861]) := (hs325704 q323229 (rT0 ht323233 (by decide)) (rT1 ht323233 (by decide)) (rT2 ht323233 (by decide))).trans he325637
                    have he325707 : F325702 q323862 = .inl (I (.object "java/lang/Object"), n323876, .inr (.inr (.inr (.inr f323877)))) := (hs325704 q323862 (rT0 r323868 (by decide)) (rT1 r323868 (by decide)) (rT2 r323868 (by decide))).trans he325638
                    have he325708 : F325702 q323879 = .inr (17, [.ref q323888, .ref q323889, .int p323890, .int p323891]) := (hs325704 q323879 (rT0 ht323884 (by decide)) (rT1 ht323884 (by decide)) (rT2 ht323884 (by decide))).trans he325639
                    have he325709 : F325702 q323888 = .inr (4, [.int p325651, .ref q325653, .int p325652]) := (hs325704 q323888 (rT0 ht323892 (by decide)) (rT1 ht323892 (by decide)) (rT2 ht323892 (by decide))).trans he325650
                    have he325710 : F325702 q325653 = .inl (I (.object "java/lang/Object"), n325667, .inr (.inr (.inr (.inr f325668)))) := (hs325704 q325653 (rT0 r325659 (by decide)) (rT1 r325659 (by decide)) (rT2 r325659 (by decide))).trans r325661
                    have he325711 : F325702 q325670 = .inr (20, [.int p325683, .int p325684, .int p325685, .int p325686, .int p325687, .int p325688, .int p325689]) := (hs325704 q325670 (rT0 ht325673 (by decide)) (rT1 ht325673 (by decide)) (rT2 ht325673 (by decide))).trans he325682
                    have hs325712 : rStr γ [] F270164 F325702 := rStr_tr hs325630 hs325704
                    have kp325713 : F325702 q270165 = F270164 q270165 := (x325701).trans x325633
                    have he325714 : F325702 q270165 = .inr (22, [.ref (γ 9 0), .ref (γ 9 1), .ref (γ 9 2), .ref (γ 9 3), .ref (γ 9 4), .ref (γ 9 5), .ref (γ 9 6), .ref (γ 9 7), .ref (γ 9 8), .int p270174, .int p270175, .int p270176, .int p270177, .int p270178, .int p270179, .ref (γ 9 15), .ref (γ 9 16), .ref (γ 9 17), .ref (γ 9 18), .ref (γ 9 19), .ref (γ 9 20), .ref (γ 9 21), .ref (γ 9 22), .int p270180, .int p270181, .int p270182, .int p270183, .int p270184, .ref q270172, .ref (γ 9 29), .int p270185, .ref (γ 9 31), .int p270186, .int p270187, .int p270188, .ref q270173]) := (x325701).trans he325642
                    change G _ _ _ _ _ _ _ _ _ _ _
                    refine G_widen (cs' := 0) (sl' := 0) (by omega) (by omega) ?_
                    have hb325715 : el (γ 14 q270166) (g323216.toInt : Int).toNat = q323879 := hb323906
                    have hL325716 : rwL γ el q270166 (g323216.toInt : Int).toNat = q323888 := by unfold rwL; rw [hb325715]; exact ht323898.1
                    have hs325717 : F325628 q325670 = F270164 q325670 := hs325630 q325670 (rT0 ht325673 (by decide)) (rT1 ht325673 (by decide)) (rT2 ht325673 (by decide))
                    have gr325718 : gIp (p270167.toInt = 0) (rGr γ el F270164 q270166 (γ 6 (γ 1 q270166)) (cB (F325702 (γ 9 3))) (vB (g323216.toInt : Int).toNat (g325627.toInt : Int).toNat)) := fun h0 => gq_row (x325632 h0) (fun m => by have z := x325700 h0 m; rw [hs325717] at z; exact z) ((rAt_r hb325715 ht323898.1 (by omega)).trans hr325680) (show (g323216.toInt : Int).toNat < γ 6 (γ 1 q270166) by omega) (by rw [hL325716]; omega) (by omega)
                    refine G_aload 0 dr_cX17_graph_136 rfl ?_
                    refine G_iload_n 6 dr_cX17_graph_138 rfl ?_
                    refine Gw_callS (As := [.ref q325670, .int p270167]) (gV_ok D I) (cp_1778_SpillForgeModel_setOf l hl0 D I P270163 F325702 q325670 p270167 p325683 p325684 p325685 p325686 p325687 p325688 p325689 hm325681 he325711 bp270167 bp325683 bp325684 bp325687 bp325688 bp325689) dr_cX17_graph_139 ⟨wr_10_174, wr_1_14, wr_10_176, by decide, rfl, (Nat.le_of_ble_eq_true rfl), (Nat.le_of_ble_eq_true rfl)⟩ wr_10_175 (show 0 + 0 ≤ 0 by first | omega | decide) (show 0 + 0 ≤ 0 by first | omega | decide) (Nat.le_of_ble_eq_true rfl) (fun r325722 w325723 dc325719 ds325720 hp325721 => ?_) (fun _ _ _ _ _ z => z.elim)
                    obtain ⟨o325724, rfl, rfl, hdc, hds, bo325724⟩ := hp325721
                    change G _ _ _ _ _ _ _ (.int o325724 :: _) _ _ _
                    refine G_widen (cs' := 0) (sl' := 0) (by omega) (by omega) ?_
                    refine G_istore (L' := [(7, .int o325724), (6, .ref q325670), (5, .int g325627), (4, .ref q323879), (3, .int g323216), (0, .ref q270165), (1, .ref q270166), (2, .int p270167)]) dr_cX17_graph_142 (Nat.le_of_ble_eq_true rfl) rfl ?_
                    refine G_iload_n 7 dr_cX17_graph_144 rfl ?_
                    refine G_if_ne 172 dr_cX17_graph_145 (by decide +kernel) (fun hc325725 => ?_) (fun hc325725 => ?_)
                    · have r325726 : p270167.toInt ≠ 0 := gj_neq hc325725 (show Int32.toInt 0 = 0 by decide)
                      have bp270167' : gB p270167 1 1 := gB_t1 bp270167 r325726
                      refine G_iconst (-1) dr_cX17_graph_172 (by decide +kernel) ?_
                      refine G_istore (L' := [(8, .int (-1)), (7, .int o325724), (6, .ref q325670), (5, .int g325627), (4, .ref q323879), (3, .int g323216), (0, .ref q270165), (1, .ref q270166), (2, .int p270167)]) dr_cX17_graph_173 (Nat.le_of_ble_eq_true rfl) rfl ?_
                      refine G_iload 1 dr_cX17_graph_175 rfl ?_
                      refine G_if_lt 277 dr_cX17_graph_177 (by decide +kernel) (fun hc325727 => ?_) (fun hc325727 => ?_)
                      · have r325728 : o325724.toInt < 0 := gj_lt hc325727 (show Int32.toInt 0 = 0 by decide)
                        have bo325724' : gB o325724 (-1) (-1) := ⟨by omega, by omega⟩
                        refine G_aload_n 6 dr_cX17_graph_277 rfl ?_
                        refine G_aload 2 dr_cX17_graph_278 rfl ?_
                        refine G_iload_n 8 dr_cX17_graph_280 rfl ?_
                        refine Gw_callV (As := [.ref q325670, .int p270167]) (gV_ok D I) (ct_276878_SpillForgeModel_back l hl0 D I γ el P270163 F325702 q270165 q325670 p270167 hT325703 htq270165 ht325673 (gB_w bp270167' (by decide) (by decide))) dr_cX17_graph_281 ⟨wr_10_170, wr_1_14, wr_10_173, by decide, rfl, (Nat.le_of_ble_eq_true rfl), (Nat.le_of_ble_eq_true rfl)⟩ wr_10_172 wr_p_96 hm325643 he325714 rfl (show 0 + 0 ≤ 0 by first | omega | decide) (show 0 + 0 ≤ 0 by first | omega | decide) (Nat.le_of_ble_eq_true rfl) (fun r325732 w325733 dc325729 ds325730 hp325731 => ?_) (fun _ _ _ _ _ z => z.elim)
                        obtain ⟨F325736, rfl, rfl, hT325737, hs325738, hdc, hds, x325734, x325735⟩ := hp325731
                        have he325739 : F325736 q270166 = .inr (18, [.ref q323229, .ref q323230, .int p323231, .int p323232]) := (hs325738 q270166 (rT0 htq270166 (by decide)) (rT1 htq270166 (by decide)) (rT2 htq270166 (by decide))).trans he325705
                        have he325740 : F325736 q323229 = .inr (4, [.int p323860, .ref q323862, .int p323861]) := (hs325738 q323229 (rT0 ht323233 (by decide)) (rT1 ht323233 (by decide)) (rT2 ht323233 (by decide))).trans he325706
                        have he325741 : F325736 q323862 = .inl (I (.object "java/lang/Object"), n323876, .inr (.inr (.inr (.inr f323877)))) := (hs325738 q323862 (rT0 r323868 (by decide)) (rT1 r323868 (by decide)) (rT2 r323868 (by decide))).trans he325707
                        have he325742 : F325736 q323879 = .inr (17, [.ref q323888, .ref q323889, .int p323890, .int p323891]) := (hs325738 q323879 (rT0 ht323884 (by decide)) (rT1 ht323884 (by decide)) (rT2 ht323884 (by decide))).trans he325708
                        have he325743 : F325736 q323888 = .inr (4, [.int p325651, .ref q325653, .int p325652]) := (hs325738 q323888 (rT0 ht323892 (by decide)) (rT1 ht323892 (by decide)) (rT2 ht323892 (by decide))).trans he325709
                        have he325744 : F325736 q325653 = .inl (I (.object "java/lang/Object"), n325667, .inr (.inr (.inr (.inr f325668)))) := (hs325738 q325653 (rT0 r325659 (by decide)) (rT1 r325659 (by decide)) (rT2 r325659 (by decide))).trans he325710
                        have he325745 : F325736 q325670 = .inr (20, [.int p325683, .int p325684, .int p325685, .int p325686, .int p325687, .int p325688, .int p325689]) := (hs325738 q325670 (rT0 ht325673 (by decide)) (rT1 ht325673 (by decide)) (rT2 ht325673 (by decide))).trans he325711
                        have hs325746 : rStr γ [] F270164 F325736 := rStr_tr hs325712 hs325738
                        have kp325747 : F325736 q270165 = F270164 q270165 := (x325734).trans kp325713
                        have kp325748 : F325736 (γ 9 3) = F325702 (γ 9 3) := x325735
                        have he325749 : F325736 q270165 = .inr (22, [.ref (γ 9 0), .ref (γ 9 1), .ref (γ 9 2), .ref (γ 9 3), .ref (γ 9 4), .ref (γ 9 5), .ref (γ 9 6), .ref (γ 9 7), .ref (γ 9 8), .int p270174, .int p270175, .int p270176, .int p270177, .int p270178, .int p270179, .ref (γ 9 15), .ref (γ 9 16), .ref (γ 9 17), .ref (γ 9 18), .ref (γ 9 19), .ref (γ 9 20), .ref (γ 9 21), .ref (γ 9 22), .int p270180, .int p270181, .int p270182, .int p270183, .int p270184, .ref q270172, .ref (γ 9 29), .int p270185, .ref (γ 9 31), .int p270186, .int p270187, .int p270188, .ref q270173]) := (x325734).trans he325714
                        change G _ _ _ _ _ _ _ _ _ _ _
                        refine G_widen (cs' := 0) (sl' := 0) (by omega) (by omega) ?_
                        obtain ⟨z325750, hz325750⟩ : ∃ z : Int32, z = g325627 + Int32.ofInt (-1) := ⟨_, rfl⟩
                        have ez325750 : z325750.toInt = g325627.toInt + (-1) := gI_inc hz325750 (by decide) bg325627' (by decide) (by decide)
                        have bz325750 : gB z325750 (-1) 999998 := ⟨by omega, by omega⟩
                        refine G_iinc (L' := [(5, .int z325750), (8, .int (-1)), (7, .int o325724), (6, .ref q325670), (4, .ref q323879), (3, .int g323216), (0, .ref q270165), (1, .ref q270166), (2, .int p270167)]) z325750 3 dr_cX17_graph_284 rfl hz325750.symm (Nat.le_of_ble_eq_true rfl) rfl ?_
                        refine G_goto 109 dr_cX17_graph_287 (by decide +kernel) ?_
                        refine G_lv (L' := [(5, .int z325750), (4, .ref q323879), (3, .int g323216), (0, .ref q270165), (1, .ref q270166), (2, .int p270167)]) [0, 4, 5, 6, 7, 8] rfl ?_
                        exact ih109_325633 F325736 z325750 (gB_w bz325750 (by decide) (by decide)) hT325737 hs325746 (by omega) (fun h0 => by have z := gr325718 h0; rw [← kp325748] at z; rw [show ((g325627.toInt : Int).toNat : Nat) = (z325750.toInt + 1 : Int).toNat by omega] at z; exact z) kp325747 (mz_dn ez325750 (Int.le_trans (by decide) bg325627'.1) hm109_325633)
                      · have r325751 : 0 ≤ o325724.toInt := gj_nlt hc325727 (show Int32.toInt 0 = 0 by decide)
                        have bo325724' : gB o325724 0 1999 := ⟨by omega, by omega⟩
                        refine G_iload 0 dr_cX17_graph_180 rfl ?_
                        refine G_if_lt 204 dr_cX17_graph_182 (by decide +kernel) (fun _ => ?_) (fun hc => absurd hc (by decide))
                        refine G_iconst 0 dr_cX17_graph_204 (by decide +kernel) ?_
                        refine G_istore (L' := [(9, .int 0), (8, .int (-1)), (7, .int o325724), (6, .ref q325670), (5, .int g325627), (4, .ref q323879), (3, .int g323216), (0, .ref q270165), (1, .ref q270166), (2, .int p270167)]) dr_cX17_graph_205 (Nat.le_of_ble_eq_true rfl) rfl ?_
                        refine G_iconst 0 dr_cX17_graph_207 (by decide +kernel) ?_
                        refine G_istore (L' := [(10, .int 0), (9, .int 0), (8, .int (-1)), (7, .int o325724), (6, .ref q325670), (5, .int g325627), (4, .ref q323879), (3, .int g323216), (0, .ref q270165), (1, .ref q270166), (2, .int p270167)]) dr_cX17_graph_208 (Nat.le_of_ble_eq_true rfl) rfl ?_
                        have hlp210_325868 : ∀ (n210_325868 : Nat) (F325864 : Nat → va_E) (g325863 : Int32), gB g325863 0 32 → RS D I P270163 F325864 γ el → rStr γ [] F270164 F325864 → (gIp (p270167.toInt = 0) (rGr γ el F270164 q270166 (γ 6 (γ 1 q270166)) (cB (F325864 (γ 9 3))) (vB (g323216.toInt : Int).toNat (g325627.toInt : Int).toNat))) → (F325864 q270165 = F270164 q270165) → ((33 : Int) - g325863.toInt).toNat < n210_325868 → G (gV D I) l (gRm 5 111 0 0) (gMA (gV D I) (pt_270169_SpillForgeModel_graph D I γ el P270163 F270164 q270165 q270166 p270167) gNA 0 0) ky_270169_SpillForgeModel_graph 210 [(10, .int g325863), (9, .int 0), (8, .int (-1)), (7, .int o325724), (6, .ref q325670), (5, .int g325627), (4, .ref q323879), (3, .int g323216), (0, .ref q270165), (1, .ref q270166), (2, .int p270167)] [] (va_pl P270163 F325864) 0 0 := by
                          intro n210_325868
                          induction n210_325868 with
                          | zero => intro F325864 g325863 bg325863 hT325865 hs325866 x325867 x325868 hm210_325868; exact absurd hm210_325868 (Nat.not_lt_zero _)
                          | succ n210_325868 ih210_325868 =>
                            intro F325864 g325863 bg325863 hT325865 hs325866 x325867 x325868 hm210_325868
                            have hs325870 : rStr γ [] F325702 F325864 := fun b h0 hb hw => (hs325866 b h0 hb hw).trans (hs325712 b h0 hb hw).symm
                            have he325871 : F325864 q270166 = .inr (18, [.ref q323229, .ref q323230, .int p323231, .int p323232]) := (hs325870 q270166 (rT0 htq270166 (by decide)) (rT1 htq270166 (by decide)) (rT2 htq270166 (by decide))).trans he325705
                            have he325872 : F325864 q323229 = .inr (4, [.int p323860, .ref q323862, .int p323861]) := (hs325870 q323229 (rT0 ht323233 (by decide)) (rT1 ht323233 (by decide)) (rT2 ht323233 (by decide))).trans he325706
                            have he325873 : F325864 q323862 = .inl (I (.object "java/lang/Object"), n323876, .inr (.inr (.inr (.inr f323877)))) := (hs325870 q323862 (rT0 r323868 (by decide)) (rT1 r323868 (by decide)) (rT2 r323868 (by decide))).trans he325707
                            have he325874 : F325864 q323879 = .inr (17, [.ref q323888, .ref q323889, .int p323890, .int p323891]) := (hs325870 q323879 (rT0 ht323884 (by decide)) (rT1 ht323884 (by decide)) (rT2 ht323884 (by decide))).trans he325708
                            have he325875 : F325864 q323888 = .inr (4, [.int p325651, .ref q325653, .int p325652]) := (hs325870 q323888 (rT0 ht323892 (by decide)) (rT1 ht323892 (by decide)) (rT2 ht323892 (by decide))).trans he325709
                            have he325876 : F325864 q325653 = .inl (I (.object "java/lang/Object"), n325667, .inr (.inr (.inr (.inr f325668)))) := (hs325870 q325653 (rT0 r325659 (by decide)) (rT1 r325659 (by decide)) (rT2 r325659 (by decide))).trans he325710
                            have he325877 : F325864 q325670 = .inr (20, [.int p325683, .int p325684, .int p325685, .int p325686, .int p325687, .int p325688, .int p325689]) := (hs325870 q325670 (rT0 ht325673 (by decide)) (rT1 ht325673 (by decide)) (rT2 ht325673 (by decide))).trans he325711
                            have hs325878 : rStr γ [] F270164 F325864 := rStr_tr hs325712 hs325870
                            have he325879 : F325864 q270165 = .inr (22, [.ref (γ 9 0), .ref (γ 9 1), .ref (γ 9 2), .ref (γ 9 3), .ref (γ 9 4), .ref (γ 9 5), .ref (γ 9 6), .ref (γ 9 7), .ref (γ 9 8), .int p270174, .int p270175, .int p270176, .int p270177, .int p270178, .int p270179, .ref (γ 9 15), .ref (γ 9 16), .ref (γ 9 17), .ref (γ 9 18), .ref (γ 9 19), .ref (γ 9 20), .ref (γ 9 21), .ref (γ 9 22), .int p270180, .int p270181, .int p270182, .int p270183, .int p270184, .ref q270172, .ref (γ 9 29), .int p270185, .ref (γ 9 31), .int p270186, .int p270187, .int p270188, .ref q270173]) := x325868.trans he270171
                            have hm325880 : q270165 ∈ P270163 := RS_m hT325865 htq270165 (by decide)
                            refine G_iload 0 dr_cX17_graph_210 rfl ?_
                            refine G_bipush 32 dr_cX17_graph_212 (by decide +kernel) ?_
                            refine G_icmp_ge 243 dr_cX17_graph_214 (by decide +kernel) (fun hc325881 => ?_) (fun hc325881 => ?_)
                            · have r325882 : 32 ≤ g325863.toInt := gj_leL hc325881 (show Int32.toInt 32 = 32 by decide)
                              have bg325863' : gB g325863 32 32 := ⟨by omega, by omega⟩
                              refine G_iload 2 dr_cX17_graph_243 rfl ?_
                              refine G_if_lt 265 dr_cX17_graph_245 (by decide +kernel) (fun _ => ?_) (fun hc => absurd hc (by decide))
                              refine G_aload_n 8 dr_cX17_graph_265 rfl ?_
                              refine Gp_get 1 hm325880 he325879 dr_cX17_graph_266 (gk_X17 D I) (Nat.le_of_ble_eq_true rfl) wr_7_75 rfl ?_
                              refine G_iload 3 dr_cX17_graph_269 rfl ?_
                              have hm325883 : (γ 9 1) ∈ P270163 := RS_m hT325865 ht270192 (by decide)
                              obtain ⟨f325885, he325884, hg325886⟩ := show rk_13 I γ (F325864 (γ 9 1)) from RS_o hT325865 ht270192
                              obtain ⟨q325887, hx325889⟩ : ∃ x, x = γ 11 o325724.toInt.toNat := ⟨_, rfl⟩
                              have ht325888 : rKd γ q325887 36 := by rw [hx325889]; exact (hg325886 _ (show o325724.toInt.toNat < 2000 by omega)).2.1
                              refine Gp_aald 5 hm325883 he325884 dr_cX17_graph_271 rfl rfl (gB_in bo325724' (by decide) (by decide)) ?_
                              rw [show f325885 o325724.toNatClampNeg = some q325887 from (hg325886 _ (show o325724.toInt.toNat < 2000 by omega)).1.trans (by rw [hx325889])]
                              change G _ _ _ _ _ _ _ (.ref q325887 :: _) _ _ _
                              refine G_iload 3 dr_cX17_graph_272 rfl ?_
                              have hm325890 : q325887 ∈ P270163 := RS_m hT325865 ht325888 (by decide)
                              obtain ⟨f325892, he325891, wf325892⟩ := show rk_36 I (F325864 q325887) from RS_o hT325865 ht325888
                              refine Gw_callS (As := [.ref q325887, .int o325724]) (gV_ok D I) (cp_1873_SpillForgeModel_clear l hl0 D I P270163 F325864 q325887 o325724 f325892 hm325890 he325891 bo325724' wf325892) dr_cX17_graph_274 ⟨wr_10_181, wr_1_14, wr_10_183, by decide, rfl, (Nat.le_of_ble_eq_true rfl), (Nat.le_of_ble_eq_true rfl)⟩ wr_10_182 (show 0 + 0 ≤ 0 by first | omega | decide) (show 0 + 0 ≤ 0 by first | omega | decide) (Nat.le_of_ble_eq_true rfl) (fun r325896 w325897 dc325893 ds325894 hp325895 => ?_) (fun _ _ _ _ _ z => z.elim)
                              obtain ⟨F325900, f325898, rfl, rfl, hfr325902, he325903, hdc, hds, x325899⟩ := hp325895
                              have he325904 : F325900 q270166 = .inr (18, [.ref q323229, .ref q323230, .int p323231, .int p323232]) := (hfr325902 q270166 hm323227 (nm_c (rn_oa he325871 he325891) nm_n)).trans he325871
                              have he325905 : F325900 q323229 = .inr (4, [.int p323860, .ref q323862, .int p323861]) := (hfr325902 q323229 hm323858 (nm_c (rn_oa he325872 he325891) nm_n)).trans he325872
                              have he325906 : F325900 q323862 = .inl (I (.object "java/lang/Object"), n323876, .inr (.inr (.inr (.inr f323877)))) := (hfr325902 q323862 hm323878 (nm_c (rn_ref_long he325873 he325891) nm_n)).trans he325873
                              have he325907 : F325900 q323879 = .inr (17, [.ref q323888, .ref q323889, .int p323890, .int p323891]) := (hfr325902 q323879 hm323886 (nm_c (rn_oa he325874 he325891) nm_n)).trans he325874
                              have he325908 : F325900 q323888 = .inr (4, [.int p325651, .ref q325653, .int p325652]) := (hfr325902 q323888 hm325649 (nm_c (rn_oa he325875 he325891) nm_n)).trans he325875
                              have he325909 : F325900 q325653 = .inl (I (.object "java/lang/Object"), n325667, .inr (.inr (.inr (.inr f325668)))) := (hfr325902 q325653 hm325669 (nm_c (rn_ref_long he325876 he325891) nm_n)).trans he325876
                              have he325910 : F325900 q325670 = .inr (20, [.int p325683, .int p325684, .int p325685, .int p325686, .int p325687, .int p325688, .int p325689]) := (hfr325902 q325670 hm325681 (nm_c (rn_oa he325877 he325891) nm_n)).trans he325877
                              have he325911 : F325900 q270165 = .inr (22, [.ref (γ 9 0), .ref (γ 9 1), .ref (γ 9 2), .ref (γ 9 3), .ref (γ 9 4), .ref (γ 9 5), .ref (γ 9 6), .ref (γ 9 7), .ref (γ 9 8), .int p270174, .int p270175, .int p270176, .int p270177, .int p270178, .int p270179, .ref (γ 9 15), .ref (γ 9 16), .ref (γ 9 17), .ref (γ 9 18), .ref (γ 9 19), .ref (γ 9 20), .ref (γ 9 21), .ref (γ 9 22), .int p270180, .int p270181, .int p270182, .int p270183, .int p270184, .ref q270172, .ref (γ 9 29), .int p270185, .ref (γ 9 31), .int p270186, .int p270187, .int p270188, .ref q270173]) := (hfr325902 q270165 hm325880 (nm_c (rn_oa he325879 he325891) nm_n)).trans he325879
                              have he325912 : F325900 (γ 9 1) = .inl (I (.array .long), 2000, .inr (.inr (.inr (.inr f325885)))) := (hfr325902 (γ 9 1) hm325883 (nm_c (rn_ref_long he325884 he325891) nm_n)).trans he325884
                              have hfr325913 : rFr [q325887] P270163 F325864 F325900 := rFr_call (rSub_rf (P := P270163)) (rFr_rf (W := []) (P := P270163) (F := F325864)) hfr325902 (fun b hb hn => ⟨nm_n, (nm_c (fun e => hn (e ▸ List.mem_cons_self)) nm_n)⟩)
                              change G _ _ _ _ _ _ _ _ _ _ _
                              refine G_widen (cs' := 0) (sl' := 0) (by omega) (by omega) ?_
                              have hT325914 : RS D I P270163 F325900 γ el := RS_fr hT325865 hfr325913 ht325888 (by decide) ⟨f325898, he325903, x325899⟩
                              have hs325915 : rStr γ [] F270164 F325900 := rStr_fr hT325865 hs325866 hfr325913 ht325888 (by decide)
                              have kp325916 : F325900 q270165 = F270164 q270165 := (hfr325913 q270165 (RS_m hT325865 htq270165 (by decide)) (nm_c (rn_ty htq270165 ht325888 (by decide)) nm_n)).trans x325868
                              have kp325917 : F325900 (γ 9 3) = F325864 (γ 9 3) := hfr325913 (γ 9 3) (RS_m hT325865 ht270194 (by decide)) (nm_c (rn_ty ht270194 ht325888 (by decide)) nm_n)
                              refine G_aload_n 8 dr_cX17_graph_277 rfl ?_
                              refine G_aload 4 dr_cX17_graph_278 rfl ?_
                              refine G_iload_n 10 dr_cX17_graph_280 rfl ?_
                              refine Gw_callV (As := [.ref q325670, .int p270167]) (gV_ok D I) (ct_276878_SpillForgeModel_back l hl0 D I γ el P270163 F325900 q270165 q325670 p270167 hT325914 htq270165 ht325673 (gB_w bp270167' (by decide) (by decide))) dr_cX17_graph_281 ⟨wr_10_170, wr_1_14, wr_10_173, by decide, rfl, (Nat.le_of_ble_eq_true rfl), (Nat.le_of_ble_eq_true rfl)⟩ wr_10_172 wr_p_96 hm325880 he325911 rfl (show 0 + 0 ≤ 0 by first | omega | decide) (show 0 + 0 ≤ 0 by first | omega | decide) (Nat.le_of_ble_eq_true rfl) (fun r325921 w325922 dc325918 ds325919 hp325920 => ?_) (fun _ _ _ _ _ z => z.elim)
                              obtain ⟨F325925, rfl, rfl, hT325926, hs325927, hdc, hds, x325923, x325924⟩ := hp325920
                              have he325928 : F325925 q270166 = .inr (18, [.ref q323229, .ref q323230, .int p323231, .int p323232]) := (hs325927 q270166 (rT0 htq270166 (by decide)) (rT1 htq270166 (by decide)) (rT2 htq270166 (by decide))).trans he325904
                              have he325929 : F325925 q323229 = .inr (4, [.int p323860, .ref q323862, .int p323861]) := (hs325927 q323229 (rT0 ht323233 (by decide)) (rT1 ht323233 (by decide)) (rT2 ht323233 (by decide))).trans he325905
                              have he325930 : F325925 q323862 = .inl (I (.object "java/lang/Object"), n323876, .inr (.inr (.inr (.inr f323877)))) := (hs325927 q323862 (rT0 r323868 (by decide)) (rT1 r323868 (by decide)) (rT2 r323868 (by decide))).trans he325906
                              have he325931 : F325925 q323879 = .inr (17, [.ref q323888, .ref q323889, .int p323890, .int p323891]) := (hs325927 q323879 (rT0 ht323884 (by decide)) (rT1 ht323884 (by decide)) (rT2 ht323884 (by decide))).trans he325907
                              have he325932 : F325925 q323888 = .inr (4, [.int p325651, .ref q325653, .int p325652]) := (hs325927 q323888 (rT0 ht323892 (by decide)) (rT1 ht323892 (by decide)) (rT2 ht323892 (by decide))).trans he325908
                              have he325933 : F325925 q325653 = .inl (I (.object "java/lang/Object"), n325667, .inr (.inr (.inr (.inr f325668)))) := (hs325927 q325653 (rT0 r325659 (by decide)) (rT1 r325659 (by decide)) (rT2 r325659 (by decide))).trans he325909
                              have he325934 : F325925 q325670 = .inr (20, [.int p325683, .int p325684, .int p325685, .int p325686, .int p325687, .int p325688, .int p325689]) := (hs325927 q325670 (rT0 ht325673 (by decide)) (rT1 ht325673 (by decide)) (rT2 ht325673 (by decide))).trans he325910
                              have hs325935 : rStr γ [] F270164 F325925 := rStr_tr hs325915 hs325927
                              have kp325936 : F325925 q270165 = F270164 q270165 := (x325923).trans kp325916
                              have kp325937 : F325925 (γ 9 3) = F325864 (γ 9 3) := (x325924).trans kp325917
                              have he325938 : F325925 q270165 = .inr (22, [.ref (γ 9 0), .ref (γ 9 1), .ref (γ 9 2), .ref (γ 9 3), .ref (γ 9 4), .ref (γ 9 5), .ref (γ 9 6), .ref (γ 9 7), .ref (γ 9 8), .int p270174, .int p270175, .int p270176, .int p270177, .int p270178, .int p270179, .ref (γ 9 15), .ref (γ 9 16), .ref (γ 9 17), .ref (γ 9 18), .ref (γ 9 19), .ref (γ 9 20), .ref (γ 9 21), .ref (γ 9 22), .int p270180, .int p270181, .int p270182, .int p270183, .int p270184, .ref q270172, .ref (γ 9 29), .int p270185, .ref (γ 9 31), .int p270186, .int p270187, .int p270188, .ref q270173]) := (x325923).trans he325911
                              change G _ _ _ _ _ _ _ _ _ _ _
                              refine G_widen (cs' := 0) (sl' := 0) (by omega) (by omega) ?_
                              obtain ⟨z325939, hz325939⟩ : ∃ z : Int32, z = g325627 + Int32.ofInt (-1) := ⟨_, rfl⟩
                              have ez325939 : z325939.toInt = g325627.toInt + (-1) := gI_inc hz325939 (by decide) bg325627' (by decide) (by decide)
                              have bz325939 : gB z325939 (-1) 999998 := ⟨by omega, by omega⟩
                              refine G_iinc (L' := [(5, .int z325939), (10, .int g325863), (9, .int 0), (8, .int (-1)), (7, .int o325724), (6, .ref q325670), (4, .ref q323879), (3, .int g323216), (0, .ref q270165), (1, .ref q270166), (2, .int p270167)]) z325939 5 dr_cX17_graph_284 rfl hz325939.symm (Nat.le_of_ble_eq_true rfl) rfl ?_
                              refine G_goto 109 dr_cX17_graph_287 (by decide +kernel) ?_
                              refine G_lv (L' := [(5, .int z325939), (4, .ref q323879), (3, .int g323216), (0, .ref q270165), (1, .ref q270166), (2, .int p270167)]) [0, 6, 7, 8, 9, 10] rfl ?_
                              exact ih109_325633 F325925 z325939 (gB_w bz325939 (by decide) (by decide)) hT325926 hs325935 (by omega) (fun h0 => by have z := x325867 h0; rw [← kp325937] at z; rw [show ((g325627.toInt : Int).toNat : Nat) = (z325939.toInt + 1 : Int).toNat by omega] at z; exact z) kp325936 (mz_dn ez325939 (Int.le_trans (by decide) bg325627'.1) hm109_325633)
                            · have r325940 : g325863.toInt < 32 := gj_nleL hc325881 (show Int32.toInt 32 = 32 by decide)
                              have bg325863' : gB g325863 0 31 := ⟨by omega, by omega⟩
                              refine G_aload_n 8 dr_cX17_graph_217 rfl ?_
                              refine Gp_get 1 hm325880 he325879 dr_cX17_graph_218 (gk_X17 D I) (Nat.le_of_ble_eq_true rfl) wr_7_75 rfl ?_
                              refine G_iload 3 dr_cX17_graph_221 rfl ?_
                              have hm325941 : (γ 9 1) ∈ P270163 := RS_m hT325865 ht270192 (by decide)
                              obtain ⟨f325943, he325942, hg325944⟩ := show rk_13 I γ (F325864 (γ 9 1)) from RS_o hT325865 ht270192
                              obtain ⟨q325945, hx325947⟩ : ∃ x, x = γ 11 o325724.toInt.toNat := ⟨_, rfl⟩
                              have ht325946 : rKd γ q325945 36 := by rw [hx325947]; exact (hg325944 _ (show o325724.toInt.toNat < 2000 by omega)).2.1
                              refine Gp_aald 5 hm325941 he325942 dr_cX17_graph_223 rfl rfl (gB_in bo325724' (by decide) (by decide)) ?_
                              rw [show f325943 o325724.toNatClampNeg = some q325945 from (hg325944 _ (show o325724.toInt.toNat < 2000 by omega)).1.trans (by rw [hx325947])]
                              change G _ _ _ _ _ _ _ (.ref q325945 :: _) _ _ _
                              refine G_iload 0 dr_cX17_graph_224 rfl ?_
                              refine G_dup2_11 dr_cX17_graph_226 rfl rfl ?_
                              have hm325948 : q325945 ∈ P270163 := RS_m hT325865 ht325946 (by decide)
                              obtain ⟨f325950, he325949, wf325950⟩ := show rk_36 I (F325864 q325945) from RS_o hT325865 ht325946
                              refine Gp_lald 2 hm325948 he325949 dr_cX17_graph_227 rfl (gB_in bg325863' (by decide) (by decide)) (G_namL fun u325951 hu325951 => ?_)
                              have qu325951 : lb_Q u325951 (2000 - 64 * g325863.toInt) := lb_Wld hu325951 wf325950 (by omega) (by omega) (lb_Mod0 (by omega) (by omega))
                              refine G_aload_n 8 dr_cX17_graph_228 rfl ?_
                              refine Gp_get 2 hm325880 he325879 dr_cX17_graph_229 (gk_X17 D I) (Nat.le_of_ble_eq_true rfl) wr_7_76 rfl ?_
                              refine G_iload 0 dr_cX17_graph_232 rfl ?_
                              have hm325952 : (γ 9 2) ∈ P270163 := RS_m hT325865 ht270193 (by decide)
                              obtain ⟨f325954, he325953, wf325954⟩ := show rk_35 I (F325864 (γ 9 2)) from RS_o hT325865 ht270193
                              refine Gp_lald 2 hm325952 he325953 dr_cX17_graph_234 rfl (gB_in bg325863' (by decide) (by decide)) (G_namL fun u325955 hu325955 => ?_)
                              have qu325955 : lb_Q u325955 (2000 - 64 * g325863.toInt) := lb_Wld hu325955 wf325954 (by omega) (by omega) (lb_Mod0 (by omega) (by omega))
                              refine G_lor dr_cX17_graph_235 (G_namL fun u325956 hu325956 => ?_)
                              have qu325956 : lb_Q u325956 (2000 - 64 * g325863.toInt) := lb_Qor hu325956 qu325951 qu325955
                              refine Gp_last 2 hm325948 he325949 dr_cX17_graph_236 rfl (gB_in bg325863' (by decide) (by decide)) (fun F325957 e325958 n325959 => ?_)
                              obtain ⟨f325960, hf325960⟩ : ∃ z, z = vp_updL f325950 g325863.toNatClampNeg u325956 := ⟨_, rfl⟩
                              rw [← hf325960] at e325958
                              have he325961 : F325957 q270166 = .inr (18, [.ref q323229, .ref q323230, .int p323231, .int p323232]) := (n325959 q270166 (rn_oa he325871 he325949)).trans he325871
                              have he325962 : F325957 q323229 = .inr (4, [.int p323860, .ref q323862, .int p323861]) := (n325959 q323229 (rn_oa he325872 he325949)).trans he325872
                              have he325963 : F325957 q323862 = .inl (I (.object "java/lang/Object"), n323876, .inr (.inr (.inr (.inr f323877)))) := (n325959 q323862 (rn_ref_long he325873 he325949)).trans he325873
                              have he325964 : F325957 q323879 = .inr (17, [.ref q323888, .ref q323889, .int p323890, .int p323891]) := (n325959 q323879 (rn_oa he325874 he325949)).trans he325874
                              have he325965 : F325957 q323888 = .inr (4, [.int p325651, .ref q325653, .int p325652]) := (n325959 q323888 (rn_oa he325875 he325949)).trans he325875
                              have he325966 : F325957 q325653 = .inl (I (.object "java/lang/Object"), n325667, .inr (.inr (.inr (.inr f325668)))) := (n325959 q325653 (rn_ref_long he325876 he325949)).trans he325876
                              have he325967 : F325957 q325670 = .inr (20, [.int p325683, .int p325684, .int p325685, .int p325686, .int p325687, .int p325688, .int p325689]) := (n325959 q325670 (rn_oa he325877 he325949)).trans he325877
                              have he325968 : F325957 q270165 = .inr (22, [.ref (γ 9 0), .ref (γ 9 1), .ref (γ 9 2), .ref (γ 9 3), .ref (γ 9 4), .ref (γ 9 5), .ref (γ 9 6), .ref (γ 9 7), .ref (γ 9 8), .int p270174, .int p270175, .int p270176, .int p270177, .int p270178, .int p270179, .ref (γ 9 15), .ref (γ 9 16), .ref (γ 9 17), .ref (γ 9 18), .ref (γ 9 19), .ref (γ 9 20), .ref (γ 9 21), .ref (γ 9 22), .int p270180, .int p270181, .int p270182, .int p270183, .int p270184, .ref q270172, .ref (γ 9 29), .int p270185, .ref (γ 9 31), .int p270186, .int p270187, .int p270188, .ref q270173]) := (n325959 q270165 (rn_oa he325879 he325949)).trans he325879
                              have he325969 : F325957 (γ 9 1) = .inl (I (.array .long), 2000, .inr (.inr (.inr (.inr f325943)))) := (n325959 (γ 9 1) (rn_ref_long he325942 he325949)).trans he325942
                              have he325970 : F325957 (γ 9 2) = .inl (I .long, 32, .inr (.inl f325954)) := (n325959 (γ 9 2) (rn_ty ht270193 ht325946 (by decide))).trans he325953
                              have he325971 : F325957 q325945 = .inl (I .long, 32, .inr (.inl f325960)) := e325958
                              have hs325972 : rStr γ [] F270164 F325957 := rStr_put hs325866 n325959 ht325946 (by decide)
                              have kp325973 : F325957 q270165 = F270164 q270165 := (n325959 q270165 (rn_ty htq270165 ht325946 (by decide))).trans x325868
                              have kp325974 : F325957 (γ 9 3) = F325864 (γ 9 3) := n325959 (γ 9 3) (rn_ty ht270194 ht325946 (by decide))
                              have wf325960 : lb_W f325960 (32) (32) (2000) := lb_Wst hf325960 wf325950 (by omega) (lb_Mod0 (by omega) (by omega)) qu325956
                              obtain ⟨z325975, hz325975⟩ : ∃ z : Int32, z = g325863 + Int32.ofInt 1 := ⟨_, rfl⟩
                              have ez325975 : z325975.toInt = g325863.toInt + 1 := gI_inc hz325975 (by decide) bg325863' (by decide) (by decide)
                              have bz325975 : gB z325975 1 32 := ⟨by omega, by omega⟩
                              refine G_iinc (L' := [(10, .int z325975), (9, .int 0), (8, .int (-1)), (7, .int o325724), (6, .ref q325670), (5, .int g325627), (4, .ref q323879), (3, .int g323216), (0, .ref q270165), (1, .ref q270166), (2, .int p270167)]) z325975 0 dr_cX17_graph_237 rfl hz325975.symm (Nat.le_of_ble_eq_true rfl) rfl ?_
                              refine G_goto 210 dr_cX17_graph_240 (by decide +kernel) ?_
                              have hT325976 : RS D I P270163 F325957 γ el := RS_set hT325865 n325959 ht325946 (by decide) ⟨f325960, he325971, wf325960⟩
                              exact ih210_325868 F325957 z325975 (gB_w bz325975 (by decide) (by decide)) hT325976 hs325972 (by rw [kp325974]; exact x325867) kp325973 (mz_up ez325975 (Int.le_trans bg325863'.2 (by decide)) hm210_325868)
                        exact hlp210_325868 (((33 : Int) - 0).toNat + 1) F325702 0 (gB_w (gBl (show Int32.toInt 0 = 0 by decide)) (by decide) (by decide)) hT325703 hs325712 gr325718 kp325713 (Nat.lt_succ_self _)
                    · have r325977 : p270167.toInt = 0 := gj_eq hc325725 (show Int32.toInt 0 = 0 by decide)
                      have bp270167' : gB p270167 0 0 := gB_t0 r325977
                      refine G_aload 1 dr_cX17_graph_148 rfl ?_
                      refine Gp_get 0 hm325681 he325711 dr_cX17_graph_150 (gk_X15 D I) (Nat.le_of_ble_eq_true rfl) wr_9_173 rfl ?_
                      refine G_if_ne 172 dr_cX17_graph_153 (by decide +kernel) (fun hc325978 => ?_) (fun hc325978 => ?_)
                      · have r325979 : p325683.toInt ≠ 0 := gj_neq hc325978 (show Int32.toInt 0 = 0 by decide)
                        have bp325683' : gB p325683 1 32 := ⟨by omega, by omega⟩
                        refine G_iconst (-1) dr_cX17_graph_172 (by decide +kernel) ?_
                        refine G_istore (L' := [(8, .int (-1)), (7, .int o325724), (6, .ref q325670), (5, .int g325627), (4, .ref q323879), (3, .int g323216), (0, .ref q270165), (1, .ref q270166), (2, .int p270167)]) dr_cX17_graph_173 (Nat.le_of_ble_eq_true rfl) rfl ?_
                        refine G_iload 1 dr_cX17_graph_175 rfl ?_
                        refine G_if_lt 277 dr_cX17_graph_177 (by decide +kernel) (fun hc325980 => ?_) (fun hc325980 => ?_)
                        · have r325981 : o325724.toInt < 0 := gj_lt hc325980 (show Int32.toInt 0 = 0 by decide)
                          have bo325724' : gB o325724 (-1) (-1) := ⟨by omega, by omega⟩
                          refine G_aload_n 6 dr_cX17_graph_277 rfl ?_
                          refine G_aload 2 dr_cX17_graph_278 rfl ?_
                          refine G_iload_n 8 dr_cX17_graph_280 rfl ?_
                          refine Gw_callV (As := [.ref q325670, .int p270167]) (gV_ok D I) (ct_276878_SpillForgeModel_back l hl0 D I γ el P270163 F325702 q270165 q325670 p270167 hT325703 htq270165 ht325673 (gB_w bp270167' (by decide) (by decide))) dr_cX17_graph_281 ⟨wr_10_170, wr_1_14, wr_10_173, by decide, rfl, (Nat.le_of_ble_eq_true rfl), (Nat.le_of_ble_eq_true rfl)⟩ wr_10_172 wr_p_96 hm325643 he325714 rfl (show 0 + 0 ≤ 0 by first | omega | decide) (show 0 + 0 ≤ 0 by first | omega | decide) (Nat.le_of_ble_eq_true rfl) (fun r325985 w325986 dc325982 ds325983 hp325984 => ?_) (fun _ _ _ _ _ z => z.elim)
                          obtain ⟨F325989, rfl, rfl, hT325990, hs325991, hdc, hds, x325987, x325988⟩ := hp325984
                          have he325992 : F325989 q270166 = .inr (18, [.ref q323229, .ref q323230, .int p323231, .int p323232]) := (hs325991 q270166 (rT0 htq270166 (by decide)) (rT1 htq270166 (by decide)) (rT2 htq270166 (by decide))).trans he325705
                          have he325993 : F325989 q323229 = .inr (4, [.int p323860, .ref q323862, .int p323861]) := (hs325991 q323229 (rT0 ht323233 (by decide)) (rT1 ht323233 (by decide)) (rT2 ht323233 (by decide))).trans he325706
                          have he325994 : F325989 q323862 = .inl (I (.object "java/lang/Object"), n323876, .inr (.inr (.inr (.inr f323877)))) := (hs325991 q323862 (rT0 r323868 (by decide)) (rT1 r323868 (by decide)) (rT2 r323868 (by decide))).trans he325707
                          have he325995 : F325989 q323879 = .inr (17, [.ref q323888, .ref q323889, .int p323890, .int p323891]) := (hs325991 q323879 (rT0 ht323884 (by decide)) (rT1 ht323884 (by decide)) (rT2 ht323884 (by decide))).trans he325708
                          have he325996 : F325989 q323888 = .inr (4, [.int p325651, .ref q325653, .int p325652]) := (hs325991 q323888 (rT0 ht323892 (by decide)) (rT1 ht323892 (by decide)) (rT2 ht323892 (by decide))).trans he325709
                          have he325997 : F325989 q325653 = .inl (I (.object "java/lang/Object"), n325667, .inr (.inr (.inr (.inr f325668)))) := (hs325991 q325653 (rT0 r325659 (by decide)) (rT1 r325659 (by decide)) (rT2 r325659 (by decide))).trans he325710
                          have he325998 : F325989 q325670 = .inr (20, [.int p325683, .int p325684, .int p325685, .int p325686, .int p325687, .int p325688, .int p325689]) := (hs325991 q325670 (rT0 ht325673 (by decide)) (rT1 ht325673 (by decide)) (rT2 ht325673 (by decide))).trans he325711
                          have hs325999 : rStr γ [] F270164 F325989 := rStr_tr hs325712 hs325991
                          have kp326000 : F325989 q270165 = F270164 q270165 := (x325987).trans kp325713
                          have kp326001 : F325989 (γ 9 3) = F325702 (γ 9 3) := x325988
                          have he326002 : F325989 q270165 = .inr (22, [.ref (γ 9 0), .ref (γ 9 1), .ref (γ 9 2), .ref (γ 9 3), .ref (γ 9 4), .ref (γ 9 5), .ref (γ 9 6), .ref (γ 9 7), .ref (γ 9 8), .int p270174, .int p270175, .int p270176, .int p270177, .int p270178, .int p270179, .ref (γ 9 15), .ref (γ 9 16), .ref (γ 9 17), .ref (γ 9 18), .ref (γ 9 19), .ref (γ 9 20), .ref (γ 9 21), .ref (γ 9 22), .int p270180, .int p270181, .int p270182, .int p270183, .int p270184, .ref q270172, .ref (γ 9 29), .int p270185, .ref (γ 9 31), .int p270186, .int p270187, .int p270188, .ref q270173]) := (x325987).trans he325714
                          change G _ _ _ _ _ _ _ _ _ _ _
                          refine G_widen (cs' := 0) (sl' := 0) (by omega) (by omega) ?_
                          obtain ⟨z326003, hz326003⟩ : ∃ z : Int32, z = g325627 + Int32.ofInt (-1) := ⟨_, rfl⟩
                          have ez326003 : z326003.toInt = g325627.toInt + (-1) := gI_inc hz326003 (by decide) bg325627' (by decide) (by decide)
                          have bz326003 : gB z326003 (-1) 999998 := ⟨by omega, by omega⟩
                          refine G_iinc (L' := [(5, .int z326003), (8, .int (-1)), (7, .int o325724), (6, .ref q325670), (4, .ref q323879), (3, .int g323216), (0, .ref q270165), (1, .ref q270166), (2, .int p270167)]) z326003 3 dr_cX17_graph_284 rfl hz326003.symm (Nat.le_of_ble_eq_true rfl) rfl ?_
                          refine G_goto 109 dr_cX17_graph_287 (by decide +kernel) ?_
                          refine G_lv (L' := [(5, .int z326003), (4, .ref q323879), (3, .int g323216), (0, .ref q270165), (1, .ref q270166), (2, .int p270167)]) [0, 4, 5, 6, 7, 8] rfl ?_
                          exact ih109_325633 F325989 z326003 (gB_w bz326003 (by decide) (by decide)) hT325990 hs325999 (by omega) (fun h0 => by have z := gr325718 h0; rw [← kp326001] at z; rw [show ((g325627.toInt : Int).toNat : Nat) = (z326003.toInt + 1 : Int).toNat by omega] at z; exact z) kp326000 (mz_dn ez326003 (Int.le_trans (by decide) bg325627'.1) hm109_325633)
                        · have r326004 : 0 ≤ o325724.toInt := gj_nlt hc325980 (show Int32.toInt 0 = 0 by decide)
                          have bo325724' : gB o325724 0 1999 := ⟨by omega, by omega⟩
                          refine G_iload 0 dr_cX17_graph_180 rfl ?_
                          refine G_if_lt 204 dr_cX17_graph_182 (by decide +kernel) (fun _ => ?_) (fun hc => absurd hc (by decide))
                          refine G_iconst 0 dr_cX17_graph_204 (by decide +kernel) ?_
                          refine G_istore (L' := [(9, .int 0), (8, .int (-1)), (7, .int o325724), (6, .ref q325670), (5, .int g325627), (4, .ref q323879), (3, .int g323216), (0, .ref q270165), (1, .ref q270166), (2, .int p270167)]) dr_cX17_graph_205 (Nat.le_of_ble_eq_true rfl) rfl ?_
                          refine G_iconst 0 dr_cX17_graph_207 (by decide +kernel) ?_
                          refine G_istore (L' := [(10, .int 0), (9, .int 0), (8, .int (-1)), (7, .int o325724), (6, .ref q325670), (5, .int g325627), (4, .ref q323879), (3, .int g323216), (0, .ref q270165), (1, .ref q270166), (2, .int p270167)]) dr_cX17_graph_208 (Nat.le_of_ble_eq_true rfl) rfl ?_
                          have hlp210_326121 : ∀ (n210_326121 : Nat) (F326117 : Nat → va_E) (g326116 : Int32), gB g326116 0 32 → RS D I P270163 F326117 γ el → rStr γ [] F270164 F326117 → (gIp (p270167.toInt = 0) (rGr γ el F270164 q270166 (γ 6 (γ 1 q270166)) (cB (F326117 (γ 9 3))) (vB (g323216.toInt : Int).toNat (g325627.toInt : Int).toNat))) → (F326117 q270165 = F270164 q270165) → ((33 : Int) - g326116.toInt).toNat < n210_326121 → G (gV D I) l (gRm 5 111 0 0) (gMA (gV D I) (pt_270169_SpillForgeModel_graph D I γ el P270163 F270164 q270165 q270166 p270167) gNA 0 0) ky_270169_SpillForgeModel_graph 210 [(10, .int g326116), (9, .int 0), (8, .int (-1)), (7, .int o325724), (6, .ref q325670), (5, .int g325627), (4, .ref q323879), (3, .int g323216), (0, .ref q270165), (1, .ref q270166), (2, .int p270167)] [] (va_pl P270163 F326117) 0 0 := by
                            intro n210_326121
                            induction n210_326121 with
                            | zero => intro F326117 g326116 bg326116 hT326118 hs326119 x326120 x326121 hm210_326121; exact absurd hm210_326121 (Nat.not_lt_zero _)
                            | succ n210_326121 ih210_326121 =>
                              intro F326117 g326116 bg326116 hT326118 hs326119 x326120 x326121 hm210_326121
                              have hs326123 : rStr γ [] F325702 F326117 := fun b h0 hb hw => (hs326119 b h0 hb hw).trans (hs325712 b h0 hb hw).symm
                              have he326124 : F326117 q270166 = .inr (18, [.ref q323229, .ref q323230, .int p323231, .int p323232]) := (hs326123 q270166 (rT0 htq270166 (by decide)) (rT1 htq270166 (by decide)) (rT2 htq270166 (by decide))).trans he325705
                              have he326125 : F326117 q323229 = .inr (4, [.int p323860, .ref q323862, .int p323861]) := (hs326123 q323229 (rT0 ht323233 (by decide)) (rT1 ht323233 (by decide)) (rT2 ht323233 (by decide))).trans he325706
                              have he326126 : F326117 q323862 = .inl (I (.object "java/lang/Object"), n323876, .inr (.inr (.inr (.inr f323877)))) := (hs326123 q323862 (rT0 r323868 (by decide)) (rT1 r323868 (by decide)) (rT2 r323868 (by decide))).trans he325707
                              have he326127 : F326117 q323879 = .inr (17, [.ref q323888, .ref q323889, .int p323890, .int p323891]) := (hs326123 q323879 (rT0 ht323884 (by decide)) (rT1 ht323884 (by decide)) (rT2 ht323884 (by decide))).trans he325708
                              have he326128 : F326117 q323888 = .inr (4, [.int p325651, .ref q325653, .int p325652]) := (hs326123 q323888 (rT0 ht323892 (by decide)) (rT1 ht323892 (by decide)) (rT2 ht323892 (by decide))).trans he325709
                              have he326129 : F326117 q325653 = .inl (I (.object "java/lang/Object"), n325667, .inr (.inr (.inr (.inr f325668)))) := (hs326123 q325653 (rT0 r325659 (by decide)) (rT1 r325659 (by decide)) (rT2 r325659 (by decide))).trans he325710
                              have he326130 : F326117 q325670 = .inr (20, [.int p325683, .int p325684, .int p325685, .int p325686, .int p325687, .int p325688, .int p325689]) := (hs326123 q325670 (rT0 ht325673 (by decide)) (rT1 ht325673 (by decide)) (rT2 ht325673 (by decide))).trans he325711
                              have hs326131 : rStr γ [] F270164 F326117 := rStr_tr hs325712 hs326123
                              have he326132 : F326117 q270165 = .inr (22, [.ref (γ 9 0), .ref (γ 9 1), .ref (γ 9 2), .ref (γ 9 3), .ref (γ 9 4), .ref (γ 9 5), .ref (γ 9 6), .ref (γ 9 7), .ref (γ 9 8), .int p270174, .int p270175, .int p270176, .int p270177, .int p270178, .int p270179, .ref (γ 9 15), .ref (γ 9 16), .ref (γ 9 17), .ref (γ 9 18), .ref (γ 9 19), .ref (γ 9 20), .ref (γ 9 21), .ref (γ 9 22), .int p270180, .int p270181, .int p270182, .int p270183, .int p270184, .ref q270172, .ref (γ 9 29), .int p270185, .ref (γ 9 31), .int p270186, .int p270187, .int p270188, .ref q270173]) := x326121.trans he270171
                              have hm326133 : q270165 ∈ P270163 := RS_m hT326118 htq270165 (by decide)
                              refine G_iload 0 dr_cX17_graph_210 rfl ?_
                              refine G_bipush 32 dr_cX17_graph_212 (by decide +kernel) ?_
                              refine G_icmp_ge 243 dr_cX17_graph_214 (by decide +kernel) (fun hc326134 => ?_) (fun hc326134 => ?_)
                              · have r326135 : 32 ≤ g326116.toInt := gj_leL hc326134 (show Int32.toInt 32 = 32 by decide)
                                have bg326116' : gB g326116 32 32 := ⟨by omega, by omega⟩
                                refine G_iload 2 dr_cX17_graph_243 rfl ?_
                                refine G_if_lt 265 dr_cX17_graph_245 (by decide +kernel) (fun _ => ?_) (fun hc => absurd hc (by decide))
                                refine G_aload_n 8 dr_cX17_graph_265 rfl ?_
                                refine Gp_get 1 hm326133 he326132 dr_cX17_graph_266 (gk_X17 D I) (Nat.le_of_ble_eq_true rfl) wr_7_75 rfl ?_
                                refine G_iload 3 dr_cX17_graph_269 rfl ?_
                                have hm326136 : (γ 9 1) ∈ P270163 := RS_m hT326118 ht270192 (by decide)
                                obtain ⟨f326138, he326137, hg326139⟩ := show rk_13 I γ (F326117 (γ 9 1)) from RS_o hT326118 ht270192
                                obtain ⟨q326140, hx326142⟩ : ∃ x, x = γ 11 o325724.toInt.toNat := ⟨_, rfl⟩
                                have ht326141 : rKd γ q326140 36 := by rw [hx326142]; exact (hg326139 _ (show o325724.toInt.toNat < 2000 by omega)).2.1
                                refine Gp_aald 5 hm326136 he326137 dr_cX17_graph_271 rfl rfl (gB_in bo325724' (by decide) (by decide)) ?_
                                rw [show f326138 o325724.toNatClampNeg = some q326140 from (hg326139 _ (show o325724.toInt.toNat < 2000 by omega)).1.trans (by rw [hx326142])]
                                change G _ _ _ _ _ _ _ (.ref q326140 :: _) _ _ _
                                refine G_iload 3 dr_cX17_graph_272 rfl ?_
                                have hm326143 : q326140 ∈ P270163 := RS_m hT326118 ht326141 (by decide)
                                obtain ⟨f326145, he326144, wf326145⟩ := show rk_36 I (F326117 q326140) from RS_o hT326118 ht326141
                                refine Gw_callS (As := [.ref q326140, .int o325724]) (gV_ok D I) (cp_1873_SpillForgeModel_clear l hl0 D I P270163 F326117 q326140 o325724 f326145 hm326143 he326144 bo325724' wf326145) dr_cX17_graph_274 ⟨wr_10_181, wr_1_14, wr_10_183, by decide, rfl, (Nat.le_of_ble_eq_true rfl), (Nat.le_of_ble_eq_true rfl)⟩ wr_10_182 (show 0 + 0 ≤ 0 by first | omega | decide) (show 0 + 0 ≤ 0 by first | omega | decide) (Nat.le_of_ble_eq_true rfl) (fun r326149 w326150 dc326146 ds326147 hp326148 => ?_) (fun _ _ _ _ _ z => z.elim)
                                obtain ⟨F326153, f326151, rfl, rfl, hfr326155, he326156, hdc, hds, x326152⟩ := hp326148
                                have he326157 : F326153 q270166 = .inr (18, [.ref q323229, .ref q323230, .int p323231, .int p323232]) := (hfr326155 q270166 hm323227 (nm_c (rn_oa he326124 he326144) nm_n)).trans he326124
                                have he326158 : F326153 q323229 = .inr (4, [.int p323860, .ref q323862, .int p323861]) := (hfr326155 q323229 hm323858 (nm_c (rn_oa he326125 he326144) nm_n)).trans he326125
                                have he326159 : F326153 q323862 = .inl (I (.object "java/lang/Object"), n323876, .inr (.inr (.inr (.inr f323877)))) := (hfr326155 q323862 hm323878 (nm_c (rn_ref_long he326126 he326144) nm_n)).trans he326126
                                have he326160 : F326153 q323879 = .inr (17, [.ref q323888, .ref q323889, .int p323890, .int p323891]) := (hfr326155 q323879 hm323886 (nm_c (rn_oa he326127 he326144) nm_n)).trans he326127
                                have he326161 : F326153 q323888 = .inr (4, [.int p325651, .ref q325653, .int p325652]) := (hfr326155 q323888 hm325649 (nm_c (rn_oa he326128 he326144) nm_n)).trans he326128
                                have he326162 : F326153 q325653 = .inl (I (.object "java/lang/Object"), n325667, .inr (.inr (.inr (.inr f325668)))) := (hfr326155 q325653 hm325669 (nm_c (rn_ref_long he326129 he326144) nm_n)).trans he326129
                                have he326163 : F326153 q325670 = .inr (20, [.int p325683, .int p325684, .int p325685, .int p325686, .int p325687, .int p325688, .int p325689]) := (hfr326155 q325670 hm325681 (nm_c (rn_oa he326130 he326144) nm_n)).trans he326130
                                have he326164 : F326153 q270165 = .inr (22, [.ref (γ 9 0), .ref (γ 9 1), .ref (γ 9 2), .ref (γ 9 3), .ref (γ 9 4), .ref (γ 9 5), .ref (γ 9 6), .ref (γ 9 7), .ref (γ 9 8), .int p270174, .int p270175, .int p270176, .int p270177, .int p270178, .int p270179, .ref (γ 9 15), .ref (γ 9 16), .ref (γ 9 17), .ref (γ 9 18), .ref (γ 9 19), .ref (γ 9 20), .ref (γ 9 21), .ref (γ 9 22), .int p270180, .int p270181, .int p270182, .int p270183, .int p270184, .ref q270172, .ref (γ 9 29), .int p270185, .ref (γ 9 31), .int p270186, .int p270187, .int p270188, .ref q270173]) := (hfr326155 q270165 hm326133 (nm_c (rn_oa he326132 he326144) nm_n)).trans he326132
                                have he326165 : F326153 (γ 9 1) = .inl (I (.array .long), 2000, .inr (.inr (.inr (.inr f326138)))) := (hfr326155 (γ 9 1) hm326136 (nm_c (rn_ref_long he326137 he326144) nm_n)).trans he326137
                                have hfr326166 : rFr [q326140] P270163 F326117 F326153 := rFr_call (rSub_rf (P := P270163)) (rFr_rf (W := []) (P := P270163) (F := F326117)) hfr326155 (fun b hb hn => ⟨nm_n, (nm_c (fun e => hn (e ▸ List.mem_cons_self)) nm_n)⟩)
                                change G _ _ _ _ _ _ _ _ _ _ _
                                refine G_widen (cs' := 0) (sl' := 0) (by omega) (by omega) ?_
                                have hT326167 : RS D I P270163 F326153 γ el := RS_fr hT326118 hfr326166 ht326141 (by decide) ⟨f326151, he326156, x326152⟩
                                have hs326168 : rStr γ [] F270164 F326153 := rStr_fr hT326118 hs326119 hfr326166 ht326141 (by decide)
                                have kp326169 : F326153 q270165 = F270164 q270165 := (hfr326166 q270165 (RS_m hT326118 htq270165 (by decide)) (nm_c (rn_ty htq270165 ht326141 (by decide)) nm_n)).trans x326121
                                have kp326170 : F326153 (γ 9 3) = F326117 (γ 9 3) := hfr326166 (γ 9 3) (RS_m hT326118 ht270194 (by decide)) (nm_c (rn_ty ht270194 ht326141 (by decide)) nm_n)
                                refine G_aload_n 8 dr_cX17_graph_277 rfl ?_
                                refine G_aload 4 dr_cX17_graph_278 rfl ?_
                                refine G_iload_n 10 dr_cX17_graph_280 rfl ?_
                                refine Gw_callV (As := [.ref q325670, .int p270167]) (gV_ok D I) (ct_276878_SpillForgeModel_back l hl0 D I γ el P270163 F326153 q270165 q325670 p270167 hT326167 htq270165 ht325673 (gB_w bp270167' (by decide) (by decide))) dr_cX17_graph_281 ⟨wr_10_170, wr_1_14, wr_10_173, by decide, rfl, (Nat.le_of_ble_eq_true rfl), (Nat.le_of_ble_eq_true rfl)⟩ wr_10_172 wr_p_96 hm326133 he326164 rfl (show 0 + 0 ≤ 0 by first | omega | decide) (show 0 + 0 ≤ 0 by first | omega | decide) (Nat.le_of_ble_eq_true rfl) (fun r326174 w326175 dc326171 ds326172 hp326173 => ?_) (fun _ _ _ _ _ z => z.elim)
                                obtain ⟨F326178, rfl, rfl, hT326179, hs326180, hdc, hds, x326176, x326177⟩ := hp326173
                                have he326181 : F326178 q270166 = .inr (18, [.ref q323229, .ref q323230, .int p323231, .int p323232]) := (hs326180 q270166 (rT0 htq270166 (by decide)) (rT1 htq270166 (by decide)) (rT2 htq270166 (by decide))).trans he326157
                                have he326182 : F326178 q323229 = .inr (4, [.int p323860, .ref q323862, .int p323861]) := (hs326180 q323229 (rT0 ht323233 (by decide)) (rT1 ht323233 (by decide)) (rT2 ht323233 (by decide))).trans he326158
                                have he326183 : F326178 q323862 = .inl (I (.object "java/lang/Object"), n323876, .inr (.inr (.inr (.inr f323877)))) := (hs326180 q323862 (rT0 r323868 (by decide)) (rT1 r323868 (by decide)) (rT2 r323868 (by decide))).trans he326159
                                have he326184 : F326178 q323879 = .inr (17, [.ref q323888, .ref q323889, .int p323890, .int p323891]) := (hs326180 q323879 (rT0 ht323884 (by decide)) (rT1 ht323884 (by decide)) (rT2 ht323884 (by decide))).trans he326160
                                have he326185 : F326178 q323888 = .inr (4, [.int p325651, .ref q325653, .int p325652]) := (hs326180 q323888 (rT0 ht323892 (by decide)) (rT1 ht323892 (by decide)) (rT2 ht323892 (by decide))).trans he326161
                                have he326186 : F326178 q325653 = .inl (I (.object "java/lang/Object"), n325667, .inr (.inr (.inr (.inr f325668)))) := (hs326180 q325653 (rT0 r325659 (by decide)) (rT1 r325659 (by decide)) (rT2 r325659 (by decide))).trans he326162
                                have he326187 : F326178 q325670 = .inr (20, [.int p325683, .int p325684, .int p325685, .int p325686, .int p325687, .int p325688, .int p325689]) := (hs326180 q325670 (rT0 ht325673 (by decide)) (rT1 ht325673 (by decide)) (rT2 ht325673 (by decide))).trans he326163
                                have hs326188 : rStr γ [] F270164 F326178 := rStr_tr hs326168 hs326180
                                have kp326189 : F326178 q270165 = F270164 q270165 := (x326176).trans kp326169
                                have kp326190 : F326178 (γ 9 3) = F326117 (γ 9 3) := (x326177).trans kp326170
                                have he326191 : F326178 q270165 = .inr (22, [.ref (γ 9 0), .ref (γ 9 1), .ref (γ 9 2), .ref (γ 9 3), .ref (γ 9 4), .ref (γ 9 5), .ref (γ 9 6), .ref (γ 9 7), .ref (γ 9 8), .int p270174, .int p270175, .int p270176, .int p270177, .int p270178, .int p270179, .ref (γ 9 15), .ref (γ 9 16), .ref (γ 9 17), .ref (γ 9 18), .ref (γ 9 19), .ref (γ 9 20), .ref (γ 9 21), .ref (γ 9 22), .int p270180, .int p270181, .int p270182, .int p270183, .int p270184, .ref q270172, .ref (γ 9 29), .int p270185, .ref (γ 9 31), .int p270186, .int p270187, .int p270188, .ref q270173]) := (x326176).trans he326164
                                change G _ _ _ _ _ _ _ _ _ _ _
                                refine G_widen (cs' := 0) (sl' := 0) (by omega) (by omega) ?_
                                obtain ⟨z326192, hz326192⟩ : ∃ z : Int32, z = g325627 + Int32.ofInt (-1) := ⟨_, rfl⟩
                                have ez326192 : z326192.toInt = g325627.toInt + (-1) := gI_inc hz326192 (by decide) bg325627' (by decide) (by decide)
                                have bz326192 : gB z326192 (-1) 999998 := ⟨by omega, by omega⟩
                                refine G_iinc (L' := [(5, .int z326192), (10, .int g326116), (9, .int 0), (8, .int (-1)), (7, .int o325724), (6, .ref q325670), (4, .ref q323879), (3, .int g323216), (0, .ref q270165), (1, .ref q270166), (2, .int p270167)]) z326192 5 dr_cX17_graph_284 rfl hz326192.symm (Nat.le_of_ble_eq_true rfl) rfl ?_
                                refine G_goto 109 dr_cX17_graph_287 (by decide +kernel) ?_
                                refine G_lv (L' := [(5, .int z326192), (4, .ref q323879), (3, .int g323216), (0, .ref q270165), (1, .ref q270166), (2, .int p270167)]) [0, 6, 7, 8, 9, 10] rfl ?_
                                exact ih109_325633 F326178 z326192 (gB_w bz326192 (by decide) (by decide)) hT326179 hs326188 (by omega) (fun h0 => by have z := x326120 h0; rw [← kp326190] at z; rw [show ((g325627.toInt : Int).toNat : Nat) = (z326192.toInt + 1 : Int).toNat by omega] at z; exact z) kp326189 (mz_dn ez326192 (Int.le_trans (by decide) bg325627'.1) hm109_325633)
                              · have r326193 : g326116.toInt < 32 := gj_nleL hc326134 (show Int32.toInt 32 = 32 by decide)
                                have bg326116' : gB g326116 0 31 := ⟨by omega, by omega⟩
                                refine G_aload_n 8 dr_cX17_graph_217 rfl ?_
                                refine Gp_get 1 hm326133 he326132 dr_cX17_graph_218 (gk_X17 D I) (Nat.le_of_ble_eq_true rfl) wr_7_75 rfl ?_
                                refine G_iload 3 dr_cX17_graph_221 rfl ?_
                                have hm326194 : (γ 9 1) ∈ P270163 := RS_m hT326118 ht270192 (by decide)
                                obtain ⟨f326196, he326195, hg326197⟩ := show rk_13 I γ (F326117 (γ 9 1)) from RS_o hT326118 ht270192
                                obtain ⟨q326198, hx326200⟩ : ∃ x, x = γ 11 o325724.toInt.toNat := ⟨_, rfl⟩
                                have ht326199 : rKd γ q326198 36 := by rw [hx326200]; exact (hg326197 _ (show o325724.toInt.toNat < 2000 by omega)).2.1
                                refine Gp_aald 5 hm326194 he326195 dr_cX17_graph_223 rfl rfl (gB_in bo325724' (by decide) (by decide)) ?_
                                rw [show f326196 o325724.toNatClampNeg = some q326198 from (hg326197 _ (show o325724.toInt.toNat < 2000 by omega)).1.trans (by rw [hx326200])]
                                change G _ _ _ _ _ _ _ (.ref q326198 :: _) _ _ _
                                refine G_iload 0 dr_cX17_graph_224 rfl ?_
                                refine G_dup2_11 dr_cX17_graph_226 rfl rfl ?_
                                have hm326201 : q326198 ∈ P270163 := RS_m hT326118 ht326199 (by decide)
                                obtain ⟨f326203, he326202, wf326203⟩ := show rk_36 I (F326117 q326198) from RS_o hT326118 ht326199
                                refine Gp_lald 2 hm326201 he326202 dr_cX17_graph_227 rfl (gB_in bg326116' (by decide) (by decide)) (G_namL fun u326204 hu326204 => ?_)
                                have qu326204 : lb_Q u326204 (2000 - 64 * g326116.toInt) := lb_Wld hu326204 wf326203 (by omega) (by omega) (lb_Mod0 (by omega) (by omega))
                                refine G_aload_n 8 dr_cX17_graph_228 rfl ?_
                                refine Gp_get 2 hm326133 he326132 dr_cX17_graph_229 (gk_X17 D I) (Nat.le_of_ble_eq_true rfl) wr_7_76 rfl ?_
                                refine G_iload 0 dr_cX17_graph_232 rfl ?_
                                have hm326205 : (γ 9 2) ∈ P270163 := RS_m hT326118 ht270193 (by decide)
                                obtain ⟨f326207, he326206, wf326207⟩ := show rk_35 I (F326117 (γ 9 2)) from RS_o hT326118 ht270193
                                refine Gp_lald 2 hm326205 he326206 dr_cX17_graph_234 rfl (gB_in bg326116' (by decide) (by decide)) (G_namL fun u326208 hu326208 => ?_)
                                have qu326208 : lb_Q u326208 (2000 - 64 * g326116.toInt) := lb_Wld hu326208 wf326207 (by omega) (by omega) (lb_Mod0 (by omega) (by omega))
                                refine G_lor dr_cX17_graph_235 (G_namL fun u326209 hu326209 => ?_)
                                have qu326209 : lb_Q u326209 (2000 - 64 * g326116.toInt) := lb_Qor hu326209 qu326204 qu326208
                                refine Gp_last 2 hm326201 he326202 dr_cX17_graph_236 rfl (gB_in bg326116' (by decide) (by decide)) (fun F326210 e326211 n326212 => ?_)
                                obtain ⟨f326213, hf326213⟩ : ∃ z, z = vp_updL f326203 g326116.toNatClampNeg u326209 := ⟨_, rfl⟩
                                rw [← hf326213] at e326211
                                have he326214 : F326210 q270166 = .inr (18, [.ref q323229, .ref q323230, .int p323231, .int p323232]) := (n326212 q270166 (rn_oa he326124 he326202)).trans he326124
                                have he326215 : F326210 q323229 = .inr (4, [.int p323860, .ref q323862, .int p323861]) := (n326212 q323229 (rn_oa he326125 he326202)).trans he326125
                                have he326216 : F326210 q323862 = .inl (I (.object "java/lang/Object"), n323876, .inr (.inr (.inr (.inr f323877)))) := (n326212 q323862 (rn_ref_long he326126 he326202)).trans he326126
                                have he326217 : F326210 q323879 = .inr (17, [.ref q323888, .ref q323889, .int p323890, .int p323891]) := (n326212 q323879 (rn_oa he326127 he326202)).trans he326127
                                have he326218 : F326210 q323888 = .inr (4, [.int p325651, .ref q325653, .int p325652]) := (n326212 q323888 (rn_oa he326128 he326202)).trans he326128
                                have he326219 : F326210 q325653 = .inl (I (.object "java/lang/Object"), n325667, .inr (.inr (.inr (.inr f325668)))) := (n326212 q325653 (rn_ref_long he326129 he326202)).trans he326129
                                have he326220 : F326210 q325670 = .inr (20, [.int p325683, .int p325684, .int p325685, .int p325686, .int p325687, .int p325688, .int p325689]) := (n326212 q325670 (rn_oa he326130 he326202)).trans he326130
                                have he326221 : F326210 q270165 = .inr (22, [.ref (γ 9 0), .ref (γ 9 1), .ref (γ 9 2), .ref (γ 9 3), .ref (γ 9 4), .ref (γ 9 5), .ref (γ 9 6), .ref (γ 9 7), .ref (γ 9 8), .int p270174, .int p270175, .int p270176, .int p270177, .int p270178, .int p270179, .ref (γ 9 15), .ref (γ 9 16), .ref (γ 9 17), .ref (γ 9 18), .ref (γ 9 19), .ref (γ 9 20), .ref (γ 9 21), .ref (γ 9 22), .int p270180, .int p270181, .int p270182, .int p270183, .int p270184, .ref q270172, .ref (γ 9 29), .int p270185, .ref (γ 9 31), .int p270186, .int p270187, .int p270188, .ref q270173]) := (n326212 q270165 (rn_oa he326132 he326202)).trans he326132
                                have he326222 : F326210 (γ 9 1) = .inl (I (.array .long), 2000, .inr (.inr (.inr (.inr f326196)))) := (n326212 (γ 9 1) (rn_ref_long he326195 he326202)).trans he326195
                                have he326223 : F326210 (γ 9 2) = .inl (I .long, 32, .inr (.inl f326207)) := (n326212 (γ 9 2) (rn_ty ht270193 ht326199 (by decide))).trans he326206
                                have he326224 : F326210 q326198 = .inl (I .long, 32, .inr (.inl f326213)) := e326211
                                have hs326225 : rStr γ [] F270164 F326210 := rStr_put hs326119 n326212 ht326199 (by decide)
                                have kp326226 : F326210 q270165 = F270164 q270165 := (n326212 q270165 (rn_ty htq270165 ht326199 (by decide))).trans x326121
                                have kp326227 : F326210 (γ 9 3) = F326117 (γ 9 3) := n326212 (γ 9 3) (rn_ty ht270194 ht326199 (by decide))
                                have wf326213 : lb_W f326213 (32) (32) (2000) := lb_Wst hf326213 wf326203 (by omega) (lb_Mod0 (by omega) (by omega)) qu326209
                                obtain ⟨z326228, hz326228⟩ : ∃ z : Int32, z = g326116 + Int32.ofInt 1 := ⟨_, rfl⟩
                                have ez326228 : z326228.toInt = g326116.toInt + 1 := gI_inc hz326228 (by decide) bg326116' (by decide) (by decide)
                                have bz326228 : gB z326228 1 32 := ⟨by omega, by omega⟩
                                refine G_iinc (L' := [(10, .int z326228), (9, .int 0), (8, .int (-1)), (7, .int o325724), (6, .ref q325670), (5, .int g325627), (4, .ref q323879), (3, .int g323216), (0, .ref q270165), (1, .ref q270166), (2, .int p270167)]) z326228 0 dr_cX17_graph_237 rfl hz326228.symm (Nat.le_of_ble_eq_true rfl) rfl ?_
                                refine G_goto 210 dr_cX17_graph_240 (by decide +kernel) ?_
                                have hT326229 : RS D I P270163 F326210 γ el := RS_set hT326118 n326212 ht326199 (by decide) ⟨f326213, he326224, wf326213⟩
                                exact ih210_326121 F326210 z326228 (gB_w bz326228 (by decide) (by decide)) hT326229 hs326225 (by rw [kp326227]; exact x326120) kp326226 (mz_up ez326228 (Int.le_trans bg326116'.2 (by decide)) hm210_326121)
                          exact hlp210_326121 (((33 : Int) - 0).toNat + 1) F325702 0 (gB_w (gBl (show Int32.toInt 0 = 0 by decide)) (by decide) (by decide)) hT325703 hs325712 gr325718 kp325713 (Nat.lt_succ_self _)
                      · have r326230 : p325683.toInt = 0 := gj_eq hc325978 (show Int32.toInt 0 = 0 by decide)
                        have bp325683' : gB p325683 0 0 := ⟨by omega, by omega⟩
                        refine G_aload 1 dr_cX17_graph_156 rfl ?_
                        refine Gp_get 5 hm325681 he325711 dr_cX17_graph_158 (gk_X15 D I) (Nat.le_of_ble_eq_true rfl) wr_9_193 rfl ?_
                        refine G_if_eq 172 dr_cX17_graph_161 (by decide +kernel) (fun hc326231 => ?_) (fun hc326231 => ?_)
                        · have r326232 : p325688.toInt = 0 := gj_eq hc326231 (show Int32.toInt 0 = 0 by decide)
                          have bp325688' : gB p325688 0 0 := gB_t0 r326232
                          refine G_iconst (-1) dr_cX17_graph_172 (by decide +kernel) ?_
                          refine G_istore (L' := [(8, .int (-1)), (7, .int o325724), (6, .ref q325670), (5, .int g325627), (4, .ref q323879), (3, .int g323216), (0, .ref q270165), (1, .ref q270166), (2, .int p270167)]) dr_cX17_graph_173 (Nat.le_of_ble_eq_true rfl) rfl ?_
                          refine G_iload 1 dr_cX17_graph_175 rfl ?_
                          refine G_if_lt 277 dr_cX17_graph_177 (by decide +kernel) (fun hc326233 => ?_) (fun hc326233 => ?_)
                          · have r326234 : o325724.toInt < 0 := gj_lt hc326233 (show Int32.toInt 0 = 0 by decide)
                            have bo325724' : gB o325724 (-1) (-1) := ⟨by omega, by omega⟩
                            refine G_aload_n 6 dr_cX17_graph_277 rfl ?_
                            refine G_aload 2 dr_cX17_graph_278 rfl ?_
                            refine G_iload_n 8 dr_cX17_graph_280 rfl ?_
                            refine Gw_callV (As := [.ref q325670, .int p270167]) (gV_ok D I) (ct_276878_SpillForgeModel_back l hl0 D I γ el P270163 F325702 q270165 q325670 p270167 hT325703 htq270165 ht325673 (gB_w bp270167' (by decide) (by decide))) dr_cX17_graph_281 ⟨wr_10_170, wr_1_14, wr_10_173, by decide, rfl, (Nat.le_of_ble_eq_true rfl), (Nat.le_of_ble_eq_true rfl)⟩ wr_10_172 wr_p_96 hm325643 he325714 rfl (show 0 + 0 ≤ 0 by first | omega | decide) (show 0 + 0 ≤ 0 by first | omega | decide) (Nat.le_of_ble_eq_true rfl) (fun r326238 w326239 dc326235 ds326236 hp326237 => ?_) (fun _ _ _ _ _ z => z.elim)
                            obtain ⟨F326242, rfl, rfl, hT326243, hs326244, hdc, hds, x326240, x326241⟩ := hp326237
                            have he326245 : F326242 q270166 = .inr (18, [.ref q323229, .ref q323230, .int p323231, .int p323232]) := (hs326244 q270166 (rT0 htq270166 (by decide)) (rT1 htq270166 (by decide)) (rT2 htq270166 (by decide))).trans he325705
                            have he326246 : F326242 q323229 = .inr (4, [.int p323860, .ref q323862, .int p323861]) := (hs326244 q323229 (rT0 ht323233 (by decide)) (rT1 ht323233 (by decide)) (rT2 ht323233 (by decide))).trans he325706
                            have he326247 : F326242 q323862 = .inl (I (.object "java/lang/Object"), n323876, .inr (.inr (.inr (.inr f323877)))) := (hs326244 q323862 (rT0 r323868 (by decide)) (rT1 r323868 (by decide)) (rT2 r323868 (by decide))).trans he325707
                            have he326248 : F326242 q323879 = .inr (17, [.ref q323888, .ref q323889, .int p323890, .int p323891]) := (hs326244 q323879 (rT0 ht323884 (by decide)) (rT1 ht323884 (by decide)) (rT2 ht323884 (by decide))).trans he325708
                            have he326249 : F326242 q323888 = .inr (4, [.int p325651, .ref q325653, .int p325652]) := (hs326244 q323888 (rT0 ht323892 (by decide)) (rT1 ht323892 (by decide)) (rT2 ht323892 (by decide))).trans he325709
                            have he326250 : F326242 q325653 = .inl (I (.object "java/lang/Object"), n325667, .inr (.inr (.inr (.inr f325668)))) := (hs326244 q325653 (rT0 r325659 (by decide)) (rT1 r325659 (by decide)) (rT2 r325659 (by decide))).trans he325710
                            have he326251 : F326242 q325670 = .inr (20, [.int p325683, .int p325684, .int p325685, .int p325686, .int p325687, .int p325688, .int p325689]) := (hs326244 q325670 (rT0 ht325673 (by decide)) (rT1 ht325673 (by decide)) (rT2 ht325673 (by decide))).trans he325711
                            have hs326252 : rStr γ [] F270164 F326242 := rStr_tr hs325712 hs326244
                            have kp326253 : F326242 q270165 = F270164 q270165 := (x326240).trans kp325713
                            have kp326254 : F326242 (γ 9 3) = F325702 (γ 9 3) := x326241
                            have he326255 : F326242 q270165 = .inr (22, [.ref (γ 9 0), .ref (γ 9 1), .ref (γ 9 2), .ref (γ 9 3), .ref (γ 9 4), .ref (γ 9 5), .ref (γ 9 6), .ref (γ 9 7), .ref (γ 9 8), .int p270174, .int p270175, .int p270176, .int p270177, .int p270178, .int p270179, .ref (γ 9 15), .ref (γ 9 16), .ref (γ 9 17), .ref (γ 9 18), .ref (γ 9 19), .ref (γ 9 20), .ref (γ 9 21), .ref (γ 9 22), .int p270180, .int p270181, .int p270182, .int p270183, .int p270184, .ref q270172, .ref (γ 9 29), .int p270185, .ref (γ 9 31), .int p270186, .int p270187, .int p270188, .ref q270173]) := (x326240).trans he325714
                            change G _ _ _ _ _ _ _ _ _ _ _
                            refine G_widen (cs' := 0) (sl' := 0) (by omega) (by omega) ?_
                            obtain ⟨z326256, hz326256⟩ : ∃ z : Int32, z = g325627 + Int32.ofInt (-1) := ⟨_, rfl⟩
                            have ez326256 : z326256.toInt = g325627.toInt + (-1) := gI_inc hz326256 (by decide) bg325627' (by decide) (by decide)
                            have bz326256 : gB z326256 (-1) 999998 := ⟨by omega, by omega⟩
                            refine G_iinc (L' := [(5, .int z326256), (8, .int (-1)), (7, .int o325724), (6, .ref q325670), (4, .ref q323879), (3, .int g323216), (0, .ref q270165), (1, .ref q270166), (2, .int p270167)]) z326256 3 dr_cX17_graph_284 rfl hz326256.symm (Nat.le_of_ble_eq_true rfl) rfl ?_
                            refine G_goto 109 dr_cX17_graph_287 (by decide +kernel) ?_
                            refine G_lv (L' := [(5, .int z326256), (4, .ref q323879), (3, .int g323216), (0, .ref q270165), (1, .ref q270166), (2, .int p270167)]) [0, 4, 5, 6, 7, 8] rfl ?_
                            exact ih109_325633 F326242 z326256 (gB_w bz326256 (by decide) (by decide)) hT326243 hs326252 (by omega) (fun h0 => by have z := gr325718 h0; rw [← kp326254] at z; rw [show ((g325627.toInt : Int).toNat : Nat) = (z326256.toInt + 1 : Int).toNat by omega] at z; exact z) kp326253 (mz_dn ez326256 (Int.le_trans (by decide) bg325627'.1) hm109_325633)
                          · have r326257 : 0 ≤ o325724.toInt := gj_nlt hc326233 (show Int32.toInt 0 = 0 by decide)
                            have bo325724' : gB o325724 0 1999 := ⟨by omega, by omega⟩
                            refine G_iload 0 dr_cX17_graph_180 rfl ?_
                            refine G_if_lt 204 dr_cX17_graph_182 (by decide +kernel) (fun _ => ?_) (fun hc => absurd hc (by decide))
                            refine G_iconst 0 dr_cX17_graph_204 (by decide +kernel) ?_
                            refine G_istore (L' := [(9, .int 0), (8, .int (-1)), (7, .int o325724), (6, .ref q325670), (5, .int g325627), (4, .ref q323879), (3, .int g323216), (0, .ref q270165), (1, .ref q270166), (2, .int p270167)]) dr_cX17_graph_205 (Nat.le_of_ble_eq_true rfl) rfl ?_
                            refine G_iconst 0 dr_cX17_graph_207 (by decide +kernel) ?_
                            refine G_istore (L' := [(10, .int 0), (9, .int 0), (8, .int (-1)), (7, .int o325724), (6, .ref q325670), (5, .int g325627), (4, .ref q323879), (3, .int g323216), (0, .ref q270165), (1, .ref q270166), (2, .int p270167)]) dr_cX17_graph_208 (Nat.le_of_ble_eq_true rfl) rfl ?_
                            have hlp210_326374 : ∀ (n210_326374 : Nat) (F326370 : Nat → va_E) (g326369 : Int32), gB g326369 0 32 → RS D I P270163 F326370 γ el → rStr γ [] F270164 F326370 → (gIp (p270167.toInt = 0) (rGr γ el F270164 q270166 (γ 6 (γ 1 q270166)) (cB (F326370 (γ 9 3))) (vB (g323216.toInt : Int).toNat (g325627.toInt : Int).toNat))) → (F326370 q270165 = F270164 q270165) → ((33 : Int) - g326369.toInt).toNat < n210_326374 → G (gV D I) l (gRm 5 111 0 0) (gMA (gV D I) (pt_270169_SpillForgeModel_graph D I γ el P270163 F270164 q270165 q270166 p270167) gNA 0 0) ky_270169_SpillForgeModel_graph 210 [(10, .int g326369), (9, .int 0), (8, .int (-1)), (7, .int o325724), (6, .ref q325670), (5, .int g325627), (4, .ref q323879), (3, .int g323216), (0, .ref q270165), (1, .ref q270166), (2, .int p270167)] [] (va_pl P270163 F326370) 0 0 := by
                              intro n210_326374
                              induction n210_326374 with
                              | zero => intro F326370 g326369 bg326369 hT326371 hs326372 x326373 x326374 hm210_326374; exact absurd hm210_326374 (Nat.not_lt_zero _)
                              | succ n210_326374 ih210_326374 =>
                                intro F326370 g326369 bg326369 hT326371 hs326372 x326373 x326374 hm210_326374
                                have hs326376 : rStr γ [] F325702 F326370 := fun b h0 hb hw => (hs326372 b h0 hb hw).trans (hs325712 b h0 hb hw).symm
                                have he326377 : F326370 q270166 = .inr (18, [.ref q323229, .ref q323230, .int p323231, .int p323232]) := (hs326376 q270166 (rT0 htq270166 (by decide)) (rT1 htq270166 (by decide)) (rT2 htq270166 (by decide))).trans he325705
                                have he326378 : F326370 q323229 = .inr (4, [.int p323860, .ref q323862, .int p323861]) := (hs326376 q323229 (rT0 ht323233 (by decide)) (rT1 ht323233 (by decide)) (rT2 ht323233 (by decide))).trans he325706
                                have he326379 : F326370 q323862 = .inl (I (.object "java/lang/Object"), n323876, .inr (.inr (.inr (.inr f323877)))) := (hs326376 q323862 (rT0 r323868 (by decide)) (rT1 r323868 (by decide)) (rT2 r323868 (by decide))).trans he325707
                                have he326380 : F326370 q323879 = .inr (17, [.ref q323888, .ref q323889, .int p323890, .int p323891]) := (hs326376 q323879 (rT0 ht323884 (by decide)) (rT1 ht323884 (by decide)) (rT2 ht323884 (by decide))).trans he325708
                                have he326381 : F326370 q323888 = .inr (4, [.int p325651, .ref q325653, .int p325652]) := (hs326376 q323888 (rT0 ht323892 (by decide)) (rT1 ht323892 (by decide)) (rT2 ht323892 (by decide))).trans he325709
                                have he326382 : F326370 q325653 = .inl (I (.object "java/lang/Object"), n325667, .inr (.inr (.inr (.inr f325668)))) := (hs326376 q325653 (rT0 r325659 (by decide)) (rT1 r325659 (by decide)) (rT2 r325659 (by decide))).trans he325710
                                have he326383 : F326370 q325670 = .inr (20, [.int p325683, .int p325684, .int p325685, .int p325686, .int p325687, .int p325688, .int p325689]) := (hs326376 q325670 (rT0 ht325673 (by decide)) (rT1 ht325673 (by decide)) (rT2 ht325673 (by decide))).trans he325711
                                have hs326384 : rStr γ [] F270164 F326370 := rStr_tr hs325712 hs326376
                                have he326385 : F326370 q270165 = .inr (22, [.ref (γ 9 0), .ref (γ 9 1), .ref (γ 9 2), .ref (γ 9 3), .ref (γ 9 4), .ref (γ 9 5), .ref (γ 9 6), .ref (γ 9 7), .ref (γ 9 8), .int p270174, .int p270175, .int p270176, .int p270177, .int p270178, .int p270179, .ref (γ 9 15), .ref (γ 9 16), .ref (γ 9 17), .ref (γ 9 18), .ref (γ 9 19), .ref (γ 9 20), .ref (γ 9 21), .ref (γ 9 22), .int p270180, .int p270181, .int p270182, .int p270183, .int p270184, .ref q270172, .ref (γ 9 29), .int p270185, .ref (γ 9 31), .int p270186, .int p270187, .int p270188, .ref q270173]) := x326374.trans he270171
                                have hm326386 : q270165 ∈ P270163 := RS_m hT326371 htq270165 (by decide)
                                refine G_iload 0 dr_cX17_graph_210 rfl ?_
                                refine G_bipush 32 dr_cX17_graph_212 (by decide +kernel) ?_
                                refine G_icmp_ge 243 dr_cX17_graph_214 (by decide +kernel) (fun hc326387 => ?_) (fun hc326387 => ?_)
                                · have r326388 : 32 ≤ g326369.toInt := gj_leL hc326387 (show Int32.toInt 32 = 32 by decide)
                                  have bg326369' : gB g326369 32 32 := ⟨by omega, by omega⟩
                                  refine G_iload 2 dr_cX17_graph_243 rfl ?_
                                  refine G_if_lt 265 dr_cX17_graph_245 (by decide +kernel) (fun _ => ?_) (fun hc => absurd hc (by decide))
                                  refine G_aload_n 8 dr_cX17_graph_265 rfl ?_
                                  refine Gp_get 1 hm326386 he326385 dr_cX17_graph_266 (gk_X17 D I) (Nat.le_of_ble_eq_true rfl) wr_7_75 rfl ?_
                                  refine G_iload 3 dr_cX17_graph_269 rfl ?_
                                  have hm326389 : (γ 9 1) ∈ P270163 := RS_m hT326371 ht270192 (by decide)
                                  obtain ⟨f326391, he326390, hg326392⟩ := show rk_13 I γ (F326370 (γ 9 1)) from RS_o hT326371 ht270192
                                  obtain ⟨q326393, hx326395⟩ : ∃ x, x = γ 11 o325724.toInt.toNat := ⟨_, rfl⟩
                                  have ht326394 : rKd γ q326393 36 := by rw [hx326395]; exact (hg326392 _ (show o325724.toInt.toNat < 2000 by omega)).2.1
                                  refine Gp_aald 5 hm326389 he326390 dr_cX17_graph_271 rfl rfl (gB_in bo325724' (by decide) (by decide)) ?_
                                  rw [show f326391 o325724.toNatClampNeg = some q326393 from (hg326392 _ (show o325724.toInt.toNat < 2000 by omega)).1.trans (by rw [hx326395])]
                                  change G _ _ _ _ _ _ _ (.ref q326393 :: _) _ _ _
                                  refine G_iload 3 dr_cX17_graph_272 rfl ?_
                                  have hm326396 : q326393 ∈ P270163 := RS_m hT326371 ht326394 (by decide)
                                  obtain ⟨f326398, he326397, wf326398⟩ := show rk_36 I (F326370 q326393) from RS_o hT326371 ht326394
                                  refine Gw_callS (As := [.ref q326393, .int o325724]) (gV_ok D I) (cp_1873_SpillForgeModel_clear l hl0 D I P270163 F326370 q326393 o325724 f326398 hm326396 he326397 bo325724' wf326398) dr_cX17_graph_274 ⟨wr_10_181, wr_1_14, wr_10_183, by decide, rfl, (Nat.le_of_ble_eq_true rfl), (Nat.le_of_ble_eq_true rfl)⟩ wr_10_182 (show 0 + 0 ≤ 0 by first | omega | decide) (show 0 + 0 ≤ 0 by first | omega | decide) (Nat.le_of_ble_eq_true rfl) (fun r326402 w326403 dc326399 ds326400 hp326401 => ?_) (fun _ _ _ _ _ z => z.elim)
                                  obtain ⟨F326406, f326404, rfl, rfl, hfr326408, he326409, hdc, hds, x326405⟩ := hp326401
                                  have he326410 : F326406 q270166 = .inr (18, [.ref q323229, .ref q323230, .int p323231, .int p323232]) := (hfr326408 q270166 hm323227 (nm_c (rn_oa he326377 he326397) nm_n)).trans he326377
                                  have he326411 : F326406 q323229 = .inr (4, [.int p323860, .ref q323862, .int p323861]) := (hfr326408 q323229 hm323858 (nm_c (rn_oa he326378 he326397) nm_n)).trans he326378
                                  have he326412 : F326406 q323862 = .inl (I (.object "java/lang/Object"), n323876, .inr (.inr (.inr (.inr f323877)))) := (hfr326408 q323862 hm323878 (nm_c (rn_ref_long he326379 he326397) nm_n)).trans he326379
                                  have he326413 : F326406 q323879 = .inr (17, [.ref q323888, .ref q323889, .int p323890, .int p323891]) := (hfr326408 q323879 hm323886 (nm_c (rn_oa he326380 he326397) nm_n)).trans he326380
                                  have he326414 : F326406 q323888 = .inr (4, [.int p325651, .ref q325653, .int p325652]) := (hfr326408 q323888 hm325649 (nm_c (rn_oa he326381 he326397) nm_n)).trans he326381
                                  have he326415 : F326406 q325653 = .inl (I (.object "java/lang/Object"), n325667, .inr (.inr (.inr (.inr f325668)))) := (hfr326408 q325653 hm325669 (nm_c (rn_ref_long he326382 he326397) nm_n)).trans he326382
                                  have he326416 : F326406 q325670 = .inr (20, [.int p325683, .int p325684, .int p325685, .int p325686, .int p325687, .int p325688, .int p325689]) := (hfr326408 q325670 hm325681 (nm_c (rn_oa he326383 he326397) nm_n)).trans he326383
                                  have he326417 : F326406 q270165 = .inr (22, [.ref (γ 9 0), .ref (γ 9 1), .ref (γ 9 2), .ref (γ 9 3), .ref (γ 9 4), .ref (γ 9 5), .ref (γ 9 6), .ref (γ 9 7), .ref (γ 9 8), .int p270174, .int p270175, .int p270176, .int p270177, .int p270178, .int p270179, .ref (γ 9 15), .ref (γ 9 16), .ref (γ 9 17), .ref (γ 9 18), .ref (γ 9 19), .ref (γ 9 20), .ref (γ 9 21), .ref (γ 9 22), .int p270180, .int p270181, .int p270182, .int p270183, .int p270184, .ref q270172, .ref (γ 9 29), .int p270185, .ref (γ 9 31), .int p270186, .int p270187, .int p270188, .ref q270173]) := (hfr326408 q270165 hm326386 (nm_c (rn_oa he326385 he326397) nm_n)).trans he326385
                                  have he326418 : F326406 (γ 9 1) = .inl (I (.array .long), 2000, .inr (.inr (.inr (.inr f326391)))) := (hfr326408 (γ 9 1) hm326389 (nm_c (rn_ref_long he326390 he326397) nm_n)).trans he326390
                                  have hfr326419 : rFr [q326393] P270163 F326370 F326406 := rFr_call (rSub_rf (P := P270163)) (rFr_rf (W := []) (P := P270163) (F := F326370)) hfr326408 (fun b hb hn => ⟨nm_n, (nm_c (fun e => hn (e ▸ List.mem_cons_self)) nm_n)⟩)
                                  change G _ _ _ _ _ _ _ _ _ _ _
                                  refine G_widen (cs' := 0) (sl' := 0) (by omega) (by omega) ?_
                                  have hT326420 : RS D I P270163 F326406 γ el := RS_fr hT326371 hfr326419 ht326394 (by decide) ⟨f326404, he326409, x326405⟩
                                  have hs326421 : rStr γ [] F270164 F326406 := rStr_fr hT326371 hs326372 hfr326419 ht326394 (by decide)
                                  have kp326422 : F326406 q270165 = F270164 q270165 := (hfr326419 q270165 (RS_m hT326371 htq270165 (by decide)) (nm_c (rn_ty htq270165 ht326394 (by decide)) nm_n)).trans x326374
                                  have kp326423 : F326406 (γ 9 3) = F326370 (γ 9 3) := hfr326419 (γ 9 3) (RS_m hT326371 ht270194 (by decide)) (nm_c (rn_ty ht270194 ht326394 (by decide)) nm_n)
                                  refine G_aload_n 8 dr_cX17_graph_277 rfl ?_
                                  refine G_aload 4 dr_cX17_graph_278 rfl ?_
                                  refine G_iload_n 10 dr_cX17_graph_280 rfl ?_
                                  refine Gw_callV (As := [.ref q325670, .int p270167]) (gV_ok D I) (ct_276878_SpillForgeModel_back l hl0 D I γ el P270163 F326406 q270165 q325670 p270167 hT326420 htq270165 ht325673 (gB_w bp270167' (by decide) (by decide))) dr_cX17_graph_281 ⟨wr_10_170, wr_1_14, wr_10_173, by decide, rfl, (Nat.le_of_ble_eq_true rfl), (Nat.le_of_ble_eq_true rfl)⟩ wr_10_172 wr_p_96 hm326386 he326417 rfl (show 0 + 0 ≤ 0 by first | omega | decide) (show 0 + 0 ≤ 0 by first | omega | decide) (Nat.le_of_ble_eq_true rfl) (fun r326427 w326428 dc326424 ds326425 hp326426 => ?_) (fun _ _ _ _ _ z => z.elim)
                                  obtain ⟨F326431, rfl, rfl, hT326432, hs326433, hdc, hds, x326429, x326430⟩ := hp326426
                                  have he326434 : F326431 q270166 = .inr (18, [.ref q323229, .ref q323230, .int p323231, .int p323232]) := (hs326433 q270166 (rT0 htq270166 (by decide)) (rT1 htq270166 (by decide)) (rT2 htq270166 (by decide))).trans he326410
                                  have he326435 : F326431 q323229 = .inr (4, [.int p323860, .ref q323862, .int p323861]) := (hs326433 q323229 (rT0 ht323233 (by decide)) (rT1 ht323233 (by decide)) (rT2 ht323233 (by decide))).trans he326411
                                  have he326436 : F326431 q323862 = .inl (I (.object "java/lang/Object"), n323876, .inr (.inr (.inr (.inr f323877)))) := (hs326433 q323862 (rT0 r323868 (by decide)) (rT1 r323868 (by decide)) (rT2 r323868 (by decide))).trans he326412
                                  have he326437 : F326431 q323879 = .inr (17, [.ref q323888, .ref q323889, .int p323890, .int p323891]) := (hs326433 q323879 (rT0 ht323884 (by decide)) (rT1 ht323884 (by decide)) (rT2 ht323884 (by decide))).trans he326413
                                  have he326438 : F326431 q323888 = .inr (4, [.int p325651, .ref q325653, .int p325652]) := (hs326433 q323888 (rT0 ht323892 (by decide)) (rT1 ht323892 (by decide)) (rT2 ht323892 (by decide))).trans he326414
                                  have he326439 : F326431 q325653 = .inl (I (.object "java/lang/Object"), n325667, .inr (.inr (.inr (.inr f325668)))) := (hs326433 q325653 (rT0 r325659 (by decide)) (rT1 r325659 (by decide)) (rT2 r325659 (by decide))).trans he326415
                                  have he326440 : F326431 q325670 = .inr (20, [.int p325683, .int p325684, .int p325685, .int p325686, .int p325687, .int p325688, .int p325689]) := (hs326433 q325670 (rT0 ht325673 (by decide)) (rT1 ht325673 (by decide)) (rT2 ht325673 (by decide))).trans he326416
                                  have hs326441 : rStr γ [] F270164 F326431 := rStr_tr hs326421 hs326433
                                  have kp326442 : F326431 q270165 = F270164 q270165 := (x326429).trans kp326422
                                  have kp326443 : F326431 (γ 9 3) = F326370 (γ 9 3) := (x326430).trans kp326423
                                  have he326444 : F326431 q270165 = .inr (22, [.ref (γ 9 0), .ref (γ 9 1), .ref (γ 9 2), .ref (γ 9 3), .ref (γ 9 4), .ref (γ 9 5), .ref (γ 9 6), .ref (γ 9 7), .ref (γ 9 8), .int p270174, .int p270175, .int p270176, .int p270177, .int p270178, .int p270179, .ref (γ 9 15), .ref (γ 9 16), .ref (γ 9 17), .ref (γ 9 18), .ref (γ 9 19), .ref (γ 9 20), .ref (γ 9 21), .ref (γ 9 22), .int p270180, .int p270181, .int p270182, .int p270183, .int p270184, .ref q270172, .ref (γ 9 29), .int p270185, .ref (γ 9 31), .int p270186, .int p270187, .int p270188, .ref q270173]) := (x326429).trans he326417
                                  change G _ _ _ _ _ _ _ _ _ _ _
                                  refine G_widen (cs' := 0) (sl' := 0) (by omega) (by omega) ?_
                                  obtain ⟨z326445, hz326445⟩ : ∃ z : Int32, z = g325627 + Int32.ofInt (-1) := ⟨_, rfl⟩
                                  have ez326445 : z326445.toInt = g325627.toInt + (-1) := gI_inc hz326445 (by decide) bg325627' (by decide) (by decide)
                                  have bz326445 : gB z326445 (-1) 999998 := ⟨by omega, by omega⟩
                                  refine G_iinc (L' := [(5, .int z326445), (10, .int g326369), (9, .int 0), (8, .int (-1)), (7, .int o325724), (6, .ref q325670), (4, .ref q323879), (3, .int g323216), (0, .ref q270165), (1, .ref q270166), (2, .int p270167)]) z326445 5 dr_cX17_graph_284 rfl hz326445.symm (Nat.le_of_ble_eq_true rfl) rfl ?_
                                  refine G_goto 109 dr_cX17_graph_287 (by decide +kernel) ?_
                                  refine G_lv (L' := [(5, .int z326445), (4, .ref q323879), (3, .int g323216), (0, .ref q270165), (1, .ref q270166), (2, .int p270167)]) [0, 6, 7, 8, 9, 10] rfl ?_
                                  exact ih109_325633 F326431 z326445 (gB_w bz326445 (by decide) (by decide)) hT326432 hs326441 (by omega) (fun h0 => by have z := x326373 h0; rw [← kp326443] at z; rw [show ((g325627.toInt : Int).toNat : Nat) = (z326445.toInt + 1 : Int).toNat by omega] at z; exact z) kp326442 (mz_dn ez326445 (Int.le_trans (by decide) bg325627'.1) hm109_325633)
                                · have r326446 : g326369.toInt < 32 := gj_nleL hc326387 (show Int32.toInt 32 = 32 by decide)
                                  have bg326369' : gB g326369 0 31 := ⟨by omega, by omega⟩
                                  refine G_aload_n 8 dr_cX17_graph_217 rfl ?_
                                  refine Gp_get 1 hm326386 he326385 dr_cX17_graph_218 (gk_X17 D I) (Nat.le_of_ble_eq_true rfl) wr_7_75 rfl ?_
                                  refine G_iload 3 dr_cX17_graph_221 rfl ?_
                                  have hm326447 : (γ 9 1) ∈ P270163 := RS_m hT326371 ht270192 (by decide)
                                  obtain ⟨f326449, he326448, hg326450⟩ := show rk_13 I γ (F326370 (γ 9 1)) from RS_o hT326371 ht270192
                                  obtain ⟨q326451, hx326453⟩ : ∃ x, x = γ 11 o325724.toInt.toNat := ⟨_, rfl⟩
                                  have ht326452 : rKd γ q326451 36 := by rw [hx326453]; exact (hg326450 _ (show o325724.toInt.toNat < 2000 by omega)).2.1
                                  refine Gp_aald 5 hm326447 he326448 dr_cX17_graph_223 rfl rfl (gB_in bo325724' (by decide) (by decide)) ?_
                                  rw [show f326449 o325724.toNatClampNeg = some q326451 from (hg326450 _ (show o325724.toInt.toNat < 2000 by omega)).1.trans (by rw [hx326453])]
                                  change G _ _ _ _ _ _ _ (.ref q326451 :: _) _ _ _
                                  refine G_iload 0 dr_cX17_graph_224 rfl ?_
                                  refine G_dup2_11 dr_cX17_graph_226 rfl rfl ?_
                                  have hm326454 : q326451 ∈ P270163 := RS_m hT326371 ht326452 (by decide)
                                  obtain ⟨f326456, he326455, wf326456⟩ := show rk_36 I (F326370 q326451) from RS_o hT326371 ht326452
                                  refine Gp_lald 2 hm326454 he326455 dr_cX17_graph_227 rfl (gB_in bg326369' (by decide) (by decide)) (G_namL fun u326457 hu326457 => ?_)
                                  have qu326457 : lb_Q u326457 (2000 - 64 * g326369.toInt) := lb_Wld hu326457 wf326456 (by omega) (by omega) (lb_Mod0 (by omega) (by omega))
                                  refine G_aload_n 8 dr_cX17_graph_228 rfl ?_
                                  refine Gp_get 2 hm326386 he326385 dr_cX17_graph_229 (gk_X17 D I) (Nat.le_of_ble_eq_true rfl) wr_7_76 rfl ?_
                                  refine G_iload 0 dr_cX17_graph_232 rfl ?_
                                  have hm326458 : (γ 9 2) ∈ P270163 := RS_m hT326371 ht270193 (by decide)
                                  obtain ⟨f326460, he326459, wf326460⟩ := show rk_35 I (F326370 (γ 9 2)) from RS_o hT326371 ht270193
                                  refine Gp_lald 2 hm326458 he326459 dr_cX17_graph_234 rfl (gB_in bg326369' (by decide) (by decide)) (G_namL fun u326461 hu326461 => ?_)
                                  have qu326461 : lb_Q u326461 (2000 - 64 * g326369.toInt) := lb_Wld hu326461 wf326460 (by omega) (by omega) (lb_Mod0 (by omega) (by omega))
                                  refine G_lor dr_cX17_graph_235 (G_namL fun u326462 hu326462 => ?_)
                                  have qu326462 : lb_Q u326462 (2000 - 64 * g326369.toInt) := lb_Qor hu326462 qu326457 qu326461
                                  refine Gp_last 2 hm326454 he326455 dr_cX17_graph_236 rfl (gB_in bg326369' (by decide) (by decide)) (fun F326463 e326464 n326465 => ?_)
                                  obtain ⟨f326466, hf326466⟩ : ∃ z, z = vp_updL f326456 g326369.toNatClampNeg u326462 := ⟨_, rfl⟩
                                  rw [← hf326466] at e326464
                                  have he326467 : F326463 q270166 = .inr (18, [.ref q323229, .ref q323230, .int p323231, .int p323232]) := (n326465 q270166 (rn_oa he326377 he326455)).trans he326377
                                  have he326468 : F326463 q323229 = .inr (4, [.int p323860, .ref q323862, .int p323861]) := (n326465 q323229 (rn_oa he326378 he326455)).trans he326378
                                  have he326469 : F326463 q323862 = .inl (I (.object "java/lang/Object"), n323876, .inr (.inr (.inr (.inr f323877)))) := (n326465 q323862 (rn_ref_long he326379 he326455)).trans he326379
                                  have he326470 : F326463 q323879 = .inr (17, [.ref q323888, .ref q323889, .int p323890, .int p323891]) := (n326465 q323879 (rn_oa he326380 he326455)).trans he326380
                                  have he326471 : F326463 q323888 = .inr (4, [.int p325651, .ref q325653, .int p325652]) := (n326465 q323888 (rn_oa he326381 he326455)).trans he326381
                                  have he326472 : F326463 q325653 = .inl (I (.object "java/lang/Object"), n325667, .inr (.inr (.inr (.inr f325668)))) := (n326465 q325653 (rn_ref_long he326382 he326455)).trans he326382
                                  have he326473 : F326463 q325670 = .inr (20, [.int p325683, .int p325684, .int p325685, .int p325686, .int p325687, .int p325688, .int p325689]) := (n326465 q325670 (rn_oa he326383 he326455)).trans he326383
                                  have he326474 : F326463 q270165 = .inr (22, [.ref (γ 9 0), .ref (γ 9 1), .ref (γ 9 2), .ref (γ 9 3), .ref (γ 9 4), .ref (γ 9 5), .ref (γ 9 6), .ref (γ 9 7), .ref (γ 9 8), .int p270174, .int p270175, .int p270176, .int p270177, .int p270178, .int p270179, .ref (γ 9 15), .ref (γ 9 16), .ref (γ 9 17), .ref (γ 9 18), .ref (γ 9 19), .ref (γ 9 20), .ref (γ 9 21), .ref (γ 9 22), .int p270180, .int p270181, .int p270182, .int p270183, .int p270184, .ref q270172, .ref (γ 9 29), .int p270185, .ref (γ 9 31), .int p270186, .int p270187, .int p270188, .ref q270173]) := (n326465 q270165 (rn_oa he326385 he326455)).trans he326385
                                  have he326475 : F326463 (γ 9 1) = .inl (I (.array .long), 2000, .inr (.inr (.inr (.inr f326449)))) := (n326465 (γ 9 1) (rn_ref_long he326448 he326455)).trans he326448
                                  have he326476 : F326463 (γ 9 2) = .inl (I .long, 32, .inr (.inl f326460)) := (n326465 (γ 9 2) (rn_ty ht270193 ht326452 (by decide))).trans he326459
                                  have he326477 : F326463 q326451 = .inl (I .long, 32, .inr (.inl f326466)) := e326464
                                  have hs326478 : rStr γ [] F270164 F326463 := rStr_put hs326372 n326465 ht326452 (by decide)
                                  have kp326479 : F326463 q270165 = F270164 q270165 := (n326465 q270165 (rn_ty htq270165 ht326452 (by decide))).trans x326374
                                  have kp326480 : F326463 (γ 9 3) = F326370 (γ 9 3) := n326465 (γ 9 3) (rn_ty ht270194 ht326452 (by decide))
                                  have wf326466 : lb_W f326466 (32) (32) (2000) := lb_Wst hf326466 wf326456 (by omega) (lb_Mod0 (by omega) (by omega)) qu326462
                                  obtain ⟨z326481, hz326481⟩ : ∃ z : Int32, z = g326369 + Int32.ofInt 1 := ⟨_, rfl⟩
                                  have ez326481 : z326481.toInt = g326369.toInt + 1 := gI_inc hz326481 (by decide) bg326369' (by decide) (by decide)
                                  have bz326481 : gB z326481 1 32 := ⟨by omega, by omega⟩
                                  refine G_iinc (L' := [(10, .int z326481), (9, .int 0), (8, .int (-1)), (7, .int o325724), (6, .ref q325670), (5, .int g325627), (4, .ref q323879), (3, .int g323216), (0, .ref q270165), (1, .ref q270166), (2, .int p270167)]) z326481 0 dr_cX17_graph_237 rfl hz326481.symm (Nat.le_of_ble_eq_true rfl) rfl ?_
                                  refine G_goto 210 dr_cX17_graph_240 (by decide +kernel) ?_
                                  have hT326482 : RS D I P270163 F326463 γ el := RS_set hT326371 n326465 ht326452 (by decide) ⟨f326466, he326477, wf326466⟩
                                  exact ih210_326374 F326463 z326481 (gB_w bz326481 (by decide) (by decide)) hT326482 hs326478 (by rw [kp326480]; exact x326373) kp326479 (mz_up ez326481 (Int.le_trans bg326369'.2 (by decide)) hm210_326374)
                            exact hlp210_326374 (((33 : Int) - 0).toNat + 1) F325702 0 (gB_w (gBl (show Int32.toInt 0 = 0 by decide)) (by decide) (by decide)) hT325703 hs325712 gr325718 kp325713 (Nat.lt_succ_self _)
                        · have r326483 : p325688.toInt ≠ 0 := gj_neq hc326231 (show Int32.toInt 0 = 0 by decide)
                          have bp325688' : gB p325688 1 1 := gB_t1 bp325688 r326483
                          refine G_aload 1 dr_cX17_graph_164 rfl ?_
                          refine Gp_get 2 hm325681 he325711 dr_cX17_graph_166 (gk_X15 D I) (Nat.le_of_ble_eq_true rfl) wr_9_182 rfl ?_
                          refine G_goto 173 dr_cX17_graph_169 (by decide +kernel) ?_
                          refine G_istore (L' := [(8, .int p325685), (7, .int o325724), (6, .ref q325670), (5, .int g325627), (4, .ref q323879), (3, .int g323216), (0, .ref q270165), (1, .ref q270166), (2, .int p270167)]) dr_cX17_graph_173 (Nat.le_of_ble_eq_true rfl) rfl ?_
                          refine G_iload 1 dr_cX17_graph_175 rfl ?_
                          refine G_if_lt 277 dr_cX17_graph_177 (by decide +kernel) (fun hc326484 => ?_) (fun hc326484 => ?_)
                          · have r326485 : o325724.toInt < 0 := gj_lt hc326484 (show Int32.toInt 0 = 0 by decide)
                            have bo325724' : gB o325724 (-1) (-1) := ⟨by omega, by omega⟩
                            refine G_aload_n 6 dr_cX17_graph_277 rfl ?_
                            refine G_aload 2 dr_cX17_graph_278 rfl ?_
                            refine G_iload_n 8 dr_cX17_graph_280 rfl ?_
                            refine Gw_callV (As := [.ref q325670, .int p270167]) (gV_ok D I) (ct_276878_SpillForgeModel_back l hl0 D I γ el P270163 F325702 q270165 q325670 p270167 hT325703 htq270165 ht325673 (gB_w bp270167' (by decide) (by decide))) dr_cX17_graph_281 ⟨wr_10_170, wr_1_14, wr_10_173, by decide, rfl, (Nat.le_of_ble_eq_true rfl), (Nat.le_of_ble_eq_true rfl)⟩ wr_10_172 wr_p_96 hm325643 he325714 rfl (show 0 + 0 ≤ 0 by first | omega | decide) (show 0 + 0 ≤ 0 by first | omega | decide) (Nat.le_of_ble_eq_true rfl) (fun r326489 w326490 dc326486 ds326487 hp326488 => ?_) (fun _ _ _ _ _ z => z.elim)
                            obtain ⟨F326493, rfl, rfl, hT326494, hs326495, hdc, hds, x326491, x326492⟩ := hp326488
                            have he326496 : F326493 q270166 = .inr (18, [.ref q323229, .ref q323230, .int p323231, .int p323232]) := (hs326495 q270166 (rT0 htq270166 (by decide)) (rT1 htq270166 (by decide)) (rT2 htq270166 (by decide))).trans he325705
                            have he326497 : F326493 q323229 = .inr (4, [.int p323860, .ref q323862, .int p323861]) := (hs326495 q323229 (rT0 ht323233 (by decide)) (rT1 ht323233 (by decide)) (rT2 ht323233 (by decide))).trans he325706
                            have he326498 : F326493 q323862 = .inl (I (.object "java/lang/Object"), n323876, .inr (.inr (.inr (.inr f323877)))) := (hs326495 q323862 (rT0 r323868 (by decide)) (rT1 r323868 (by decide)) (rT2 r323868 (by decide))).trans he325707
                            have he326499 : F326493 q323879 = .inr (17, [.ref q323888, .ref q323889, .int p323890, .int p323891]) := (hs326495 q323879 (rT0 ht323884 (by decide)) (rT1 ht323884 (by decide)) (rT2 ht323884 (by decide))).trans he325708
                            have he326500 : F326493 q323888 = .inr (4, [.int p325651, .ref q325653, .int p325652]) := (hs326495 q323888 (rT0 ht323892 (by decide)) (rT1 ht323892 (by decide)) (rT2 ht323892 (by decide))).trans he325709
                            have he326501 : F326493 q325653 = .inl (I (.object "java/lang/Object"), n325667, .inr (.inr (.inr (.inr f325668)))) := (hs326495 q325653 (rT0 r325659 (by decide)) (rT1 r325659 (by decide)) (rT2 r325659 (by decide))).trans he325710
                            have he326502 : F326493 q325670 = .inr (20, [.int p325683, .int p325684, .int p325685, .int p325686, .int p325687, .int p325688, .int p325689]) := (hs326495 q325670 (rT0 ht325673 (by decide)) (rT1 ht325673 (by decide)) (rT2 ht325673 (by decide))).trans he325711
                            have hs326503 : rStr γ [] F270164 F326493 := rStr_tr hs325712 hs326495
                            have kp326504 : F326493 q270165 = F270164 q270165 := (x326491).trans kp325713
                            have kp326505 : F326493 (γ 9 3) = F325702 (γ 9 3) := x326492
                            have he326506 : F326493 q270165 = .inr (22, [.ref (γ 9 0), .ref (γ 9 1), .ref (γ 9 2), .ref (γ 9 3), .ref (γ 9 4), .ref (γ 9 5), .ref (γ 9 6), .ref (γ 9 7), .ref (γ 9 8), .int p270174, .int p270175, .int p270176, .int p270177, .int p270178, .int p270179, .ref (γ 9 15), .ref (γ 9 16), .ref (γ 9 17), .ref (γ 9 18), .ref (γ 9 19), .ref (γ 9 20), .ref (γ 9 21), .ref (γ 9 22), .int p270180, .int p270181, .int p270182, .int p270183, .int p270184, .ref q270172, .ref (γ 9 29), .int p270185, .ref (γ 9 31), .int p270186, .int p270187, .int p270188, .ref q270173]) := (x326491).trans he325714
                            change G _ _ _ _ _ _ _ _ _ _ _
                            refine G_widen (cs' := 0) (sl' := 0) (by omega) (by omega) ?_
                            obtain ⟨z326507, hz326507⟩ : ∃ z : Int32, z = g325627 + Int32.ofInt (-1) := ⟨_, rfl⟩
                            have ez326507 : z326507.toInt = g325627.toInt + (-1) := gI_inc hz326507 (by decide) bg325627' (by decide) (by decide)
                            have bz326507 : gB z326507 (-1) 999998 := ⟨by omega, by omega⟩
                            refine G_iinc (L' := [(5, .int z326507), (8, .int p325685), (7, .int o325724), (6, .ref q325670), (4, .ref q323879), (3, .int g323216), (0, .ref q270165), (1, .ref q270166), (2, .int p270167)]) z326507 3 dr_cX17_graph_284 rfl hz326507.symm (Nat.le_of_ble_eq_true rfl) rfl ?_
                            refine G_goto 109 dr_cX17_graph_287 (by decide +kernel) ?_
                            refine G_lv (L' := [(5, .int z326507), (4, .ref q323879), (3, .int g323216), (0, .ref q270165), (1, .ref q270166), (2, .int p270167)]) [0, 4, 5, 6, 7, 8] rfl ?_
                            exact ih109_325633 F326493 z326507 (gB_w bz326507 (by decide) (by decide)) hT326494 hs326503 (by omega) (fun h0 => by have z := gr325718 h0; rw [← kp326505] at z; rw [show ((g325627.toInt : Int).toNat : Nat) = (z326507.toInt + 1 : Int).toNat by omega] at z; exact z) kp326504 (mz_dn ez326507 (Int.le_trans (by decide) bg325627'.1) hm109_325633)
                          · have r326508 : 0 ≤ o325724.toInt := gj_nlt hc326484 (show Int32.toInt 0 = 0 by decide)
                            have bo325724' : gB o325724 0 1999 := ⟨by omega, by omega⟩
                            refine G_iload 0 dr_cX17_graph_180 rfl ?_
                            refine G_if_lt 204 dr_cX17_graph_182 (by decide +kernel) (fun hc326509 => ?_) (fun hc326509 => ?_)
                            · have r326510 : p325685.toInt < 0 := gj_lt hc326509 (show Int32.toInt 0 = 0 by decide)
                              have bp325685' : gB p325685 (-2147483648) (-1) := ⟨by omega, by omega⟩
                              refine G_iconst 0 dr_cX17_graph_204 (by decide +kernel) ?_
                              refine G_istore (L' := [(9, .int 0), (8, .int p325685), (7, .int o325724), (6, .ref q325670), (5, .int g325627), (4, .ref q323879), (3, .int g323216), (0, .ref q270165), (1, .ref q270166), (2, .int p270167)]) dr_cX17_graph_205 (Nat.le_of_ble_eq_true rfl) rfl ?_
                              refine G_iconst 0 dr_cX17_graph_207 (by decide +kernel) ?_
                              refine G_istore (L' := [(10, .int 0), (9, .int 0), (8, .int p325685), (7, .int o325724), (6, .ref q325670), (5, .int g325627), (4, .ref q323879), (3, .int g323216), (0, .ref q270165), (1, .ref q270166), (2, .int p270167)]) dr_cX17_graph_208 (Nat.le_of_ble_eq_true rfl) rfl ?_
                              have hlp210_326627 : ∀ (n210_326627 : Nat) (F326623 : Nat → va_E) (g326622 : Int32), gB g326622 0 32 → RS D I P270163 F326623 γ el → rStr γ [] F270164 F326623 → (gIp (p270167.toInt = 0) (rGr γ el F270164 q270166 (γ 6 (γ 1 q270166)) (cB (F326623 (γ 9 3))) (vB (g323216.toInt : Int).toNat (g325627.toInt : Int).toNat))) → (F326623 q270165 = F270164 q270165) → ((33 : Int) - g326622.toInt).toNat < n210_326627 → G (gV D I) l (gRm 5 111 0 0) (gMA (gV D I) (pt_270169_SpillForgeModel_graph D I γ el P270163 F270164 q270165 q270166 p270167) gNA 0 0) ky_270169_SpillForgeModel_graph 210 [(10, .int g326622), (9, .int 0), (8, .int p325685), (7, .int o325724), (6, .ref q325670), (5, .int g325627), (4, .ref q323879), (3, .int g323216), (0, .ref q270165), (1, .ref q270166), (2, .int p270167)] [] (va_pl P270163 F326623) 0 0 := by
                                intro n210_326627
                                induction n210_326627 with
                                | zero => intro F326623 g326622 bg326622 hT326624 hs326625 x326626 x326627 hm210_326627; exact absurd hm210_326627 (Nat.not_lt_zero _)
                                | succ n210_326627 ih210_326627 =>
                                  intro F326623 g326622 bg326622 hT326624 hs326625 x326626 x326627 hm210_326627
                                  have hs326629 : rStr γ [] F325702 F326623 := fun b h0 hb hw => (hs326625 b h0 hb hw).trans (hs325712 b h0 hb hw).symm
                                  have he326630 : F326623 q270166 = .inr (18, [.ref q323229, .ref q323230, .int p323231, .int p323232]) := (hs326629 q270166 (rT0 htq270166 (by decide)) (rT1 htq270166 (by decide)) (rT2 htq270166 (by decide))).trans he325705
                                  have he326631 : F326623 q323229 = .inr (4, [.int p323860, .ref q323862, .int p323861]) := (hs326629 q323229 (rT0 ht323233 (by decide)) (rT1 ht323233 (by decide)) (rT2 ht323233 (by decide))).trans he325706
                                  have he326632 : F326623 q323862 = .inl (I (.object "java/lang/Object"), n323876, .inr (.inr (.inr (.inr f323877)))) := (hs326629 q323862 (rT0 r323868 (by decide)) (rT1 r323868 (by decide)) (rT2 r323868 (by decide))).trans he325707
                                  have he326633 : F326623 q323879 = .inr (17, [.ref q323888, .ref q323889, .int p323890, .int p323891]) := (hs326629 q323879 (rT0 ht323884 (by decide)) (rT1 ht323884 (by decide)) (rT2 ht323884 (by decide))).trans he325708
                                  have he326634 : F326623 q323888 = .inr (4, [.int p325651, .ref q325653, .int p325652]) := (hs326629 q323888 (rT0 ht323892 (by decide)) (rT1 ht323892 (by decide)) (rT2 ht323892 (by decide))).trans he325709
                                  have he326635 : F326623 q325653 = .inl (I (.object "java/lang/Object"), n325667, .inr (.inr (.inr (.inr f325668)))) := (hs326629 q325653 (rT0 r325659 (by decide)) (rT1 r325659 (by decide)) (rT2 r325659 (by decide))).trans he325710
                                  have he326636 : F326623 q325670 = .inr (20, [.int p325683, .int p325684, .int p325685, .int p325686, .int p325687, .int p325688, .int p325689]) := (hs326629 q325670 (rT0 ht325673 (by decide)) (rT1 ht325673 (by decide)) (rT2 ht325673 (by decide))).trans he325711
                                  have hs326637 : rStr γ [] F270164 F326623 := rStr_tr hs325712 hs326629
                                  have he326638 : F326623 q270165 = .inr (22, [.ref (γ 9 0), .ref (γ 9 1), .ref (γ 9 2), .ref (γ 9 3), .ref (γ 9 4), .ref (γ 9 5), .ref (γ 9 6), .ref (γ 9 7), .ref (γ 9 8), .int p270174, .int p270175, .int p270176, .int p270177, .int p270178, .int p270179, .ref (γ 9 15), .ref (γ 9 16), .ref (γ 9 17), .ref (γ 9 18), .ref (γ 9 19), .ref (γ 9 20), .ref (γ 9 21), .ref (γ 9 22), .int p270180, .int p270181, .int p270182, .int p270183, .int p270184, .ref q270172, .ref (γ 9 29), .int p270185, .ref (γ 9 31), .int p270186, .int p270187, .int p270188, .ref q270173]) := x326627.trans he270171
                                  have hm326639 : q270165 ∈ P270163 := RS_m hT326624 htq270165 (by decide)
                                  refine G_iload 0 dr_cX17_graph_210 rfl ?_
                                  refine G_bipush 32 dr_cX17_graph_212 (by decide +kernel) ?_
                                  refine G_icmp_ge 243 dr_cX17_graph_214 (by decide +kernel) (fun hc326640 => ?_) (fun hc326640 => ?_)
                                  · have r326641 : 32 ≤ g326622.toInt := gj_leL hc326640 (show Int32.toInt 32 = 32 by decide)
                                    have bg326622' : gB g326622 32 32 := ⟨by omega, by omega⟩
                                    refine G_iload 2 dr_cX17_graph_243 rfl ?_
                                    refine G_if_lt 265 dr_cX17_graph_245 (by decide +kernel) (fun _ => ?_) (fun hc => absurd (show False by have := gj_nlt hc (show Int32.toInt 0 = 0 by decide); omega) not_false)
                                    refine G_aload_n 8 dr_cX17_graph_265 rfl ?_
                                    refine Gp_get 1 hm326639 he326638 dr_cX17_graph_266 (gk_X17 D I) (Nat.le_of_ble_eq_true rfl) wr_7_75 rfl ?_
                                    refine G_iload 3 dr_cX17_graph_269 rfl ?_
                                    have hm326642 : (γ 9 1) ∈ P270163 := RS_m hT326624 ht270192 (by decide)
                                    obtain ⟨f326644, he326643, hg326645⟩ := show rk_13 I γ (F326623 (γ 9 1)) from RS_o hT326624 ht270192
                                    obtain ⟨q326646, hx326648⟩ : ∃ x, x = γ 11 o325724.toInt.toNat := ⟨_, rfl⟩
                                    have ht326647 : rKd γ q326646 36 := by rw [hx326648]; exact (hg326645 _ (show o325724.toInt.toNat < 2000 by omega)).2.1
                                    refine Gp_aald 5 hm326642 he326643 dr_cX17_graph_271 rfl rfl (gB_in bo325724' (by decide) (by decide)) ?_
                                    rw [show f326644 o325724.toNatClampNeg = some q326646 from (hg326645 _ (show o325724.toInt.toNat < 2000 by omega)).1.trans (by rw [hx326648])]
                                    change G _ _ _ _ _ _ _ (.ref q326646 :: _) _ _ _
                                    refine G_iload 3 dr_cX17_graph_272 rfl ?_
                                    have hm326649 : q326646 ∈ P270163 := RS_m hT326624 ht326647 (by decide)
                                    obtain ⟨f326651, he326650, wf326651⟩ := show rk_36 I (F326623 q326646) from RS_o hT326624 ht326647
                                    refine Gw_callS (As := [.ref q326646, .int o325724]) (gV_ok D I) (cp_1873_SpillForgeModel_clear l hl0 D I P270163 F326623 q326646 o325724 f326651 hm326649 he326650 bo325724' wf326651) dr_cX17_graph_274 ⟨wr_10_181, wr_1_14, wr_10_183, by decide, rfl, (Nat.le_of_ble_eq_true rfl), (Nat.le_of_ble_eq_true rfl)⟩ wr_10_182 (show 0 + 0 ≤ 0 by first | omega | decide) (show 0 + 0 ≤ 0 by first | omega | decide) (Nat.le_of_ble_eq_true rfl) (fun r326655 w326656 dc326652 ds326653 hp326654 => ?_) (fun _ _ _ _ _ z => z.elim)
                                    obtain ⟨F326659, f326657, rfl, rfl, hfr326661, he326662, hdc, hds, x326658⟩ := hp326654
                                    have he326663 : F326659 q270166 = .inr (18, [.ref q323229, .ref q323230, .int p323231, .int p323232]) := (hfr326661 q270166 hm323227 (nm_c (rn_oa he326630 he326650) nm_n)).trans he326630
                                    have he326664 : F326659 q323229 = .inr (4, [.int p323860, .ref q323862, .int p323861]) := (hfr326661 q323229 hm323858 (nm_c (rn_oa he326631 he326650) nm_n)).trans he326631
                                    have he326665 : F326659 q323862 = .inl (I (.object "java/lang/Object"), n323876, .inr (.inr (.inr (.inr f323877)))) := (hfr326661 q323862 hm323878 (nm_c (rn_ref_long he326632 he326650) nm_n)).trans he326632
                                    have he326666 : F326659 q323879 = .inr (17, [.ref q323888, .ref q323889, .int p323890, .int p323891]) := (hfr326661 q323879 hm323886 (nm_c (rn_oa he326633 he326650) nm_n)).trans he326633
                                    have he326667 : F326659 q323888 = .inr (4, [.int p325651, .ref q325653, .int p325652]) := (hfr326661 q323888 hm325649 (nm_c (rn_oa he326634 he326650) nm_n)).trans he326634
                                    have he326668 : F326659 q325653 = .inl (I (.object "java/lang/Object"), n325667, .inr (.inr (.inr (.inr f325668)))) := (hfr326661 q325653 hm325669 (nm_c (rn_ref_long he326635 he326650) nm_n)).trans he326635
                                    have he326669 : F326659 q325670 = .inr (20, [.int p325683, .int p325684, .int p325685, .int p325686, .int p325687, .int p325688, .int p325689]) := (hfr326661 q325670 hm325681 (nm_c (rn_oa he326636 he326650) nm_n)).trans he326636
                                    have he326670 : F326659 q270165 = .inr (22, [.ref (γ 9 0), .ref (γ 9 1), .ref (γ 9 2), .ref (γ 9 3), .ref (γ 9 4), .ref (γ 9 5), .ref (γ 9 6), .ref (γ 9 7), .ref (γ 9 8), .int p270174, .int p270175, .int p270176, .int p270177, .int p270178, .int p270179, .ref (γ 9 15), .ref (γ 9 16), .ref (γ 9 17), .ref (γ 9 18), .ref (γ 9 19), .ref (γ 9 20), .ref (γ 9 21), .ref (γ 9 22), .int p270180, .int p270181, .int p270182, .int p270183, .int p270184, .ref q270172, .ref (γ 9 29), .int p270185, .ref (γ 9 31), .int p270186, .int p270187, .int p270188, .ref q270173]) := (hfr326661 q270165 hm326639 (nm_c (rn_oa he326638 he326650) nm_n)).trans he326638
                                    have he326671 : F326659 (γ 9 1) = .inl (I (.array .long), 2000, .inr (.inr (.inr (.inr f326644)))) := (hfr326661 (γ 9 1) hm326642 (nm_c (rn_ref_long he326643 he326650) nm_n)).trans he326643
                                    have hfr326672 : rFr [q326646] P270163 F326623 F326659 := rFr_call (rSub_rf (P := P270163)) (rFr_rf (W := []) (P := P270163) (F := F326623)) hfr326661 (fun b hb hn => ⟨nm_n, (nm_c (fun e => hn (e ▸ List.mem_cons_self)) nm_n)⟩)
                                    change G _ _ _ _ _ _ _ _ _ _ _
                                    refine G_widen (cs' := 0) (sl' := 0) (by omega) (by omega) ?_
                                    have hT326673 : RS D I P270163 F326659 γ el := RS_fr hT326624 hfr326672 ht326647 (by decide) ⟨f326657, he326662, x326658⟩
                                    have hs326674 : rStr γ [] F270164 F326659 := rStr_fr hT326624 hs326625 hfr326672 ht326647 (by decide)
                                    have kp326675 : F326659 q270165 = F270164 q270165 := (hfr326672 q270165 (RS_m hT326624 htq270165 (by decide)) (nm_c (rn_ty htq270165 ht326647 (by decide)) nm_n)).trans x326627
                                    have kp326676 : F326659 (γ 9 3) = F326623 (γ 9 3) := hfr326672 (γ 9 3) (RS_m hT326624 ht270194 (by decide)) (nm_c (rn_ty ht270194 ht326647 (by decide)) nm_n)
                                    refine G_aload_n 8 dr_cX17_graph_277 rfl ?_
                                    refine G_aload 4 dr_cX17_graph_278 rfl ?_
                                    refine G_iload_n 10 dr_cX17_graph_280 rfl ?_
                                    refine Gw_callV (As := [.ref q325670, .int p270167]) (gV_ok D I) (ct_276878_SpillForgeModel_back l hl0 D I γ el P270163 F326659 q270165 q325670 p270167 hT326673 htq270165 ht325673 (gB_w bp270167' (by decide) (by decide))) dr_cX17_graph_281 ⟨wr_10_170, wr_1_14, wr_10_173, by decide, rfl, (Nat.le_of_ble_eq_true rfl), (Nat.le_of_ble_eq_true rfl)⟩ wr_10_172 wr_p_96 hm326639 he326670 rfl (show 0 + 0 ≤ 0 by first | omega | decide) (show 0 + 0 ≤ 0 by first | omega | decide) (Nat.le_of_ble_eq_true rfl) (fun r326680 w326681 dc326677 ds326678 hp326679 => ?_) (fun _ _ _ _ _ z => z.elim)
                                    obtain ⟨F326684, rfl, rfl, hT326685, hs326686, hdc, hds, x326682, x326683⟩ := hp326679
                                    have he326687 : F326684 q270166 = .inr (18, [.ref q323229, .ref q323230, .int p323231, .int p323232]) := (hs326686 q270166 (rT0 htq270166 (by decide)) (rT1 htq270166 (by decide)) (rT2 htq270166 (by decide))).trans he326663
                                    have he326688 : F326684 q323229 = .inr (4, [.int p323860, .ref q323862, .int p323861]) := (hs326686 q323229 (rT0 ht323233 (by decide)) (rT1 ht323233 (by decide)) (rT2 ht323233 (by decide))).trans he326664
                                    have he326689 : F326684 q323862 = .inl (I (.object "java/lang/Object"), n323876, .inr (.inr (.inr (.inr f323877)))) := (hs326686 q323862 (rT0 r323868 (by decide)) (rT1 r323868 (by decide)) (rT2 r323868 (by decide))).trans he326665
                                    have he326690 : F326684 q323879 = .inr (17, [.ref q323888, .ref q323889, .int p323890, .int p323891]) := (hs326686 q323879 (rT0 ht323884 (by decide)) (rT1 ht323884 (by decide)) (rT2 ht323884 (by decide))).trans he326666
                                    have he326691 : F326684 q323888 = .inr (4, [.int p325651, .ref q325653, .int p325652]) := (hs326686 q323888 (rT0 ht323892 (by decide)) (rT1 ht323892 (by decide)) (rT2 ht323892 (by decide))).trans he326667
                                    have he326692 : F326684 q325653 = .inl (I (.object "java/lang/Object"), n325667, .inr (.inr (.inr (.inr f325668)))) := (hs326686 q325653 (rT0 r325659 (by decide)) (rT1 r325659 (by decide)) (rT2 r325659 (by decide))).trans he326668
                                    have he326693 : F326684 q325670 = .inr (20, [.int p325683, .int p325684, .int p325685, .int p325686, .int p325687, .int p325688, .int p325689]) := (hs326686 q325670 (rT0 ht325673 (by decide)) (rT1 ht325673 (by decide)) (rT2 ht325673 (by decide))).trans he326669
                                    have hs326694 : rStr γ [] F270164 F326684 := rStr_tr hs326674 hs326686
                                    have kp326695 : F326684 q270165 = F270164 q270165 := (x326682).trans kp326675
                                    have kp326696 : F326684 (γ 9 3) = F326623 (γ 9 3) := (x326683).trans kp326676
                                    have he326697 : F326684 q270165 = .inr (22, [.ref (γ 9 0), .ref (γ 9 1), .ref (γ 9 2), .ref (γ 9 3), .ref (γ 9 4), .ref (γ 9 5), .ref (γ 9 6), .ref (γ 9 7), .ref (γ 9 8), .int p270174, .int p270175, .int p270176, .int p270177, .int p270178, .int p270179, .ref (γ 9 15), .ref (γ 9 16), .ref (γ 9 17), .ref (γ 9 18), .ref (γ 9 19), .ref (γ 9 20), .ref (γ 9 21), .ref (γ 9 22), .int p270180, .int p270181, .int p270182, .int p270183, .int p270184, .ref q270172, .ref (γ 9 29), .int p270185, .ref (γ 9 31), .int p270186, .int p270187, .int p270188, .ref q270173]) := (x326682).trans he326670
                                    change G _ _ _ _ _ _ _ _ _ _ _
                                    refine G_widen (cs' := 0) (sl' := 0) (by omega) (by omega) ?_
                                    obtain ⟨z326698, hz326698⟩ : ∃ z : Int32, z = g325627 + Int32.ofInt (-1) := ⟨_, rfl⟩
                                    have ez326698 : z326698.toInt = g325627.toInt + (-1) := gI_inc hz326698 (by decide) bg325627' (by decide) (by decide)
                                    have bz326698 : gB z326698 (-1) 999998 := ⟨by omega, by omega⟩
                                    refine G_iinc (L' := [(5, .int z326698), (10, .int g326622), (9, .int 0), (8, .int p325685), (7, .int o325724), (6, .ref q325670), (4, .ref q323879), (3, .int g323216), (0, .ref q270165), (1, .ref q270166), (2, .int p270167)]) z326698 5 dr_cX17_graph_284 rfl hz326698.symm (Nat.le_of_ble_eq_true rfl) rfl ?_
                                    refine G_goto 109 dr_cX17_graph_287 (by decide +kernel) ?_
                                    refine G_lv (L' := [(5, .int z326698), (4, .ref q323879), (3, .int g323216), (0, .ref q270165), (1, .ref q270166), (2, .int p270167)]) [0, 6, 7, 8, 9, 10] rfl ?_
                                    exact ih109_325633 F326684 z326698 (gB_w bz326698 (by decide) (by decide)) hT326685 hs326694 (by omega) (fun h0 => by have z := x326626 h0; rw [← kp326696] at z; rw [show ((g325627.toInt : Int).toNat : Nat) = (z326698.toInt + 1 : Int).toNat by omega] at z; exact z) kp326695 (mz_dn ez326698 (Int.le_trans (by decide) bg325627'.1) hm109_325633)
                                  · have r326699 : g326622.toInt < 32 := gj_nleL hc326640 (show Int32.toInt 32 = 32 by decide)
                                    have bg326622' : gB g326622 0 31 := ⟨by omega, by omega⟩
                                    refine G_aload_n 8 dr_cX17_graph_217 rfl ?_
                                    refine Gp_get 1 hm326639 he326638 dr_cX17_graph_218 (gk_X17 D I) (Nat.le_of_ble_eq_true rfl) wr_7_75 rfl ?_
                                    refine G_iload 3 dr_cX17_graph_221 rfl ?_
                                    have hm326700 : (γ 9 1) ∈ P270163 := RS_m hT326624 ht270192 (by decide)
                                    obtain ⟨f326702, he326701, hg326703⟩ := show rk_13 I γ (F326623 (γ 9 1)) from RS_o hT326624 ht270192
                                    obtain ⟨q326704, hx326706⟩ : ∃ x, x = γ 11 o325724.toInt.toNat := ⟨_, rfl⟩
                                    have ht326705 : rKd γ q326704 36 := by rw [hx326706]; exact (hg326703 _ (show o325724.toInt.toNat < 2000 by omega)).2.1
                                    refine Gp_aald 5 hm326700 he326701 dr_cX17_graph_223 rfl rfl (gB_in bo325724' (by decide) (by decide)) ?_
                                    rw [show f326702 o325724.toNatClampNeg = some q326704 from (hg326703 _ (show o325724.toInt.toNat < 2000 by omega)).1.trans (by rw [hx326706])]
                                    change G _ _ _ _ _ _ _ (.ref q326704 :: _) _ _ _
                                    refine G_iload 0 dr_cX17_graph_224 rfl ?_
                                    refine G_dup2_11 dr_cX17_graph_226 rfl rfl ?_
                                    have hm326707 : q326704 ∈ P270163 := RS_m hT326624 ht326705 (by decide)
                                    obtain ⟨f326709, he326708, wf326709⟩ := show rk_36 I (F326623 q326704) from RS_o hT326624 ht326705
                                    refine Gp_lald 2 hm326707 he326708 dr_cX17_graph_227 rfl (gB_in bg326622' (by decide) (by decide)) (G_namL fun u326710 hu326710 => ?_)
                                    have qu326710 : lb_Q u326710 (2000 - 64 * g326622.toInt) := lb_Wld hu326710 wf326709 (by omega) (by omega) (lb_Mod0 (by omega) (by omega))
                                    refine G_aload_n 8 dr_cX17_graph_228 rfl ?_
                                    refine Gp_get 2 hm326639 he326638 dr_cX17_graph_229 (gk_X17 D I) (Nat.le_of_ble_eq_true rfl) wr_7_76 rfl ?_
                                    refine G_iload 0 dr_cX17_graph_232 rfl ?_
                                    have hm326711 : (γ 9 2) ∈ P270163 := RS_m hT326624 ht270193 (by decide)
                                    obtain ⟨f326713, he326712, wf326713⟩ := show rk_35 I (F326623 (γ 9 2)) from RS_o hT326624 ht270193
                                    refine Gp_lald 2 hm326711 he326712 dr_cX17_graph_234 rfl (gB_in bg326622' (by decide) (by decide)) (G_namL fun u326714 hu326714 => ?_)
                                    have qu326714 : lb_Q u326714 (2000 - 64 * g326622.toInt) := lb_Wld hu326714 wf326713 (by omega) (by omega) (lb_Mod0 (by omega) (by omega))
                                    refine G_lor dr_cX17_graph_235 (G_namL fun u326715 hu326715 => ?_)
                                    have qu326715 : lb_Q u326715 (2000 - 64 * g326622.toInt) := lb_Qor hu326715 qu326710 qu326714
                                    refine Gp_last 2 hm326707 he326708 dr_cX17_graph_236 rfl (gB_in bg326622' (by decide) (by decide)) (fun F326716 e326717 n326718 => ?_)
                                    obtain ⟨f326719, hf326719⟩ : ∃ z, z = vp_updL f326709 g326622.toNatClampNeg u326715 := ⟨_, rfl⟩
                                    rw [← hf326719] at e326717
                                    have he326720 : F326716 q270166 = .inr (18, [.ref q323229, .ref q323230, .int p323231, .int p323232]) := (n326718 q270166 (rn_oa he326630 he326708)).trans he326630
                                    have he326721 : F326716 q323229 = .inr (4, [.int p323860, .ref q323862, .int p323861]) := (n326718 q323229 (rn_oa he326631 he326708)).trans he326631
                                    have he326722 : F326716 q323862 = .inl (I (.object "java/lang/Object"), n323876, .inr (.inr (.inr (.inr f323877)))) := (n326718 q323862 (rn_ref_long he326632 he326708)).trans he326632
                                    have he326723 : F326716 q323879 = .inr (17, [.ref q323888, .ref q323889, .int p323890, .int p323891]) := (n326718 q323879 (rn_oa he326633 he326708)).trans he326633
                                    have he326724 : F326716 q323888 = .inr (4, [.int p325651, .ref q325653, .int p325652]) := (n326718 q323888 (rn_oa he326634 he326708)).trans he326634
                                    have he326725 : F326716 q325653 = .inl (I (.object "java/lang/Object"), n325667, .inr (.inr (.inr (.inr f325668)))) := (n326718 q325653 (rn_ref_long he326635 he326708)).trans he326635
                                    have he326726 : F326716 q325670 = .inr (20, [.int p325683, .int p325684, .int p325685, .int p325686, .int p325687, .int p325688, .int p325689]) := (n326718 q325670 (rn_oa he326636 he326708)).trans he326636
                                    have he326727 : F326716 q270165 = .inr (22, [.ref (γ 9 0), .ref (γ 9 1), .ref (γ 9 2), .ref (γ 9 3), .ref (γ 9 4), .ref (γ 9 5), .ref (γ 9 6), .ref (γ 9 7), .ref (γ 9 8), .int p270174, .int p270175, .int p270176, .int p270177, .int p270178, .int p270179, .ref (γ 9 15), .ref (γ 9 16), .ref (γ 9 17), .ref (γ 9 18), .ref (γ 9 19), .ref (γ 9 20), .ref (γ 9 21), .ref (γ 9 22), .int p270180, .int p270181, .int p270182, .int p270183, .int p270184, .ref q270172, .ref (γ 9 29), .int p270185, .ref (γ 9 31), .int p270186, .int p270187, .int p270188, .ref q270173]) := (n326718 q270165 (rn_oa he326638 he326708)).trans he326638
                                    have he326728 : F326716 (γ 9 1) = .inl (I (.array .long), 2000, .inr (.inr (.inr (.inr f326702)))) := (n326718 (γ 9 1) (rn_ref_long he326701 he326708)).trans he326701
                                    have he326729 : F326716 (γ 9 2) = .inl (I .long, 32, .inr (.inl f326713)) := (n326718 (γ 9 2) (rn_ty ht270193 ht326705 (by decide))).trans he326712
                                    have he326730 : F326716 q326704 = .inl (I .long, 32, .inr (.inl f326719)) := e326717
                                    have hs326731 : rStr γ [] F270164 F326716 := rStr_put hs326625 n326718 ht326705 (by decide)
                                    have kp326732 : F326716 q270165 = F270164 q270165 := (n326718 q270165 (rn_ty htq270165 ht326705 (by decide))).trans x326627
                                    have kp326733 : F326716 (γ 9 3) = F326623 (γ 9 3) := n326718 (γ 9 3) (rn_ty ht270194 ht326705 (by decide))
                                    have wf326719 : lb_W f326719 (32) (32) (2000) := lb_Wst hf326719 wf326709 (by omega) (lb_Mod0 (by omega) (by omega)) qu326715
                                    obtain ⟨z326734, hz326734⟩ : ∃ z : Int32, z = g326622 + Int32.ofInt 1 := ⟨_, rfl⟩
                                    have ez326734 : z326734.toInt = g326622.toInt + 1 := gI_inc hz326734 (by decide) bg326622' (by decide) (by decide)
                                    have bz326734 : gB z326734 1 32 := ⟨by omega, by omega⟩
                                    refine G_iinc (L' := [(10, .int z326734), (9, .int 0), (8, .int p325685), (7, .int o325724), (6, .ref q325670), (5, .int g325627), (4, .ref q323879), (3, .int g323216), (0, .ref q270165), (1, .ref q270166), (2, .int p270167)]) z326734 0 dr_cX17_graph_237 rfl hz326734.symm (Nat.le_of_ble_eq_true rfl) rfl ?_
                                    refine G_goto 210 dr_cX17_graph_240 (by decide +kernel) ?_
                                    have hT326735 : RS D I P270163 F326716 γ el := RS_set hT326624 n326718 ht326705 (by decide) ⟨f326719, he326730, wf326719⟩
                                    exact ih210_326627 F326716 z326734 (gB_w bz326734 (by decide) (by decide)) hT326735 hs326731 (by rw [kp326733]; exact x326626) kp326732 (mz_up ez326734 (Int.le_trans bg326622'.2 (by decide)) hm210_326627)
                              exact hlp210_326627 (((33 : Int) - 0).toNat + 1) F325702 0 (gB_w (gBl (show Int32.toInt 0 = 0 by decide)) (by decide) (by decide)) hT325703 hs325712 gr325718 kp325713 (Nat.lt_succ_self _)
                            · have r326736 : 0 ≤ p325685.toInt := gj_nlt hc326509 (show Int32.toInt 0 = 0 by decide)
                              have bp325685' : gB p325685 0 2147483647 := ⟨by omega, by omega⟩
                              refine G_aload_n 6 dr_cX17_graph_185 rfl ?_
                              refine Gp_get 1 hm325643 he325714 dr_cX17_graph_186 (gk_X17 D I) (Nat.le_of_ble_eq_true rfl) wr_7_75 rfl ?_
                              refine G_iload 1 dr_cX17_graph_189 rfl ?_
                              have hm326737 : (γ 9 1) ∈ P270163 := RS_m hT325703 ht270192 (by decide)
                              obtain ⟨f326739, he326738, hg326740⟩ := show rk_13 I γ (F325702 (γ 9 1)) from RS_o hT325703 ht270192
                              obtain ⟨q326741, hx326743⟩ : ∃ x, x = γ 11 o325724.toInt.toNat := ⟨_, rfl⟩
                              have ht326742 : rKd γ q326741 36 := by rw [hx326743]; exact (hg326740 _ (show o325724.toInt.toNat < 2000 by omega)).2.1
                              refine Gp_aald 5 hm326737 he326738 dr_cX17_graph_191 rfl rfl (gB_in bo325724' (by decide) (by decide)) ?_
                              rw [show f326739 o325724.toNatClampNeg = some q326741 from (hg326740 _ (show o325724.toInt.toNat < 2000 by omega)).1.trans (by rw [hx326743])]
                              change G _ _ _ _ _ _ _ (.ref q326741 :: _) _ _ _
                              refine G_iload 0 dr_cX17_graph_192 rfl ?_
                              have hm326744 : q326741 ∈ P270163 := RS_m hT325703 ht326742 (by decide)
                              obtain ⟨f326746, he326745, wf326746⟩ := show rk_36 I (F325702 q326741) from RS_o hT325703 ht326742
                              refine Gw_callS (As := [.ref q326741, .int p325685]) (gV_ok D I) (cp_1838_SpillForgeModel_has l hl0 D I P270163 F325702 q326741 p325685 f326746 hm326744 he326745 ⟨by omega, by omega⟩) dr_cX17_graph_194 ⟨wr_10_199, wr_1_14, wr_10_201, by decide, rfl, (Nat.le_of_ble_eq_true rfl), (Nat.le_of_ble_eq_true rfl)⟩ wr_10_200 (show 0 + 0 ≤ 0 by first | omega | decide) (show 0 + 0 ≤ 0 by first | omega | decide) (Nat.le_of_ble_eq_true rfl) (fun r326750 w326751 dc326747 ds326748 hp326749 => ?_) (fun _ _ _ _ _ z => z.elim)
                              rcases hp326749 with ⟨z326752, z326753, rfl, rfl, hdc, hds, r326754, r326755, r326756, r326757⟩ | ⟨z326758, z326759, rfl, rfl, hdc, hds, r326760, r326761, r326762, r326763⟩
                              · change G _ _ _ _ _ _ _ (.int 0 :: _) _ _ _
                                refine G_widen (cs' := 0) (sl' := 0) (by omega) (by omega) ?_
                                refine G_if_eq 204 dr_cX17_graph_197 (by decide +kernel) (fun _ => ?_) (fun hc => absurd hc (by decide))
                                refine G_iconst 0 dr_cX17_graph_204 (by decide +kernel) ?_
                                refine G_istore (L' := [(9, .int 0), (8, .int p325685), (7, .int o325724), (6, .ref q325670), (5, .int g325627), (4, .ref q323879), (3, .int g323216), (0, .ref q270165), (1, .ref q270166), (2, .int p270167)]) dr_cX17_graph_205 (Nat.le_of_ble_eq_true rfl) rfl ?_
                                refine G_iconst 0 dr_cX17_graph_207 (by decide +kernel) ?_
                                refine G_istore (L' := [(10, .int 0), (9, .int 0), (8, .int p325685), (7, .int o325724), (6, .ref q325670), (5, .int g325627), (4, .ref q323879), (3, .int g323216), (0, .ref q270165), (1, .ref q270166), (2, .int p270167)]) dr_cX17_graph_208 (Nat.le_of_ble_eq_true rfl) rfl ?_
                                have hlp210_326912 : ∀ (n210_326912 : Nat) (F326908 : Nat → va_E) (g326907 : Int32), gB g326907 0 32 → RS D I P270163 F326908 γ el → rStr γ [] F270164 F326908 → (gIp (p270167.toInt = 0) (rGr γ el F270164 q270166 (γ 6 (γ 1 q270166)) (cB (F326908 (γ 9 3))) (vB (g323216.toInt : Int).toNat (g325627.toInt : Int).toNat))) → (F326908 q270165 = F270164 q270165) → ((33 : Int) - g326907.toInt).toNat < n210_326912 → G (gV D I) l (gRm 5 111 0 0) (gMA (gV D I) (pt_270169_SpillForgeModel_graph D I γ el P270163 F270164 q270165 q270166 p270167) gNA 0 0) ky_270169_SpillForgeModel_graph 210 [(10, .int g326907), (9, .int 0), (8, .int p325685), (7, .int o325724), (6, .ref q325670), (5, .int g325627), (4, .ref q323879), (3, .int g323216), (0, .ref q270165), (1, .ref q270166), (2, .int p270167)] [] (va_pl P270163 F326908) 0 0 := by
                                  intro n210_326912
                                  induction n210_326912 with
                                  | zero => intro F326908 g326907 bg326907 hT326909 hs326910 x326911 x326912 hm210_326912; exact absurd hm210_326912 (Nat.not_lt_zero _)
                                  | succ n210_326912 ih210_326912 =>
                                    intro F326908 g326907 bg326907 hT326909 hs326910 x326911 x326912 hm210_326912
                                    have hs326914 : rStr γ [] F325702 F326908 := fun b h0 hb hw => (hs326910 b h0 hb hw).trans (hs325712 b h0 hb hw).symm
                                    have he326915 : F326908 q270166 = .inr (18, [.ref q323229, .ref q323230, .int p323231, .int p323232]) := (hs326914 q270166 (rT0 htq270166 (by decide)) (rT1 htq270166 (by decide)) (rT2 htq270166 (by decide))).trans he325705
                                    have he326916 : F326908 q323229 = .inr (4, [.int p323860, .ref q323862, .int p323861]) := (hs326914 q323229 (rT0 ht323233 (by decide)) (rT1 ht323233 (by decide)) (rT2 ht323233 (by decide))).trans he325706
                                    have he326917 : F326908 q323862 = .inl (I (.object "java/lang/Object"), n323876, .inr (.inr (.inr (.inr f323877)))) := (hs326914 q323862 (rT0 r323868 (by decide)) (rT1 r323868 (by decide)) (rT2 r323868 (by decide))).trans he325707
                                    have he326918 : F326908 q323879 = .inr (17, [.ref q323888, .ref q323889, .int p323890, .int p323891]) := (hs326914 q323879 (rT0 ht323884 (by decide)) (rT1 ht323884 (by decide)) (rT2 ht323884 (by decide))).trans he325708
                                    have he326919 : F326908 q323888 = .inr (4, [.int p325651, .ref q325653, .int p325652]) := (hs326914 q323888 (rT0 ht323892 (by decide)) (rT1 ht323892 (by decide)) (rT2 ht323892 (by decide))).trans he325709
                                    have he326920 : F326908 q325653 = .inl (I (.object "java/lang/Object"), n325667, .inr (.inr (.inr (.inr f325668)))) := (hs326914 q325653 (rT0 r325659 (by decide)) (rT1 r325659 (by decide)) (rT2 r325659 (by decide))).trans he325710
                                    have he326921 : F326908 q325670 = .inr (20, [.int p325683, .int p325684, .int p325685, .int p325686, .int p325687, .int p325688, .int p325689]) := (hs326914 q325670 (rT0 ht325673 (by decide)) (rT1 ht325673 (by decide)) (rT2 ht325673 (by decide))).trans he325711
                                    have hs326922 : rStr γ [] F270164 F326908 := rStr_tr hs325712 hs326914
                                    have he326923 : F326908 q270165 = .inr (22, [.ref (γ 9 0), .ref (γ 9 1), .ref (γ 9 2), .ref (γ 9 3), .ref (γ 9 4), .ref (γ 9 5), .ref (γ 9 6), .ref (γ 9 7), .ref (γ 9 8), .int p270174, .int p270175, .int p270176, .int p270177, .int p270178, .int p270179, .ref (γ 9 15), .ref (γ 9 16), .ref (γ 9 17), .ref (γ 9 18), .ref (γ 9 19), .ref (γ 9 20), .ref (γ 9 21), .ref (γ 9 22), .int p270180, .int p270181, .int p270182, .int p270183, .int p270184, .ref q270172, .ref (γ 9 29), .int p270185, .ref (γ 9 31), .int p270186, .int p270187, .int p270188, .ref q270173]) := x326912.trans he270171
                                    have hm326924 : q270165 ∈ P270163 := RS_m hT326909 htq270165 (by decide)
                                    refine G_iload 0 dr_cX17_graph_210 rfl ?_
                                    refine G_bipush 32 dr_cX17_graph_212 (by decide +kernel) ?_
                                    refine G_icmp_ge 243 dr_cX17_graph_214 (by decide +kernel) (fun hc326925 => ?_) (fun hc326925 => ?_)
                                    · have r326926 : 32 ≤ g326907.toInt := gj_leL hc326925 (show Int32.toInt 32 = 32 by decide)
                                      have bg326907' : gB g326907 32 32 := ⟨by omega, by omega⟩
                                      refine G_iload 2 dr_cX17_graph_243 rfl ?_
                                      refine G_if_lt 265 dr_cX17_graph_245 (by decide +kernel) (fun hc => absurd (show False by have := gj_lt hc (show Int32.toInt 0 = 0 by decide); omega) not_false) (fun _ => ?_)
                                      refine G_iload 1 dr_cX17_graph_248 rfl ?_
                                      refine G_if_ne 265 dr_cX17_graph_250 (by decide +kernel) (fun hc => absurd hc (by decide)) (fun _ => ?_)
                                      refine G_aload_n 8 dr_cX17_graph_253 rfl ?_
                                      refine Gp_get 1 hm326924 he326923 dr_cX17_graph_254 (gk_X17 D I) (Nat.le_of_ble_eq_true rfl) wr_7_75 rfl ?_
                                      refine G_iload 3 dr_cX17_graph_257 rfl ?_
                                      have hm326927 : (γ 9 1) ∈ P270163 := RS_m hT326909 ht270192 (by decide)
                                      obtain ⟨f326929, he326928, hg326930⟩ := show rk_13 I γ (F326908 (γ 9 1)) from RS_o hT326909 ht270192
                                      obtain ⟨q326931, hx326933⟩ : ∃ x, x = γ 11 o325724.toInt.toNat := ⟨_, rfl⟩
                                      have ht326932 : rKd γ q326931 36 := by rw [hx326933]; exact (hg326930 _ (show o325724.toInt.toNat < 2000 by omega)).2.1
                                      refine Gp_aald 5 hm326927 he326928 dr_cX17_graph_259 rfl rfl (gB_in bo325724' (by decide) (by decide)) ?_
                                      rw [show f326929 o325724.toNatClampNeg = some q326931 from (hg326930 _ (show o325724.toInt.toNat < 2000 by omega)).1.trans (by rw [hx326933])]
                                      change G _ _ _ _ _ _ _ (.ref q326931 :: _) _ _ _
                                      refine G_iload 2 dr_cX17_graph_260 rfl ?_
                                      have hm326934 : q326931 ∈ P270163 := RS_m hT326909 ht326932 (by decide)
                                      obtain ⟨f326936, he326935, wf326936⟩ := show rk_36 I (F326908 q326931) from RS_o hT326909 ht326932
                                      refine Gw_callS (As := [.ref q326931, .int p325685]) (gV_ok D I) (cp_1873_SpillForgeModel_clear l hl0 D I P270163 F326908 q326931 p325685 f326936 hm326934 he326935 ⟨by omega, by omega⟩ wf326936) dr_cX17_graph_262 ⟨wr_10_181, wr_1_14, wr_10_183, by decide, rfl, (Nat.le_of_ble_eq_true rfl), (Nat.le_of_ble_eq_true rfl)⟩ wr_10_182 (show 0 + 0 ≤ 0 by first | omega | decide) (show 0 + 0 ≤ 0 by first | omega | decide) (Nat.le_of_ble_eq_true rfl) (fun r326940 w326941 dc326937 ds326938 hp326939 => ?_) (fun _ _ _ _ _ z => z.elim)
                                      obtain ⟨F326944, f326942, rfl, rfl, hfr326946, he326947, hdc, hds, x326943⟩ := hp326939
                                      have he326948 : F326944 q270166 = .inr (18, [.ref q323229, .ref q323230, .int p323231, .int p323232]) := (hfr326946 q270166 hm323227 (nm_c (rn_oa he326915 he326935) nm_n)).trans he326915
                                      have he326949 : F326944 q323229 = .inr (4, [.int p323860, .ref q323862, .int p323861]) := (hfr326946 q323229 hm323858 (nm_c (rn_oa he326916 he326935) nm_n)).trans he326916
                                      have he326950 : F326944 q323862 = .inl (I (.object "java/lang/Object"), n323876, .inr (.inr (.inr (.inr f323877)))) := (hfr326946 q323862 hm323878 (nm_c (rn_ref_long he326917 he326935) nm_n)).trans he326917
                                      have he326951 : F326944 q323879 = .inr (17, [.ref q323888, .ref q323889, .int p323890, .int p323891]) := (hfr326946 q323879 hm323886 (nm_c (rn_oa he326918 he326935) nm_n)).trans he326918
                                      have he326952 : F326944 q323888 = .inr (4, [.int p325651, .ref q325653, .int p325652]) := (hfr326946 q323888 hm325649 (nm_c (rn_oa he326919 he326935) nm_n)).trans he326919
                                      have he326953 : F326944 q325653 = .inl (I (.object "java/lang/Object"), n325667, .inr (.inr (.inr (.inr f325668)))) := (hfr326946 q325653 hm325669 (nm_c (rn_ref_long he326920 he326935) nm_n)).trans he326920
                                      have he326954 : F326944 q325670 = .inr (20, [.int p325683, .int p325684, .int p325685, .int p325686, .int p325687, .int p325688, .int p325689]) := (hfr326946 q325670 hm325681 (nm_c (rn_oa he326921 he326935) nm_n)).trans he326921
                                      have he326955 : F326944 q270165 = .inr (22, [.ref (γ 9 0), .ref (γ 9 1), .ref (γ 9 2), .ref (γ 9 3), .ref (γ 9 4), .ref (γ 9 5), .ref (γ 9 6), .ref (γ 9 7), .ref (γ 9 8), .int p270174, .int p270175, .int p270176, .int p270177, .int p270178, .int p270179, .ref (γ 9 15), .ref (γ 9 16), .ref (γ 9 17), .ref (γ 9 18), .ref (γ 9 19), .ref (γ 9 20), .ref (γ 9 21), .ref (γ 9 22), .int p270180, .int p270181, .int p270182, .int p270183, .int p270184, .ref q270172, .ref (γ 9 29), .int p270185, .ref (γ 9 31), .int p270186, .int p270187, .int p270188, .ref q270173]) := (hfr326946 q270165 hm326924 (nm_c (rn_oa he326923 he326935) nm_n)).trans he326923
                                      have he326956 : F326944 (γ 9 1) = .inl (I (.array .long), 2000, .inr (.inr (.inr (.inr f326929)))) := (hfr326946 (γ 9 1) hm326927 (nm_c (rn_ref_long he326928 he326935) nm_n)).trans he326928
                                      have hfr326957 : rFr [q326931] P270163 F326908 F326944 := rFr_call (rSub_rf (P := P270163)) (rFr_rf (W := []) (P := P270163) (F := F326908)) hfr326946 (fun b hb hn => ⟨nm_n, (nm_c (fun e => hn (e ▸ List.mem_cons_self)) nm_n)⟩)
                                      change G _ _ _ _ _ _ _ _ _ _ _
                                      refine G_widen (cs' := 0) (sl' := 0) (by omega) (by omega) ?_
                                      have hT326958 : RS D I P270163 F326944 γ el := RS_fr hT326909 hfr326957 ht326932 (by decide) ⟨f326942, he326947, x326943⟩
                                      have hs326959 : rStr γ [] F270164 F326944 := rStr_fr hT326909 hs326910 hfr326957 ht326932 (by decide)
                                      have kp326960 : F326944 q270165 = F270164 q270165 := (hfr326957 q270165 (RS_m hT326909 htq270165 (by decide)) (nm_c (rn_ty htq270165 ht326932 (by decide)) nm_n)).trans x326912
                                      have kp326961 : F326944 (γ 9 3) = F326908 (γ 9 3) := hfr326957 (γ 9 3) (RS_m hT326909 ht270194 (by decide)) (nm_c (rn_ty ht270194 ht326932 (by decide)) nm_n)
                                      refine G_aload_n 8 dr_cX17_graph_265 rfl ?_
                                      refine Gp_get 1 hm326924 he326955 dr_cX17_graph_266 (gk_X17 D I) (Nat.le_of_ble_eq_true rfl) wr_7_75 rfl ?_
                                      refine G_iload 3 dr_cX17_graph_269 rfl ?_
                                      obtain ⟨q326962, hx326964⟩ : ∃ x, x = γ 11 o325724.toInt.toNat := ⟨_, rfl⟩
                                      have ht326963 : rKd γ q326962 36 := by rw [hx326964]; exact (hg326930 _ (show o325724.toInt.toNat < 2000 by omega)).2.1
                                      refine Gp_aald 5 hm326927 he326956 dr_cX17_graph_271 rfl rfl (gB_in bo325724' (by decide) (by decide)) ?_
                                      rw [show f326929 o325724.toNatClampNeg = some q326962 from (hg326930 _ (show o325724.toInt.toNat < 2000 by omega)).1.trans (by rw [hx326964])]
                                      change G _ _ _ _ _ _ _ (.ref q326962 :: _) _ _ _
                                      refine G_iload 3 dr_cX17_graph_272 rfl ?_
                                      have hm326965 : q326962 ∈ P270163 := RS_m hT326958 ht326963 (by decide)
                                      obtain ⟨f326967, he326966, wf326967⟩ := show rk_36 I (F326944 q326962) from RS_o hT326958 ht326963
                                      refine Gw_callS (As := [.ref q326962, .int o325724]) (gV_ok D I) (cp_1873_SpillForgeModel_clear l hl0 D I P270163 F326944 q326962 o325724 f326967 hm326965 he326966 bo325724' wf326967) dr_cX17_graph_274 ⟨wr_10_181, wr_1_14, wr_10_183, by decide, rfl, (Nat.le_of_ble_eq_true rfl), (Nat.le_of_ble_eq_true rfl)⟩ wr_10_182 (show 0 + 0 ≤ 0 by first | omega | decide) (show 0 + 0 ≤ 0 by first | omega | decide) (Nat.le_of_ble_eq_true rfl) (fun r326971 w326972 dc326968 ds326969 hp326970 => ?_) (fun _ _ _ _ _ z => z.elim)
                                      obtain ⟨F326975, f326973, rfl, rfl, hfr326977, he326978, hdc, hds, x326974⟩ := hp326970
                                      have he326979 : F326975 q270166 = .inr (18, [.ref q323229, .ref q323230, .int p323231, .int p323232]) := (hfr326977 q270166 hm323227 (nm_c (rn_oa he326948 he326966) nm_n)).trans he326948
                                      have he326980 : F326975 q323229 = .inr (4, [.int p323860, .ref q323862, .int p323861]) := (hfr326977 q323229 hm323858 (nm_c (rn_oa he326949 he326966) nm_n)).trans he326949
                                      have he326981 : F326975 q323862 = .inl (I (.object "java/lang/Object"), n323876, .inr (.inr (.inr (.inr f323877)))) := (hfr326977 q323862 hm323878 (nm_c (rn_ref_long he326950 he326966) nm_n)).trans he326950
                                      have he326982 : F326975 q323879 = .inr (17, [.ref q323888, .ref q323889, .int p323890, .int p323891]) := (hfr326977 q323879 hm323886 (nm_c (rn_oa he326951 he326966) nm_n)).trans he326951
                                      have he326983 : F326975 q323888 = .inr (4, [.int p325651, .ref q325653, .int p325652]) := (hfr326977 q323888 hm325649 (nm_c (rn_oa he326952 he326966) nm_n)).trans he326952
                                      have he326984 : F326975 q325653 = .inl (I (.object "java/lang/Object"), n325667, .inr (.inr (.inr (.inr f325668)))) := (hfr326977 q325653 hm325669 (nm_c (rn_ref_long he326953 he326966) nm_n)).trans he326953
                                      have he326985 : F326975 q325670 = .inr (20, [.int p325683, .int p325684, .int p325685, .int p325686, .int p325687, .int p325688, .int p325689]) := (hfr326977 q325670 hm325681 (nm_c (rn_oa he326954 he326966) nm_n)).trans he326954
                                      have he326986 : F326975 q270165 = .inr (22, [.ref (γ 9 0), .ref (γ 9 1), .ref (γ 9 2), .ref (γ 9 3), .ref (γ 9 4), .ref (γ 9 5), .ref (γ 9 6), .ref (γ 9 7), .ref (γ 9 8), .int p270174, .int p270175, .int p270176, .int p270177, .int p270178, .int p270179, .ref (γ 9 15), .ref (γ 9 16), .ref (γ 9 17), .ref (γ 9 18), .ref (γ 9 19), .ref (γ 9 20), .ref (γ 9 21), .ref (γ 9 22), .int p270180, .int p270181, .int p270182, .int p270183, .int p270184, .ref q270172, .ref (γ 9 29), .int p270185, .ref (γ 9 31), .int p270186, .int p270187, .int p270188, .ref q270173]) := (hfr326977 q270165 hm326924 (nm_c (rn_oa he326955 he326966) nm_n)).trans he326955
                                      have he326987 : F326975 (γ 9 1) = .inl (I (.array .long), 2000, .inr (.inr (.inr (.inr f326929)))) := (hfr326977 (γ 9 1) hm326927 (nm_c (rn_ref_long he326956 he326966) nm_n)).trans he326956
                                      have hfr326988 : rFr [q326962] P270163 F326944 F326975 := rFr_call (rSub_rf (P := P270163)) (rFr_rf (W := []) (P := P270163) (F := F326944)) hfr326977 (fun b hb hn => ⟨nm_n, (nm_c (fun e => hn (e ▸ List.mem_cons_self)) nm_n)⟩)
                                      change G _ _ _ _ _ _ _ _ _ _ _
                                      refine G_widen (cs' := 0) (sl' := 0) (by omega) (by omega) ?_
                                      have hT326989 : RS D I P270163 F326975 γ el := RS_fr hT326958 hfr326988 ht326963 (by decide) ⟨f326973, he326978, x326974⟩
                                      have hs326990 : rStr γ [] F270164 F326975 := rStr_fr hT326958 hs326959 hfr326988 ht326963 (by decide)
                                      have kp326991 : F326975 q270165 = F270164 q270165 := (hfr326988 q270165 (RS_m hT326958 htq270165 (by decide)) (nm_c (rn_ty htq270165 ht326963 (by decide)) nm_n)).trans kp326960
                                      have kp326992 : F326975 (γ 9 3) = F326908 (γ 9 3) := (hfr326988 (γ 9 3) (RS_m hT326958 ht270194 (by decide)) (nm_c (rn_ty ht270194 ht326963 (by decide)) nm_n)).trans kp326961
                                      refine G_aload_n 8 dr_cX17_graph_277 rfl ?_
                                      refine G_aload 4 dr_cX17_graph_278 rfl ?_
                                      refine G_iload_n 10 dr_cX17_graph_280 rfl ?_
                                      refine Gw_callV (As := [.ref q325670, .int p270167]) (gV_ok D I) (ct_276878_SpillForgeModel_back l hl0 D I γ el P270163 F326975 q270165 q325670 p270167 hT326989 htq270165 ht325673 (gB_w bp270167' (by decide) (by decide))) dr_cX17_graph_281 ⟨wr_10_170, wr_1_14, wr_10_173, by decide, rfl, (Nat.le_of_ble_eq_true rfl), (Nat.le_of_ble_eq_true rfl)⟩ wr_10_172 wr_p_96 hm326924 he326986 rfl (show 0 + 0 ≤ 0 by first | omega | decide) (show 0 + 0 ≤ 0 by first | omega | decide) (Nat.le_of_ble_eq_true rfl) (fun r326996 w326997 dc326993 ds326994 hp326995 => ?_) (fun _ _ _ _ _ z => z.elim)
                                      obtain ⟨F327000, rfl, rfl, hT327001, hs327002, hdc, hds, x326998, x326999⟩ := hp326995
                                      have he327003 : F327000 q270166 = .inr (18, [.ref q323229, .ref q323230, .int p323231, .int p323232]) := (hs327002 q270166 (rT0 htq270166 (by decide)) (rT1 htq270166 (by decide)) (rT2 htq270166 (by decide))).trans he326979
                                      have he327004 : F327000 q323229 = .inr (4, [.int p323860, .ref q323862, .int p323861]) := (hs327002 q323229 (rT0 ht323233 (by decide)) (rT1 ht323233 (by decide)) (rT2 ht323233 (by decide))).trans he326980
                                      have he327005 : F327000 q323862 = .inl (I (.object "java/lang/Object"), n323876, .inr (.inr (.inr (.inr f323877)))) := (hs327002 q323862 (rT0 r323868 (by decide)) (rT1 r323868 (by decide)) (rT2 r323868 (by decide))).trans he326981
                                      have he327006 : F327000 q323879 = .inr (17, [.ref q323888, .ref q323889, .int p323890, .int p323891]) := (hs327002 q323879 (rT0 ht323884 (by decide)) (rT1 ht323884 (by decide)) (rT2 ht323884 (by decide))).trans he326982
                                      have he327007 : F327000 q323888 = .inr (4, [.int p325651, .ref q325653, .int p325652]) := (hs327002 q323888 (rT0 ht323892 (by decide)) (rT1 ht323892 (by decide)) (rT2 ht323892 (by decide))).trans he326983
                                      have he327008 : F327000 q325653 = .inl (I (.object "java/lang/Object"), n325667, .inr (.inr (.inr (.inr f325668)))) := (hs327002 q325653 (rT0 r325659 (by decide)) (rT1 r325659 (by decide)) (rT2 r325659 (by decide))).trans he326984
                                      have he327009 : F327000 q325670 = .inr (20, [.int p325683, .int p325684, .int p325685, .int p325686, .int p325687, .int p325688, .int p325689]) := (hs327002 q325670 (rT0 ht325673 (by decide)) (rT1 ht325673 (by decide)) (rT2 ht325673 (by decide))).trans he326985
                                      have hs327010 : rStr γ [] F270164 F327000 := rStr_tr hs326990 hs327002
                                      have kp327011 : F327000 q270165 = F270164 q270165 := (x326998).trans kp326991
                                      have kp327012 : F327000 (γ 9 3) = F326908 (γ 9 3) := (x326999).trans kp326992
                                      have he327013 : F327000 q270165 = .inr (22, [.ref (γ 9 0), .ref (γ 9 1), .ref (γ 9 2), .ref (γ 9 3), .ref (γ 9 4), .ref (γ 9 5), .ref (γ 9 6), .ref (γ 9 7), .ref (γ 9 8), .int p270174, .int p270175, .int p270176, .int p270177, .int p270178, .int p270179, .ref (γ 9 15), .ref (γ 9 16), .ref (γ 9 17), .ref (γ 9 18), .ref (γ 9 19), .ref (γ 9 20), .ref (γ 9 21), .ref (γ 9 22), .int p270180, .int p270181, .int p270182, .int p270183, .int p270184, .ref q270172, .ref (γ 9 29), .int p270185, .ref (γ 9 31), .int p270186, .int p270187, .int p270188, .ref q270173]) := (x326998).trans he326986
                                      change G _ _ _ _ _ _ _ _ _ _ _
                                      refine G_widen (cs' := 0) (sl' := 0) (by omega) (by omega) ?_
                                      obtain ⟨z327014, hz327014⟩ : ∃ z : Int32, z = g325627 + Int32.ofInt (-1) := ⟨_, rfl⟩
                                      have ez327014 : z327014.toInt = g325627.toInt + (-1) := gI_inc hz327014 (by decide) bg325627' (by decide) (by decide)
                                      have bz327014 : gB z327014 (-1) 999998 := ⟨by omega, by omega⟩
                                      refine G_iinc (L' := [(5, .int z327014), (10, .int g326907), (9, .int 0), (8, .int p325685), (7, .int o325724), (6, .ref q325670), (4, .ref q323879), (3, .int g323216), (0, .ref q270165), (1, .ref q270166), (2, .int p270167)]) z327014 5 dr_cX17_graph_284 rfl hz327014.symm (Nat.le_of_ble_eq_true rfl) rfl ?_
                                      refine G_goto 109 dr_cX17_graph_287 (by decide +kernel) ?_
                                      refine G_lv (L' := [(5, .int z327014), (4, .ref q323879), (3, .int g323216), (0, .ref q270165), (1, .ref q270166), (2, .int p270167)]) [0, 6, 7, 8, 9, 10] rfl ?_
                                      exact ih109_325633 F327000 z327014 (gB_w bz327014 (by decide) (by decide)) hT327001 hs327010 (by omega) (fun h0 => by have z := x326911 h0; rw [← kp327012] at z; rw [show ((g325627.toInt : Int).toNat : Nat) = (z327014.toInt + 1 : Int).toNat by omega] at z; exact z) kp327011 (mz_dn ez327014 (Int.le_trans (by decide) bg325627'.1) hm109_325633)
                                    · have r327015 : g326907.toInt < 32 := gj_nleL hc326925 (show Int32.toInt 32 = 32 by decide)
                                      have bg326907' : gB g326907 0 31 := ⟨by omega, by omega⟩
                                      refine G_aload_n 8 dr_cX17_graph_217 rfl ?_
                                      refine Gp_get 1 hm326924 he326923 dr_cX17_graph_218 (gk_X17 D I) (Nat.le_of_ble_eq_true rfl) wr_7_75 rfl ?_
                                      refine G_iload 3 dr_cX17_graph_221 rfl ?_
                                      have hm327016 : (γ 9 1) ∈ P270163 := RS_m hT326909 ht270192 (by decide)
                                      obtain ⟨f327018, he327017, hg327019⟩ := show rk_13 I γ (F326908 (γ 9 1)) from RS_o hT326909 ht270192
                                      obtain ⟨q327020, hx327022⟩ : ∃ x, x = γ 11 o325724.toInt.toNat := ⟨_, rfl⟩
                                      have ht327021 : rKd γ q327020 36 := by rw [hx327022]; exact (hg327019 _ (show o325724.toInt.toNat < 2000 by omega)).2.1
                                      refine Gp_aald 5 hm327016 he327017 dr_cX17_graph_223 rfl rfl (gB_in bo325724' (by decide) (by decide)) ?_
                                      rw [show f327018 o325724.toNatClampNeg = some q327020 from (hg327019 _ (show o325724.toInt.toNat < 2000 by omega)).1.trans (by rw [hx327022])]
                                      change G _ _ _ _ _ _ _ (.ref q327020 :: _) _ _ _
                                      refine G_iload 0 dr_cX17_graph_224 rfl ?_
                                      refine G_dup2_11 dr_cX17_graph_226 rfl rfl ?_
                                      have hm327023 : q327020 ∈ P270163 := RS_m hT326909 ht327021 (by decide)
                                      obtain ⟨f327025, he327024, wf327025⟩ := show rk_36 I (F326908 q327020) from RS_o hT326909 ht327021
                                      refine Gp_lald 2 hm327023 he327024 dr_cX17_graph_227 rfl (gB_in bg326907' (by decide) (by decide)) (G_namL fun u327026 hu327026 => ?_)
                                      have qu327026 : lb_Q u327026 (2000 - 64 * g326907.toInt) := lb_Wld hu327026 wf327025 (by omega) (by omega) (lb_Mod0 (by omega) (by omega))
                                      refine G_aload_n 8 dr_cX17_graph_228 rfl ?_
                                      refine Gp_get 2 hm326924 he326923 dr_cX17_graph_229 (gk_X17 D I) (Nat.le_of_ble_eq_true rfl) wr_7_76 rfl ?_
                                      refine G_iload 0 dr_cX17_graph_232 rfl ?_
                                      have hm327027 : (γ 9 2) ∈ P270163 := RS_m hT326909 ht270193 (by decide)
                                      obtain ⟨f327029, he327028, wf327029⟩ := show rk_35 I (F326908 (γ 9 2)) from RS_o hT326909 ht270193
                                      refine Gp_lald 2 hm327027 he327028 dr_cX17_graph_234 rfl (gB_in bg326907' (by decide) (by decide)) (G_namL fun u327030 hu327030 => ?_)
                                      have qu327030 : lb_Q u327030 (2000 - 64 * g326907.toInt) := lb_Wld hu327030 wf327029 (by omega) (by omega) (lb_Mod0 (by omega) (by omega))
                                      refine G_lor dr_cX17_graph_235 (G_namL fun u327031 hu327031 => ?_)
                                      have qu327031 : lb_Q u327031 (2000 - 64 * g326907.toInt) := lb_Qor hu327031 qu327026 qu327030
                                      refine Gp_last 2 hm327023 he327024 dr_cX17_graph_236 rfl (gB_in bg326907' (by decide) (by decide)) (fun F327032 e327033 n327034 => ?_)
                                      obtain ⟨f327035, hf327035⟩ : ∃ z, z = vp_updL f327025 g326907.toNatClampNeg u327031 := ⟨_, rfl⟩
                                      rw [← hf327035] at e327033
                                      have he327036 : F327032 q270166 = .inr (18, [.ref q323229, .ref q323230, .int p323231, .int p323232]) := (n327034 q270166 (rn_oa he326915 he327024)).trans he326915
                                      have he327037 : F327032 q323229 = .inr (4, [.int p323860, .ref q323862, .int p323861]) := (n327034 q323229 (rn_oa he326916 he327024)).trans he326916
                                      have he327038 : F327032 q323862 = .inl (I (.object "java/lang/Object"), n323876, .inr (.inr (.inr (.inr f323877)))) := (n327034 q323862 (rn_ref_long he326917 he327024)).trans he326917
                                      have he327039 : F327032 q323879 = .inr (17, [.ref q323888, .ref q323889, .int p323890, .int p323891]) := (n327034 q323879 (rn_oa he326918 he327024)).trans he326918
                                      have he327040 : F327032 q323888 = .inr (4, [.int p325651, .ref q325653, .int p325652]) := (n327034 q323888 (rn_oa he326919 he327024)).trans he326919
                                      have he327041 : F327032 q325653 = .inl (I (.object "java/lang/Object"), n325667, .inr (.inr (.inr (.inr f325668)))) := (n327034 q325653 (rn_ref_long he326920 he327024)).trans he326920
                                      have he327042 : F327032 q325670 = .inr (20, [.int p325683, .int p325684, .int p325685, .int p325686, .int p325687, .int p325688, .int p325689]) := (n327034 q325670 (rn_oa he326921 he327024)).trans he326921
                                      have he327043 : F327032 q270165 = .inr (22, [.ref (γ 9 0), .ref (γ 9 1), .ref (γ 9 2), .ref (γ 9 3), .ref (γ 9 4), .ref (γ 9 5), .ref (γ 9 6), .ref (γ 9 7), .ref (γ 9 8), .int p270174, .int p270175, .int p270176, .int p270177, .int p270178, .int p270179, .ref (γ 9 15), .ref (γ 9 16), .ref (γ 9 17), .ref (γ 9 18), .ref (γ 9 19), .ref (γ 9 20), .ref (γ 9 21), .ref (γ 9 22), .int p270180, .int p270181, .int p270182, .int p270183, .int p270184, .ref q270172, .ref (γ 9 29), .int p270185, .ref (γ 9 31), .int p270186, .int p270187, .int p270188, .ref q270173]) := (n327034 q270165 (rn_oa he326923 he327024)).trans he326923
                                      have he327044 : F327032 (γ 9 1) = .inl (I (.array .long), 2000, .inr (.inr (.inr (.inr f327018)))) := (n327034 (γ 9 1) (rn_ref_long he327017 he327024)).trans he327017
                                      have he327045 : F327032 (γ 9 2) = .inl (I .long, 32, .inr (.inl f327029)) := (n327034 (γ 9 2) (rn_ty ht270193 ht327021 (by decide))).trans he327028
                                      have he327046 : F327032 q327020 = .inl (I .long, 32, .inr (.inl f327035)) := e327033
                                      have hs327047 : rStr γ [] F270164 F327032 := rStr_put hs326910 n327034 ht327021 (by decide)
                                      have kp327048 : F327032 q270165 = F270164 q270165 := (n327034 q270165 (rn_ty htq270165 ht327021 (by decide))).trans x326912
                                      have kp327049 : F327032 (γ 9 3) = F326908 (γ 9 3) := n327034 (γ 9 3) (rn_ty ht270194 ht327021 (by decide))
                                      have wf327035 : lb_W f327035 (32) (32) (2000) := lb_Wst hf327035 wf327025 (by omega) (lb_Mod0 (by omega) (by omega)) qu327031
                                      obtain ⟨z327050, hz327050⟩ : ∃ z : Int32, z = g326907 + Int32.ofInt 1 := ⟨_, rfl⟩
                                      have ez327050 : z327050.toInt = g326907.toInt + 1 := gI_inc hz327050 (by decide) bg326907' (by decide) (by decide)
                                      have bz327050 : gB z327050 1 32 := ⟨by omega, by omega⟩
                                      refine G_iinc (L' := [(10, .int z327050), (9, .int 0), (8, .int p325685), (7, .int o325724), (6, .ref q325670), (5, .int g325627), (4, .ref q323879), (3, .int g323216), (0, .ref q270165), (1, .ref q270166), (2, .int p270167)]) z327050 0 dr_cX17_graph_237 rfl hz327050.symm (Nat.le_of_ble_eq_true rfl) rfl ?_
                                      refine G_goto 210 dr_cX17_graph_240 (by decide +kernel) ?_
                                      have hT327051 : RS D I P270163 F327032 γ el := RS_set hT326909 n327034 ht327021 (by decide) ⟨f327035, he327046, wf327035⟩
                                      exact ih210_326912 F327032 z327050 (gB_w bz327050 (by decide) (by decide)) hT327051 hs327047 (by rw [kp327049]; exact x326911) kp327048 (mz_up ez327050 (Int.le_trans bg326907'.2 (by decide)) hm210_326912)
                                exact hlp210_326912 (((33 : Int) - 0).toNat + 1) F325702 0 (gB_w (gBl (show Int32.toInt 0 = 0 by decide)) (by decide) (by decide)) hT325703 hs325712 gr325718 kp325713 (Nat.lt_succ_self _)
                              · change G _ _ _ _ _ _ _ (.int 1 :: _) _ _ _
                                refine G_widen (cs' := 0) (sl' := 0) (by omega) (by omega) ?_
                                refine G_if_eq 204 dr_cX17_graph_197 (by decide +kernel) (fun hc => absurd hc (by decide)) (fun _ => ?_)
                                refine G_iconst 1 dr_cX17_graph_200 (by decide +kernel) ?_
                                refine G_goto 205 dr_cX17_graph_201 (by decide +kernel) ?_
                                refine G_istore (L' := [(9, .int 1), (8, .int p325685), (7, .int o325724), (6, .ref q325670), (5, .int g325627), (4, .ref q323879), (3, .int g323216), (0, .ref q270165), (1, .ref q270166), (2, .int p270167)]) dr_cX17_graph_205 (Nat.le_of_ble_eq_true rfl) rfl ?_
                                refine G_iconst 0 dr_cX17_graph_207 (by decide +kernel) ?_
                                refine G_istore (L' := [(10, .int 0), (9, .int 1), (8, .int p325685), (7, .int o325724), (6, .ref q325670), (5, .int g325627), (4, .ref q323879), (3, .int g323216), (0, .ref q270165), (1, .ref q270166), (2, .int p270167)]) dr_cX17_graph_208 (Nat.le_of_ble_eq_true rfl) rfl ?_
                                have hlp210_327168 : ∀ (n210_327168 : Nat) (F327164 : Nat → va_E) (g327163 : Int32), gB g327163 0 32 → RS D I P270163 F327164 γ el → rStr γ [] F270164 F327164 → (gIp (p270167.toInt = 0) (rGr γ el F270164 q270166 (γ 6 (γ 1 q270166)) (cB (F327164 (γ 9 3))) (vB (g323216.toInt : Int).toNat (g325627.toInt : Int).toNat))) → (F327164 q270165 = F270164 q270165) → ((33 : Int) - g327163.toInt).toNat < n210_327168 → G (gV D I) l (gRm 5 111 0 0) (gMA (gV D I) (pt_270169_SpillForgeModel_graph D I γ el P270163 F270164 q270165 q270166 p270167) gNA 0 0) ky_270169_SpillForgeModel_graph 210 [(10, .int g327163), (9, .int 1), (8, .int p325685), (7, .int o325724), (6, .ref q325670), (5, .int g325627), (4, .ref q323879), (3, .int g323216), (0, .ref q270165), (1, .ref q270166), (2, .int p270167)] [] (va_pl P270163 F327164) 0 0 := by
                                  intro n210_327168
                                  induction n210_327168 with
                                  | zero => intro F327164 g327163 bg327163 hT327165 hs327166 x327167 x327168 hm210_327168; exact absurd hm210_327168 (Nat.not_lt_zero _)
                                  | succ n210_327168 ih210_327168 =>
                                    intro F327164 g327163 bg327163 hT327165 hs327166 x327167 x327168 hm210_327168
                                    have hs327170 : rStr γ [] F325702 F327164 := fun b h0 hb hw => (hs327166 b h0 hb hw).trans (hs325712 b h0 hb hw).symm
                                    have he327171 : F327164 q270166 = .inr (18, [.ref q323229, .ref q323230, .int p323231, .int p323232]) := (hs327170 q270166 (rT0 htq270166 (by decide)) (rT1 htq270166 (by decide)) (rT2 htq270166 (by decide))).trans he325705
                                    have he327172 : F327164 q323229 = .inr (4, [.int p323860, .ref q323862, .int p323861]) := (hs327170 q323229 (rT0 ht323233 (by decide)) (rT1 ht323233 (by decide)) (rT2 ht323233 (by decide))).trans he325706
                                    have he327173 : F327164 q323862 = .inl (I (.object "java/lang/Object"), n323876, .inr (.inr (.inr (.inr f323877)))) := (hs327170 q323862 (rT0 r323868 (by decide)) (rT1 r323868 (by decide)) (rT2 r323868 (by decide))).trans he325707
                                    have he327174 : F327164 q323879 = .inr (17, [.ref q323888, .ref q323889, .int p323890, .int p323891]) := (hs327170 q323879 (rT0 ht323884 (by decide)) (rT1 ht323884 (by decide)) (rT2 ht323884 (by decide))).trans he325708
                                    have he327175 : F327164 q323888 = .inr (4, [.int p325651, .ref q325653, .int p325652]) := (hs327170 q323888 (rT0 ht323892 (by decide)) (rT1 ht323892 (by decide)) (rT2 ht323892 (by decide))).trans he325709
                                    have he327176 : F327164 q325653 = .inl (I (.object "java/lang/Object"), n325667, .inr (.inr (.inr (.inr f325668)))) := (hs327170 q325653 (rT0 r325659 (by decide)) (rT1 r325659 (by decide)) (rT2 r325659 (by decide))).trans he325710
                                    have he327177 : F327164 q325670 = .inr (20, [.int p325683, .int p325684, .int p325685, .int p325686, .int p325687, .int p325688, .int p325689]) := (hs327170 q325670 (rT0 ht325673 (by decide)) (rT1 ht325673 (by decide)) (rT2 ht325673 (by decide))).trans he325711
                                    have hs327178 : rStr γ [] F270164 F327164 := rStr_tr hs325712 hs327170
                                    have he327179 : F327164 q270165 = .inr (22, [.ref (γ 9 0), .ref (γ 9 1), .ref (γ 9 2), .ref (γ 9 3), .ref (γ 9 4), .ref (γ 9 5), .ref (γ 9 6), .ref (γ 9 7), .ref (γ 9 8), .int p270174, .int p270175, .int p270176, .int p270177, .int p270178, .int p270179, .ref (γ 9 15), .ref (γ 9 16), .ref (γ 9 17), .ref (γ 9 18), .ref (γ 9 19), .ref (γ 9 20), .ref (γ 9 21), .ref (γ 9 22), .int p270180, .int p270181, .int p270182, .int p270183, .int p270184, .ref q270172, .ref (γ 9 29), .int p270185, .ref (γ 9 31), .int p270186, .int p270187, .int p270188, .ref q270173]) := x327168.trans he270171
                                    have hm327180 : q270165 ∈ P270163 := RS_m hT327165 htq270165 (by decide)
                                    refine G_iload 0 dr_cX17_graph_210 rfl ?_
                                    refine G_bipush 32 dr_cX17_graph_212 (by decide +kernel) ?_
                                    refine G_icmp_ge 243 dr_cX17_graph_214 (by decide +kernel) (fun hc327181 => ?_) (fun hc327181 => ?_)
                                    · have r327182 : 32 ≤ g327163.toInt := gj_leL hc327181 (show Int32.toInt 32 = 32 by decide)
                                      have bg327163' : gB g327163 32 32 := ⟨by omega, by omega⟩
                                      refine G_iload 2 dr_cX17_graph_243 rfl ?_
                                      refine G_if_lt 265 dr_cX17_graph_245 (by decide +kernel) (fun hc => absurd (show False by have := gj_lt hc (show Int32.toInt 0 = 0 by decide); omega) not_false) (fun _ => ?_)
                                      refine G_iload 1 dr_cX17_graph_248 rfl ?_
                                      refine G_if_ne 265 dr_cX17_graph_250 (by decide +kernel) (fun _ => ?_) (fun hc => absurd hc (by decide))
                                      refine G_aload_n 8 dr_cX17_graph_265 rfl ?_
                                      refine Gp_get 1 hm327180 he327179 dr_cX17_graph_266 (gk_X17 D I) (Nat.le_of_ble_eq_true rfl) wr_7_75 rfl ?_
                                      refine G_iload 3 dr_cX17_graph_269 rfl ?_
                                      have hm327183 : (γ 9 1) ∈ P270163 := RS_m hT327165 ht270192 (by decide)
                                      obtain ⟨f327185, he327184, hg327186⟩ := show rk_13 I γ (F327164 (γ 9 1)) from RS_o hT327165 ht270192
                                      obtain ⟨q327187, hx327189⟩ : ∃ x, x = γ 11 o325724.toInt.toNat := ⟨_, rfl⟩
                                      have ht327188 : rKd γ q327187 36 := by rw [hx327189]; exact (hg327186 _ (show o325724.toInt.toNat < 2000 by omega)).2.1
                                      refine Gp_aald 5 hm327183 he327184 dr_cX17_graph_271 rfl rfl (gB_in bo325724' (by decide) (by decide)) ?_
                                      rw [show f327185 o325724.toNatClampNeg = some q327187 from (hg327186 _ (show o325724.toInt.toNat < 2000 by omega)).1.trans (by rw [hx327189])]
                                      change G _ _ _ _ _ _ _ (.ref q327187 :: _) _ _ _
                                      refine G_iload 3 dr_cX17_graph_272 rfl ?_
                                      have hm327190 : q327187 ∈ P270163 := RS_m hT327165 ht327188 (by decide)
                                      obtain ⟨f327192, he327191, wf327192⟩ := show rk_36 I (F327164 q327187) from RS_o hT327165 ht327188
                                      refine Gw_callS (As := [.ref q327187, .int o325724]) (gV_ok D I) (cp_1873_SpillForgeModel_clear l hl0 D I P270163 F327164 q327187 o325724 f327192 hm327190 he327191 bo325724' wf327192) dr_cX17_graph_274 ⟨wr_10_181, wr_1_14, wr_10_183, by decide, rfl, (Nat.le_of_ble_eq_true rfl), (Nat.le_of_ble_eq_true rfl)⟩ wr_10_182 (show 0 + 0 ≤ 0 by first | omega | decide) (show 0 + 0 ≤ 0 by first | omega | decide) (Nat.le_of_ble_eq_true rfl) (fun r327196 w327197 dc327193 ds327194 hp327195 => ?_) (fun _ _ _ _ _ z => z.elim)
                                      obtain ⟨F327200, f327198, rfl, rfl, hfr327202, he327203, hdc, hds, x327199⟩ := hp327195
                                      have he327204 : F327200 q270166 = .inr (18, [.ref q323229, .ref q323230, .int p323231, .int p323232]) := (hfr327202 q270166 hm323227 (nm_c (rn_oa he327171 he327191) nm_n)).trans he327171
                                      have he327205 : F327200 q323229 = .inr (4, [.int p323860, .ref q323862, .int p323861]) := (hfr327202 q323229 hm323858 (nm_c (rn_oa he327172 he327191) nm_n)).trans he327172
                                      have he327206 : F327200 q323862 = .inl (I (.object "java/lang/Object"), n323876, .inr (.inr (.inr (.inr f323877)))) := (hfr327202 q323862 hm323878 (nm_c (rn_ref_long he327173 he327191) nm_n)).trans he327173
                                      have he327207 : F327200 q323879 = .inr (17, [.ref q323888, .ref q323889, .int p323890, .int p323891]) := (hfr327202 q323879 hm323886 (nm_c (rn_oa he327174 he327191) nm_n)).trans he327174
                                      have he327208 : F327200 q323888 = .inr (4, [.int p325651, .ref q325653, .int p325652]) := (hfr327202 q323888 hm325649 (nm_c (rn_oa he327175 he327191) nm_n)).trans he327175
                                      have he327209 : F327200 q325653 = .inl (I (.object "java/lang/Object"), n325667, .inr (.inr (.inr (.inr f325668)))) := (hfr327202 q325653 hm325669 (nm_c (rn_ref_long he327176 he327191) nm_n)).trans he327176
                                      have he327210 : F327200 q325670 = .inr (20, [.int p325683, .int p325684, .int p325685, .int p325686, .int p325687, .int p325688, .int p325689]) := (hfr327202 q325670 hm325681 (nm_c (rn_oa he327177 he327191) nm_n)).trans he327177
                                      have he327211 : F327200 q270165 = .inr (22, [.ref (γ 9 0), .ref (γ 9 1), .ref (γ 9 2), .ref (γ 9 3), .ref (γ 9 4), .ref (γ 9 5), .ref (γ 9 6), .ref (γ 9 7), .ref (γ 9 8), .int p270174, .int p270175, .int p270176, .int p270177, .int p270178, .int p270179, .ref (γ 9 15), .ref (γ 9 16), .ref (γ 9 17), .ref (γ 9 18), .ref (γ 9 19), .ref (γ 9 20), .ref (γ 9 21), .ref (γ 9 22), .int p270180, .int p270181, .int p270182, .int p270183, .int p270184, .ref q270172, .ref (γ 9 29), .int p270185, .ref (γ 9 31), .int p270186, .int p270187, .int p270188, .ref q270173]) := (hfr327202 q270165 hm327180 (nm_c (rn_oa he327179 he327191) nm_n)).trans he327179
                                      have he327212 : F327200 (γ 9 1) = .inl (I (.array .long), 2000, .inr (.inr (.inr (.inr f327185)))) := (hfr327202 (γ 9 1) hm327183 (nm_c (rn_ref_long he327184 he327191) nm_n)).trans he327184
                                      have hfr327213 : rFr [q327187] P270163 F327164 F327200 := rFr_call (rSub_rf (P := P270163)) (rFr_rf (W := []) (P := P270163) (F := F327164)) hfr327202 (fun b hb hn => ⟨nm_n, (nm_c (fun e => hn (e ▸ List.mem_cons_self)) nm_n)⟩)
                                      change G _ _ _ _ _ _ _ _ _ _ _
                                      refine G_widen (cs' := 0) (sl' := 0) (by omega) (by omega) ?_
                                      have hT327214 : RS D I P270163 F327200 γ el := RS_fr hT327165 hfr327213 ht327188 (by decide) ⟨f327198, he327203, x327199⟩
                                      have hs327215 : rStr γ [] F270164 F327200 := rStr_fr hT327165 hs327166 hfr327213 ht327188 (by decide)
                                      have kp327216 : F327200 q270165 = F270164 q270165 := (hfr327213 q270165 (RS_m hT327165 htq270165 (by decide)) (nm_c (rn_ty htq270165 ht327188 (by decide)) nm_n)).trans x327168
                                      have kp327217 : F327200 (γ 9 3) = F327164 (γ 9 3) := hfr327213 (γ 9 3) (RS_m hT327165 ht270194 (by decide)) (nm_c (rn_ty ht270194 ht327188 (by decide)) nm_n)
                                      refine G_aload_n 8 dr_cX17_graph_277 rfl ?_
                                      refine G_aload 4 dr_cX17_graph_278 rfl ?_
                                      refine G_iload_n 10 dr_cX17_graph_280 rfl ?_
                                      refine Gw_callV (As := [.ref q325670, .int p270167]) (gV_ok D I) (ct_276878_SpillForgeModel_back l hl0 D I γ el P270163 F327200 q270165 q325670 p270167 hT327214 htq270165 ht325673 (gB_w bp270167' (by decide) (by decide))) dr_cX17_graph_281 ⟨wr_10_170, wr_1_14, wr_10_173, by decide, rfl, (Nat.le_of_ble_eq_true rfl), (Nat.le_of_ble_eq_true rfl)⟩ wr_10_172 wr_p_96 hm327180 he327211 rfl (show 0 + 0 ≤ 0 by first | omega | decide) (show 0 + 0 ≤ 0 by first | omega | decide) (Nat.le_of_ble_eq_true rfl) (fun r327221 w327222 dc327218 ds327219 hp327220 => ?_) (fun _ _ _ _ _ z => z.elim)
                                      obtain ⟨F327225, rfl, rfl, hT327226, hs327227, hdc, hds, x327223, x327224⟩ := hp327220
                                      have he327228 : F327225 q270166 = .inr (18, [.ref q323229, .ref q323230, .int p323231, .int p323232]) := (hs327227 q270166 (rT0 htq270166 (by decide)) (rT1 htq270166 (by decide)) (rT2 htq270166 (by decide))).trans he327204
                                      have he327229 : F327225 q323229 = .inr (4, [.int p323860, .ref q323862, .int p323861]) := (hs327227 q323229 (rT0 ht323233 (by decide)) (rT1 ht323233 (by decide)) (rT2 ht323233 (by decide))).trans he327205
                                      have he327230 : F327225 q323862 = .inl (I (.object "java/lang/Object"), n323876, .inr (.inr (.inr (.inr f323877)))) := (hs327227 q323862 (rT0 r323868 (by decide)) (rT1 r323868 (by decide)) (rT2 r323868 (by decide))).trans he327206
                                      have he327231 : F327225 q323879 = .inr (17, [.ref q323888, .ref q323889, .int p323890, .int p323891]) := (hs327227 q323879 (rT0 ht323884 (by decide)) (rT1 ht323884 (by decide)) (rT2 ht323884 (by decide))).trans he327207
                                      have he327232 : F327225 q323888 = .inr (4, [.int p325651, .ref q325653, .int p325652]) := (hs327227 q323888 (rT0 ht323892 (by decide)) (rT1 ht323892 (by decide)) (rT2 ht323892 (by decide))).trans he327208
                                      have he327233 : F327225 q325653 = .inl (I (.object "java/lang/Object"), n325667, .inr (.inr (.inr (.inr f325668)))) := (hs327227 q325653 (rT0 r325659 (by decide)) (rT1 r325659 (by decide)) (rT2 r325659 (by decide))).trans he327209
                                      have he327234 : F327225 q325670 = .inr (20, [.int p325683, .int p325684, .int p325685, .int p325686, .int p325687, .int p325688, .int p325689]) := (hs327227 q325670 (rT0 ht325673 (by decide)) (rT1 ht325673 (by decide)) (rT2 ht325673 (by decide))).trans he327210
                                      have hs327235 : rStr γ [] F270164 F327225 := rStr_tr hs327215 hs327227
                                      have kp327236 : F327225 q270165 = F270164 q270165 := (x327223).trans kp327216
                                      have kp327237 : F327225 (γ 9 3) = F327164 (γ 9 3) := (x327224).trans kp327217
                                      have he327238 : F327225 q270165 = .inr (22, [.ref (γ 9 0), .ref (γ 9 1), .ref (γ 9 2), .ref (γ 9 3), .ref (γ 9 4), .ref (γ 9 5), .ref (γ 9 6), .ref (γ 9 7), .ref (γ 9 8), .int p270174, .int p270175, .int p270176, .int p270177, .int p270178, .int p270179, .ref (γ 9 15), .ref (γ 9 16), .ref (γ 9 17), .ref (γ 9 18), .ref (γ 9 19), .ref (γ 9 20), .ref (γ 9 21), .ref (γ 9 22), .int p270180, .int p270181, .int p270182, .int p270183, .int p270184, .ref q270172, .ref (γ 9 29), .int p270185, .ref (γ 9 31), .int p270186, .int p270187, .int p270188, .ref q270173]) := (x327223).trans he327211
                                      change G _ _ _ _ _ _ _ _ _ _ _
                                      refine G_widen (cs' := 0) (sl' := 0) (by omega) (by omega) ?_
                                      obtain ⟨z327239, hz327239⟩ : ∃ z : Int32, z = g325627 + Int32.ofInt (-1) := ⟨_, rfl⟩
                                      have ez327239 : z327239.toInt = g325627.toInt + (-1) := gI_inc hz327239 (by decide) bg325627' (by decide) (by decide)
                                      have bz327239 : gB z327239 (-1) 999998 := ⟨by omega, by omega⟩
                                      refine G_iinc (L' := [(5, .int z327239), (10, .int g327163), (9, .int 1), (8, .int p325685), (7, .int o325724), (6, .ref q325670), (4, .ref q323879), (3, .int g323216), (0, .ref q270165), (1, .ref q270166), (2, .int p270167)]) z327239 5 dr_cX17_graph_284 rfl hz327239.symm (Nat.le_of_ble_eq_true rfl) rfl ?_
                                      refine G_goto 109 dr_cX17_graph_287 (by decide +kernel) ?_
                                      refine G_lv (L' := [(5, .int z327239), (4, .ref q323879), (3, .int g323216), (0, .ref q270165), (1, .ref q270166), (2, .int p270167)]) [0, 6, 7, 8, 9, 10] rfl ?_
                                      exact ih109_325633 F327225 z327239 (gB_w bz327239 (by decide) (by decide)) hT327226 hs327235 (by omega) (fun h0 => by have z := x327167 h0; rw [← kp327237] at z; rw [show ((g325627.toInt : Int).toNat : Nat) = (z327239.toInt + 1 : Int).toNat by omega] at z; exact z) kp327236 (mz_dn ez327239 (Int.le_trans (by decide) bg325627'.1) hm109_325633)
                                    · have r327240 : g327163.toInt < 32 := gj_nleL hc327181 (show Int32.toInt 32 = 32 by decide)
                                      have bg327163' : gB g327163 0 31 := ⟨by omega, by omega⟩
                                      refine G_aload_n 8 dr_cX17_graph_217 rfl ?_
                                      refine Gp_get 1 hm327180 he327179 dr_cX17_graph_218 (gk_X17 D I) (Nat.le_of_ble_eq_true rfl) wr_7_75 rfl ?_
                                      refine G_iload 3 dr_cX17_graph_221 rfl ?_
                                      have hm327241 : (γ 9 1) ∈ P270163 := RS_m hT327165 ht270192 (by decide)
                                      obtain ⟨f327243, he327242, hg327244⟩ := show rk_13 I γ (F327164 (γ 9 1)) from RS_o hT327165 ht270192
                                      obtain ⟨q327245, hx327247⟩ : ∃ x, x = γ 11 o325724.toInt.toNat := ⟨_, rfl⟩
                                      have ht327246 : rKd γ q327245 36 := by rw [hx327247]; exact (hg327244 _ (show o325724.toInt.toNat < 2000 by omega)).2.1
                                      refine Gp_aald 5 hm327241 he327242 dr_cX17_graph_223 rfl rfl (gB_in bo325724' (by decide) (by decide)) ?_
                                      rw [show f327243 o325724.toNatClampNeg = some q327245 from (hg327244 _ (show o325724.toInt.toNat < 2000 by omega)).1.trans (by rw [hx327247])]
                                      change G _ _ _ _ _ _ _ (.ref q327245 :: _) _ _ _
                                      refine G_iload 0 dr_cX17_graph_224 rfl ?_
                                      refine G_dup2_11 dr_cX17_graph_226 rfl rfl ?_
                                      have hm327248 : q327245 ∈ P270163 := RS_m hT327165 ht327246 (by decide)
                                      obtain ⟨f327250, he327249, wf327250⟩ := show rk_36 I (F327164 q327245) from RS_o hT327165 ht327246
                                      refine Gp_lald 2 hm327248 he327249 dr_cX17_graph_227 rfl (gB_in bg327163' (by decide) (by decide)) (G_namL fun u327251 hu327251 => ?_)
                                      have qu327251 : lb_Q u327251 (2000 - 64 * g327163.toInt) := lb_Wld hu327251 wf327250 (by omega) (by omega) (lb_Mod0 (by omega) (by omega))
                                      refine G_aload_n 8 dr_cX17_graph_228 rfl ?_
                                      refine Gp_get 2 hm327180 he327179 dr_cX17_graph_229 (gk_X17 D I) (Nat.le_of_ble_eq_true rfl) wr_7_76 rfl ?_
                                      refine G_iload 0 dr_cX17_graph_232 rfl ?_
                                      have hm327252 : (γ 9 2) ∈ P270163 := RS_m hT327165 ht270193 (by decide)
                                      obtain ⟨f327254, he327253, wf327254⟩ := show rk_35 I (F327164 (γ 9 2)) from RS_o hT327165 ht270193
                                      refine Gp_lald 2 hm327252 he327253 dr_cX17_graph_234 rfl (gB_in bg327163' (by decide) (by decide)) (G_namL fun u327255 hu327255 => ?_)
                                      have qu327255 : lb_Q u327255 (2000 - 64 * g327163.toInt) := lb_Wld hu327255 wf327254 (by omega) (by omega) (lb_Mod0 (by omega) (by omega))
                                      refine G_lor dr_cX17_graph_235 (G_namL fun u327256 hu327256 => ?_)
                                      have qu327256 : lb_Q u327256 (2000 - 64 * g327163.toInt) := lb_Qor hu327256 qu327251 qu327255
                                      refine Gp_last 2 hm327248 he327249 dr_cX17_graph_236 rfl (gB_in bg327163' (by decide) (by decide)) (fun F327257 e327258 n327259 => ?_)
                                      obtain ⟨f327260, hf327260⟩ : ∃ z, z = vp_updL f327250 g327163.toNatClampNeg u327256 := ⟨_, rfl⟩
                                      rw [← hf327260] at e327258
                                      have he327261 : F327257 q270166 = .inr (18, [.ref q323229, .ref q323230, .int p323231, .int p323232]) := (n327259 q270166 (rn_oa he327171 he327249)).trans he327171
                                      have he327262 : F327257 q323229 = .inr (4, [.int p323860, .ref q323862, .int p323861]) := (n327259 q323229 (rn_oa he327172 he327249)).trans he327172
                                      have he327263 : F327257 q323862 = .inl (I (.object "java/lang/Object"), n323876, .inr (.inr (.inr (.inr f323877)))) := (n327259 q323862 (rn_ref_long he327173 he327249)).trans he327173
                                      have he327264 : F327257 q323879 = .inr (17, [.ref q323888, .ref q323889, .int p323890, .int p323891]) := (n327259 q323879 (rn_oa he327174 he327249)).trans he327174
                                      have he327265 : F327257 q323888 = .inr (4, [.int p325651, .ref q325653, .int p325652]) := (n327259 q323888 (rn_oa he327175 he327249)).trans he327175
                                      have he327266 : F327257 q325653 = .inl (I (.object "java/lang/Object"), n325667, .inr (.inr (.inr (.inr f325668)))) := (n327259 q325653 (rn_ref_long he327176 he327249)).trans he327176
                                      have he327267 : F327257 q325670 = .inr (20, [.int p325683, .int p325684, .int p325685, .int p325686, .int p325687, .int p325688, .int p325689]) := (n327259 q325670 (rn_oa he327177 he327249)).trans he327177
                                      have he327268 : F327257 q270165 = .inr (22, [.ref (γ 9 0), .ref (γ 9 1), .ref (γ 9 2), .ref (γ 9 3), .ref (γ 9 4), .ref (γ 9 5), .ref (γ 9 6), .ref (γ 9 7), .ref (γ 9 8), .int p270174, .int p270175, .int p270176, .int p270177, .int p270178, .int p270179, .ref (γ 9 15), .ref (γ 9 16), .ref (γ 9 17), .ref (γ 9 18), .ref (γ 9 19), .ref (γ 9 20), .ref (γ 9 21), .ref (γ 9 22), .int p270180, .int p270181, .int p270182, .int p270183, .int p270184, .ref q270172, .ref (γ 9 29), .int p270185, .ref (γ 9 31), .int p270186, .int p270187, .int p270188, .ref q270173]) := (n327259 q270165 (rn_oa he327179 he327249)).trans he327179
                                      have he327269 : F327257 (γ 9 1) = .inl (I (.array .long), 2000, .inr (.inr (.inr (.inr f327243)))) := (n327259 (γ 9 1) (rn_ref_long he327242 he327249)).trans he327242
                                      have he327270 : F327257 (γ 9 2) = .inl (I .long, 32, .inr (.inl f327254)) := (n327259 (γ 9 2) (rn_ty ht270193 ht327246 (by decide))).trans he327253
                                      have he327271 : F327257 q327245 = .inl (I .long, 32, .inr (.inl f327260)) := e327258
                                      have hs327272 : rStr γ [] F270164 F327257 := rStr_put hs327166 n327259 ht327246 (by decide)
                                      have kp327273 : F327257 q270165 = F270164 q270165 := (n327259 q270165 (rn_ty htq270165 ht327246 (by decide))).trans x327168
                                      have kp327274 : F327257 (γ 9 3) = F327164 (γ 9 3) := n327259 (γ 9 3) (rn_ty ht270194 ht327246 (by decide))
                                      have wf327260 : lb_W f327260 (32) (32) (2000) := lb_Wst hf327260 wf327250 (by omega) (lb_Mod0 (by omega) (by omega)) qu327256
                                      obtain ⟨z327275, hz327275⟩ : ∃ z : Int32, z = g327163 + Int32.ofInt 1 := ⟨_, rfl⟩
                                      have ez327275 : z327275.toInt = g327163.toInt + 1 := gI_inc hz327275 (by decide) bg327163' (by decide) (by decide)
                                      have bz327275 : gB z327275 1 32 := ⟨by omega, by omega⟩
                                      refine G_iinc (L' := [(10, .int z327275), (9, .int 1), (8, .int p325685), (7, .int o325724), (6, .ref q325670), (5, .int g325627), (4, .ref q323879), (3, .int g323216), (0, .ref q270165), (1, .ref q270166), (2, .int p270167)]) z327275 0 dr_cX17_graph_237 rfl hz327275.symm (Nat.le_of_ble_eq_true rfl) rfl ?_
                                      refine G_goto 210 dr_cX17_graph_240 (by decide +kernel) ?_
                                      have hT327276 : RS D I P270163 F327257 γ el := RS_set hT327165 n327259 ht327246 (by decide) ⟨f327260, he327271, wf327260⟩
                                      exact ih210_327168 F327257 z327275 (gB_w bz327275 (by decide) (by decide)) hT327276 hs327272 (by rw [kp327274]; exact x327167) kp327273 (mz_up ez327275 (Int.le_trans bg327163'.2 (by decide)) hm210_327168)
                                exact hlp210_327168 (((33 : Int) - 0).toNat + 1) F325702 0 (gB_w (gBl (show Int32.toInt 0 = 0 by decide)) (by decide) (by decide)) hT325703 hs325712 gr325718 kp325713 (Nat.lt_succ_self _)
              exact hlp109_325633 (((z323980.toInt : Int) - (-2)).toNat + 1) F323953 z323980 bz323980 hT323954 hs323960 (by omega) (fun h0 => by have z := gr323945 h0; rw [← kp323962] at z; rw [show (γ 2 q323888 : Nat) = (z323980.toInt + 1 : Int).toNat by omega] at z; exact z) kp323961 (Nat.lt_succ_self _)
        exact hlp56_323221 (((1000001 : Int) - 0).toNat + 1) F319146 0 (gB_w (gBl (show Int32.toInt 0 = 0 by decide)) (by decide) (by decide)) hT319147 hs319148 (fun _ => gq_0 (fun m hm => x319149 m (by omega))) x319150 (Nat.lt_succ_self _)
      · have r327277 : g319145.toInt < 2000 := gj_nleL hc319156 (show Int32.toInt 2000 = 2000 by decide)
        have bg319145' : gB g319145 0 1999 := ⟨by omega, by omega⟩
        refine G_aload_n 1 dr_cX17_graph_15 rfl ?_
        refine Gp_get 3 hm319155 he319154 dr_cX17_graph_16 (gk_X17 D I) (Nat.le_of_ble_eq_true rfl) wr_7_77 rfl ?_
        refine G_iload_n 0 dr_cX17_graph_19 rfl ?_
        refine G_iconst 0 dr_cX17_graph_20 (by decide +kernel) ?_
        have hm327278 : (γ 9 3) ∈ P270163 := RS_m hT319147 ht270194 (by decide)
        obtain ⟨f327280, he327279, bf327280⟩ := show rk_14 I (F319146 (γ 9 3)) from RS_o hT319147 ht270194
        refine Gp_zast 3 hm327278 he327279 dr_cX17_graph_21 rfl (gB_in bg319145' (by decide) (by decide)) (fun F327281 e327282 n327283 => ?_)
        obtain ⟨f327284, hf327284⟩ : ∃ z, z = upd f327280 g319145.toNatClampNeg (vp_nar .boolean 0) := ⟨_, rfl⟩
        rw [← hf327284] at e327282
        have he327285 : F327281 q270165 = .inr (22, [.ref (γ 9 0), .ref (γ 9 1), .ref (γ 9 2), .ref (γ 9 3), .ref (γ 9 4), .ref (γ 9 5), .ref (γ 9 6), .ref (γ 9 7), .ref (γ 9 8), .int p270174, .int p270175, .int p270176, .int p270177, .int p270178, .int p270179, .ref (γ 9 15), .ref (γ 9 16), .ref (γ 9 17), .ref (γ 9 18), .ref (γ 9 19), .ref (γ 9 20), .ref (γ 9 21), .ref (γ 9 22), .int p270180, .int p270181, .int p270182, .int p270183, .int p270184, .ref q270172, .ref (γ 9 29), .int p270185, .ref (γ 9 31), .int p270186, .int p270187, .int p270188, .ref q270173]) := (n327283 q270165 (rn_oa he319154 he327279)).trans he319154
        have he327286 : F327281 (γ 9 3) = .inl (I .boolean, 2000, .inl f327284) := e327282
        have hs327287 : rStr γ [] F270164 F327281 := rStr_put hs319148 n327283 ht270194 (by decide)
        have kp327288 : F327281 q270165 = F270164 q270165 := (n327283 q270165 (rn_ty htq270165 ht270194 (by decide))).trans x319150
        have bf327284 : gF f327284 0 1 := gF_upd hf327284 bf327280 (gB_w (gBl (show Int32.toInt 0 = 0 by decide)) (by decide) (by decide))
        refine G_iconst 0 dr_cX17_graph_22 (by decide +kernel) ?_
        refine G_istore (L' := [(4, .int 0), (3, .int g319145), (0, .ref q270165), (1, .ref q270166), (2, .int p270167)]) dr_cX17_graph_23 (Nat.le_of_ble_eq_true rfl) rfl ?_
        have hT327289 : RS D I P270163 F327281 γ el := RS_set hT319147 n327283 ht270194 (by decide) ⟨f327284, he327286, bf327284⟩
        have hlp25_327329 : ∀ (n25_327329 : Nat) (F327325 : Nat → va_E) (g327324 : Int32), gB g327324 0 32 → RS D I P270163 F327325 γ el → rStr γ [] F270164 F327325 → (∀ n : Nat, (n : Int) < g319145.toInt + 1 → ¬ rSd (cB (F327325 (γ 9 3))) n) → (F327325 q270165 = F270164 q270165) → ((33 : Int) - g327324.toInt).toNat < n25_327329 → G (gV D I) l (gRm 5 111 0 0) (gMA (gV D I) (pt_270169_SpillForgeModel_graph D I γ el P270163 F270164 q270165 q270166 p270167) gNA 0 0) ky_270169_SpillForgeModel_graph 25 [(4, .int g327324), (3, .int g319145), (0, .ref q270165), (1, .ref q270166), (2, .int p270167)] [] (va_pl P270163 F327325) 0 0 := by
          intro n25_327329
          induction n25_327329 with
          | zero => intro F327325 g327324 bg327324 hT327326 hs327327 x327328 x327329 hm25_327329; exact absurd hm25_327329 (Nat.not_lt_zero _)
          | succ n25_327329 ih25_327329 =>
            intro F327325 g327324 bg327324 hT327326 hs327327 x327328 x327329 hm25_327329
            have hs327331 : rStr γ [] F327281 F327325 := fun b h0 hb hw => (hs327327 b h0 hb hw).trans (hs327287 b h0 hb hw).symm
            have hs327332 : rStr γ [] F270164 F327325 := rStr_tr hs327287 hs327331
            have he327333 : F327325 q270165 = .inr (22, [.ref (γ 9 0), .ref (γ 9 1), .ref (γ 9 2), .ref (γ 9 3), .ref (γ 9 4), .ref (γ 9 5), .ref (γ 9 6), .ref (γ 9 7), .ref (γ 9 8), .int p270174, .int p270175, .int p270176, .int p270177, .int p270178, .int p270179, .ref (γ 9 15), .ref (γ 9 16), .ref (γ 9 17), .ref (γ 9 18), .ref (γ 9 19), .ref (γ 9 20), .ref (γ 9 21), .ref (γ 9 22), .int p270180, .int p270181, .int p270182, .int p270183, .int p270184, .ref q270172, .ref (γ 9 29), .int p270185, .ref (γ 9 31), .int p270186, .int p270187, .int p270188, .ref q270173]) := x327329.trans he270171
            have hm327334 : q270165 ∈ P270163 := RS_m hT327326 htq270165 (by decide)
            refine G_iload 0 dr_cX17_graph_25 rfl ?_
            refine G_bipush 32 dr_cX17_graph_27 (by decide +kernel) ?_
            refine G_icmp_ge 48 dr_cX17_graph_29 (by decide +kernel) (fun hc327335 => ?_) (fun hc327335 => ?_)
            · have r327336 : 32 ≤ g327324.toInt := gj_leL hc327335 (show Int32.toInt 32 = 32 by decide)
              have bg327324' : gB g327324 32 32 := ⟨by omega, by omega⟩
              obtain ⟨z327337, hz327337⟩ : ∃ z : Int32, z = g319145 + Int32.ofInt 1 := ⟨_, rfl⟩
              have ez327337 : z327337.toInt = g319145.toInt + 1 := gI_inc hz327337 (by decide) bg319145' (by decide) (by decide)
              have bz327337 : gB z327337 1 2000 := ⟨by omega, by omega⟩
              refine G_iinc (L' := [(3, .int z327337), (4, .int g327324), (0, .ref q270165), (1, .ref q270166), (2, .int p270167)]) z327337 1 dr_cX17_graph_48 rfl hz327337.symm (Nat.le_of_ble_eq_true rfl) rfl ?_
              refine G_goto 8 dr_cX17_graph_51 (by decide +kernel) ?_
              refine G_lv (L' := [(3, .int z327337), (0, .ref q270165), (1, .ref q270166), (2, .int p270167)]) [0, 2, 3, 4] rfl ?_
              exact ih8_319150 F327325 z327337 (gB_w bz327337 (by decide) (by decide)) hT327326 hs327327 (by rw [ez327337]; exact x327328) x327329 (mz_up ez327337 (Int.le_trans bg319145'.2 (by decide)) hm8_319150)
            · have r327338 : g327324.toInt < 32 := gj_nleL hc327335 (show Int32.toInt 32 = 32 by decide)
              have bg327324' : gB g327324 0 31 := ⟨by omega, by omega⟩
              refine G_aload_n 2 dr_cX17_graph_32 rfl ?_
              refine Gp_get 1 hm327334 he327333 dr_cX17_graph_33 (gk_X17 D I) (Nat.le_of_ble_eq_true rfl) wr_7_75 rfl ?_
              refine G_iload_n 1 dr_cX17_graph_36 rfl ?_
              have hm327339 : (γ 9 1) ∈ P270163 := RS_m hT327326 ht270192 (by decide)
              obtain ⟨f327341, he327340, hg327342⟩ := show rk_13 I γ (F327325 (γ 9 1)) from RS_o hT327326 ht270192
              obtain ⟨q327343, hx327345⟩ : ∃ x, x = γ 11 g319145.toInt.toNat := ⟨_, rfl⟩
              have ht327344 : rKd γ q327343 36 := by rw [hx327345]; exact (hg327342 _ (show g319145.toInt.toNat < 2000 by omega)).2.1
              refine Gp_aald 5 hm327339 he327340 dr_cX17_graph_37 rfl rfl (gB_in bg319145' (by decide) (by decide)) ?_
              rw [show f327341 g319145.toNatClampNeg = some q327343 from (hg327342 _ (show g319145.toInt.toNat < 2000 by omega)).1.trans (by rw [hx327345])]
              change G _ _ _ _ _ _ _ (.ref q327343 :: _) _ _ _
              refine G_iload 0 dr_cX17_graph_38 rfl ?_
              refine G_lconst 0 dr_cX17_graph_40 rfl ?_
              have hm327346 : q327343 ∈ P270163 := RS_m hT327326 ht327344 (by decide)
              obtain ⟨f327348, he327347, wf327348⟩ := show rk_36 I (F327325 q327343) from RS_o hT327326 ht327344
              refine Gp_last 2 hm327346 he327347 dr_cX17_graph_41 rfl (gB_in bg327324' (by decide) (by decide)) (fun F327349 e327350 n327351 => ?_)
              obtain ⟨f327352, hf327352⟩ : ∃ z, z = vp_updL f327348 g327324.toNatClampNeg 0 := ⟨_, rfl⟩
              rw [← hf327352] at e327350
              have he327353 : F327349 q270165 = .inr (22, [.ref (γ 9 0), .ref (γ 9 1), .ref (γ 9 2), .ref (γ 9 3), .ref (γ 9 4), .ref (γ 9 5), .ref (γ 9 6), .ref (γ 9 7), .ref (γ 9 8), .int p270174, .int p270175, .int p270176, .int p270177, .int p270178, .int p270179, .ref (γ 9 15), .ref (γ 9 16), .ref (γ 9 17), .ref (γ 9 18), .ref (γ 9 19), .ref (γ 9 20), .ref (γ 9 21), .ref (γ 9 22), .int p270180, .int p270181, .int p270182, .int p270183, .int p270184, .ref q270172, .ref (γ 9 29), .int p270185, .ref (γ 9 31), .int p270186, .int p270187, .int p270188, .ref q270173]) := (n327351 q270165 (rn_oa he327333 he327347)).trans he327333
              have he327354 : F327349 (γ 9 1) = .inl (I (.array .long), 2000, .inr (.inr (.inr (.inr f327341)))) := (n327351 (γ 9 1) (rn_ref_long he327340 he327347)).trans he327340
              have he327355 : F327349 q327343 = .inl (I .long, 32, .inr (.inl f327352)) := e327350
              have hs327356 : rStr γ [] F270164 F327349 := rStr_put hs327327 n327351 ht327344 (by decide)
              have kp327357 : F327349 q270165 = F270164 q270165 := (n327351 q270165 (rn_ty htq270165 ht327344 (by decide))).trans x327329
              have kp327358 : F327349 (γ 9 3) = F327325 (γ 9 3) := n327351 (γ 9 3) (rn_ty ht270194 ht327344 (by decide))
              have wf327352 : lb_W f327352 (32) (32) (2000) := lb_Wst hf327352 wf327348 (by omega) (lb_Mod0 (by omega) (by omega)) lb_Q0
              obtain ⟨z327359, hz327359⟩ : ∃ z : Int32, z = g327324 + Int32.ofInt 1 := ⟨_, rfl⟩
              have ez327359 : z327359.toInt = g327324.toInt + 1 := gI_inc hz327359 (by decide) bg327324' (by decide) (by decide)
              have bz327359 : gB z327359 1 32 := ⟨by omega, by omega⟩
              refine G_iinc (L' := [(4, .int z327359), (3, .int g319145), (0, .ref q270165), (1, .ref q270166), (2, .int p270167)]) z327359 0 dr_cX17_graph_42 rfl hz327359.symm (Nat.le_of_ble_eq_true rfl) rfl ?_
              refine G_goto 25 dr_cX17_graph_45 (by decide +kernel) ?_
              have hT327360 : RS D I P270163 F327349 γ el := RS_set hT327326 n327351 ht327344 (by decide) ⟨f327352, he327355, wf327352⟩
              exact ih25_327329 F327349 z327359 (gB_w bz327359 (by decide) (by decide)) hT327360 hs327356 (by rw [kp327358]; exact x327328) kp327357 (mz_up ez327359 (Int.le_trans bg327324'.2 (by decide)) hm25_327329)
        exact hlp25_327329 (((33 : Int) - 0).toNat + 1) F327281 0 (gB_w (gBl (show Int32.toInt 0 = 0 by decide)) (by decide) (by decide)) hT327289 hs327287 (by rw [cB_of he327286]; exact sd_z hf327284 (by omega) (by have q := x319149; rw [cB_of he327279] at q; exact q)) kp327288 (Nat.lt_succ_self _)
  exact hlp8_319150 (((2001 : Int) - 0).toNat + 1) F270223 0 (gB_w (gBl (show Int32.toInt 0 = 0 by decide)) (by decide) (by decide)) hT270224 hs270226 (fun n hn => absurd hn (by have qa : Int32.toInt 0 = 0 := (by decide); omega)) kp270227 (Nat.lt_succ_self _)
