theorem dr_cX17_graph_0 : decode cX17_graph 0 = .ok (.aload_n 0, 1) := by decide +kernel
theorem dr_cX17_graph_1 : decode cX17_graph 1 = .ok (.aload_n 1, 1) := by decide +kernel
theorem dr_cX17_graph_2 : decode cX17_graph 2 = .ok (.iload_n 2, 1) := by decide +kernel
theorem dr_cX17_graph_3 : decode cX17_graph 3 = .ok (.invokevirtual 127, 3) := by decide +kernel
theorem wr_10_156 : (Jvm.Cond.methodLink "SpillForgeModel" (127 : Nat) ({ cls := "SpillForgeModel", name := "findLive", desc := "(LSpillForgeModel$Code;Z)V" } : Jvm.MethodName)) ∈ gw := gw_10 156 rfl rfl
theorem wr_10_159 : (Jvm.Cond.code ({ cls := "SpillForgeModel", name := "findLive", desc := "(LSpillForgeModel$Code;Z)V" } : Jvm.MethodName) prog_14_method_9_code (7 : Nat) (Option.none : Option Jvm.ClassFile.FieldType)) ∈ gw := gw_10 159 rfl rfl
theorem wr_10_158 : (Jvm.Cond.instanceMethod ({ cls := "SpillForgeModel", name := "findLive", desc := "(LSpillForgeModel$Code;Z)V" } : Jvm.MethodName)) ∈ gw := gw_10 158 rfl rfl
theorem wr_p_94 : Cond.selects "SpillForgeModel" ⟨"SpillForgeModel", "findLive", "(LSpillForgeModel$Code;Z)V"⟩ ⟨"SpillForgeModel", "findLive", "(LSpillForgeModel$Code;Z)V"⟩ ∈ gw := gw_p _ 94 rfl rfl rfl
theorem dr_cX17_graph_6 : decode cX17_graph 6 = .ok (.iconst 0, 1) := by decide +kernel
theorem dr_cX17_graph_7 : decode cX17_graph 7 = .ok (.istore_n 3, 1) := by decide +kernel
theorem dr_cX17_graph_8 : decode cX17_graph 8 = .ok (.iload_n 3, 1) := by decide +kernel
theorem dr_cX17_graph_9 : decode cX17_graph 9 = .ok (.sipush 2000, 3) := by decide +kernel
theorem dr_cX17_graph_12 : decode cX17_graph 12 = .ok (.if_icmp .ge 42, 3) := by decide +kernel
theorem dr_cX17_graph_54 : decode cX17_graph 54 = .ok (.iconst 0, 1) := by decide +kernel
theorem dr_cX17_graph_55 : decode cX17_graph 55 = .ok (.istore_n 3, 1) := by decide +kernel
theorem dr_cX17_graph_56 : decode cX17_graph 56 = .ok (.iload_n 3, 1) := by decide +kernel
theorem dr_cX17_graph_57 : decode cX17_graph 57 = .ok (.aload_n 1, 1) := by decide +kernel
theorem dr_cX17_graph_58 : decode cX17_graph 58 = .ok (.invokevirtual 96, 3) := by decide +kernel
theorem dr_cX17_graph_61 : decode cX17_graph 61 = .ok (.if_icmp .ge 235, 3) := by decide +kernel
theorem dr_cX17_graph_296 : decode cX17_graph 296 = .ok (.iconst 0, 1) := by decide +kernel
theorem dr_cX17_graph_297 : decode cX17_graph 297 = .ok (.istore_n 3, 1) := by decide +kernel
theorem dr_cX17_graph_298 : decode cX17_graph 298 = .ok (.iload_n 3, 1) := by decide +kernel
theorem dr_cX17_graph_299 : decode cX17_graph 299 = .ok (.sipush 2000, 3) := by decide +kernel
theorem dr_cX17_graph_302 : decode cX17_graph 302 = .ok (.if_icmp .ge 87, 3) := by decide +kernel
theorem dr_cX17_graph_389 : decode cX17_graph 389 = .ok (.return_, 1) := by decide +kernel
theorem dr_cX17_graph_305 : decode cX17_graph 305 = .ok (.aload_n 0, 1) := by decide +kernel
theorem dr_cX17_graph_306 : decode cX17_graph 306 = .ok (.getfield 131, 3) := by decide +kernel
theorem dr_cX17_graph_309 : decode cX17_graph 309 = .ok (.iload_n 3, 1) := by decide +kernel
theorem dr_cX17_graph_310 : decode cX17_graph 310 = .ok (.baload, 1) := by decide +kernel
theorem dr_cX17_graph_311 : decode cX17_graph 311 = .ok (.ifCond .ne 6, 3) := by decide +kernel
theorem dr_cX17_graph_317 : decode cX17_graph 317 = .ok (.iconst 0, 1) := by decide +kernel
theorem dr_cX17_graph_318 : decode cX17_graph 318 = .ok (.istore 4, 2) := by decide +kernel
theorem dr_cX17_graph_320 : decode cX17_graph 320 = .ok (.iload 4, 2) := by decide +kernel
theorem dr_cX17_graph_322 : decode cX17_graph 322 = .ok (.bipush 32, 2) := by decide +kernel
theorem dr_cX17_graph_324 : decode cX17_graph 324 = .ok (.if_icmp .ge 59, 3) := by decide +kernel
theorem dr_cX17_graph_383 : decode cX17_graph 383 = .ok (.iinc 3 1, 3) := by decide +kernel
theorem dr_cX17_graph_386 : decode cX17_graph 386 = .ok (.goto (-88), 3) := by decide +kernel
theorem dr_cX17_graph_327 : decode cX17_graph 327 = .ok (.aload_n 0, 1) := by decide +kernel
theorem dr_cX17_graph_328 : decode cX17_graph 328 = .ok (.getfield 135, 3) := by decide +kernel
theorem dr_cX17_graph_331 : decode cX17_graph 331 = .ok (.iload_n 3, 1) := by decide +kernel
theorem dr_cX17_graph_332 : decode cX17_graph 332 = .ok (.aaload, 1) := by decide +kernel
theorem dr_cX17_graph_333 : decode cX17_graph 333 = .ok (.iload 4, 2) := by decide +kernel
theorem dr_cX17_graph_335 : decode cX17_graph 335 = .ok (.laload, 1) := by decide +kernel
theorem dr_cX17_graph_336 : decode cX17_graph 336 = .ok (.lstore 5, 2) := by decide +kernel
theorem dr_cX17_graph_338 : decode cX17_graph 338 = .ok (.lload 5, 2) := by decide +kernel
theorem dr_cX17_graph_340 : decode cX17_graph 340 = .ok (.lconst 0, 1) := by decide +kernel
theorem dr_cX17_graph_341 : decode cX17_graph 341 = .ok (.lcmp, 1) := by decide +kernel
theorem dr_cX17_graph_342 : decode cX17_graph 342 = .ok (.ifCond .eq 35, 3) := by decide +kernel
theorem dr_cX17_graph_377 : decode cX17_graph 377 = .ok (.iinc 4 1, 3) := by decide +kernel
theorem dr_cX17_graph_380 : decode cX17_graph 380 = .ok (.goto (-60), 3) := by decide +kernel
theorem dr_cX17_graph_345 : decode cX17_graph 345 = .ok (.aload_n 0, 1) := by decide +kernel
theorem dr_cX17_graph_346 : decode cX17_graph 346 = .ok (.getfield 135, 3) := by decide +kernel
theorem dr_cX17_graph_349 : decode cX17_graph 349 = .ok (.bipush 64, 2) := by decide +kernel
theorem dr_cX17_graph_351 : decode cX17_graph 351 = .ok (.iload 4, 2) := by decide +kernel
theorem dr_cX17_graph_353 : decode cX17_graph 353 = .ok (.imul, 1) := by decide +kernel
theorem dr_cX17_graph_354 : decode cX17_graph 354 = .ok (.lload 5, 2) := by decide +kernel
theorem dr_cX17_graph_356 : decode cX17_graph 356 = .ok (.invokestatic 149, 3) := by decide +kernel
theorem wr_11_1 : (Jvm.Cond.methodLink "SpillForgeModel" (149 : Nat) ({ cls := "java/lang/Long", name := "numberOfTrailingZeros", desc := "(J)I" } : Jvm.MethodName)) ∈ gw := gw_11 1 rfl rfl
theorem wr_11_3 : (Jvm.Cond.code ({ cls := "java/lang/Long", name := "numberOfTrailingZeros", desc := "(J)I" } : Jvm.MethodName) prog_31_method_49_code (3 : Nat) (Option.some Jvm.ClassFile.FieldType.int)) ∈ gw := gw_11 3 rfl rfl
theorem wr_11_2 : (Jvm.Cond.static ({ cls := "java/lang/Long", name := "numberOfTrailingZeros", desc := "(J)I" } : Jvm.MethodName)) ∈ gw := gw_11 2 rfl rfl
theorem dr_cX17_graph_359 : decode cX17_graph 359 = .ok (.iadd, 1) := by decide +kernel
theorem dr_cX17_graph_360 : decode cX17_graph 360 = .ok (.aaload, 1) := by decide +kernel
theorem dr_cX17_graph_361 : decode cX17_graph 361 = .ok (.iload_n 3, 1) := by decide +kernel
theorem dr_cX17_graph_362 : decode cX17_graph 362 = .ok (.invokestatic 67, 3) := by decide +kernel
theorem dr_cX17_graph_365 : decode cX17_graph 365 = .ok (.lload 5, 2) := by decide +kernel
theorem dr_cX17_graph_367 : decode cX17_graph 367 = .ok (.lload 5, 2) := by decide +kernel
theorem dr_cX17_graph_369 : decode cX17_graph 369 = .ok (.lconst 1, 1) := by decide +kernel
theorem dr_cX17_graph_370 : decode cX17_graph 370 = .ok (.lsub, 1) := by decide +kernel
theorem dr_cX17_graph_371 : decode cX17_graph 371 = .ok (.land, 1) := by decide +kernel
theorem dr_cX17_graph_372 : decode cX17_graph 372 = .ok (.lstore 5, 2) := by decide +kernel
theorem dr_cX17_graph_374 : decode cX17_graph 374 = .ok (.goto (-36), 3) := by decide +kernel
theorem dr_cX17_graph_314 : decode cX17_graph 314 = .ok (.goto 69, 3) := by decide +kernel
theorem dr_cX17_graph_64 : decode cX17_graph 64 = .ok (.aload_n 1, 1) := by decide +kernel
theorem dr_cX17_graph_65 : decode cX17_graph 65 = .ok (.iload_n 3, 1) := by decide +kernel
theorem dr_cX17_graph_66 : decode cX17_graph 66 = .ok (.invokevirtual 101, 3) := by decide +kernel
theorem dr_cX17_graph_69 : decode cX17_graph 69 = .ok (.astore 4, 2) := by decide +kernel
theorem dr_cX17_graph_71 : decode cX17_graph 71 = .ok (.aload_n 0, 1) := by decide +kernel
theorem dr_cX17_graph_72 : decode cX17_graph 72 = .ok (.aload 4, 2) := by decide +kernel
theorem dr_cX17_graph_74 : decode cX17_graph 74 = .ok (.invokevirtual 105, 3) := by decide +kernel
theorem dr_cX17_graph_77 : decode cX17_graph 77 = .ok (.aload_n 0, 1) := by decide +kernel
theorem dr_cX17_graph_78 : decode cX17_graph 78 = .ok (.aload 4, 2) := by decide +kernel
theorem dr_cX17_graph_80 : decode cX17_graph 80 = .ok (.getfield 109, 3) := by decide +kernel
theorem dr_cX17_graph_83 : decode cX17_graph 83 = .ok (.iload_n 2, 1) := by decide +kernel
theorem dr_cX17_graph_84 : decode cX17_graph 84 = .ok (.invokevirtual 138, 3) := by decide +kernel
theorem wr_10_237 : (Jvm.Cond.methodLink "SpillForgeModel" (138 : Nat) ({ cls := "SpillForgeModel", name := "stand", desc := "(LSpillForgeModel$Row;Z)V" } : Jvm.MethodName)) ∈ gw := gw_10 237 rfl rfl
theorem wr_11_0 : (Jvm.Cond.code ({ cls := "SpillForgeModel", name := "stand", desc := "(LSpillForgeModel$Row;Z)V" } : Jvm.MethodName) prog_14_method_11_code (4 : Nat) (Option.none : Option Jvm.ClassFile.FieldType)) ∈ gw := gw_11 0 rfl rfl
theorem wr_10_239 : (Jvm.Cond.instanceMethod ({ cls := "SpillForgeModel", name := "stand", desc := "(LSpillForgeModel$Row;Z)V" } : Jvm.MethodName)) ∈ gw := gw_10 239 rfl rfl
theorem wr_p_100 : Cond.selects "SpillForgeModel" ⟨"SpillForgeModel", "stand", "(LSpillForgeModel$Row;Z)V"⟩ ⟨"SpillForgeModel", "stand", "(LSpillForgeModel$Row;Z)V"⟩ ∈ gw := gw_p _ 100 rfl rfl rfl
theorem dr_cX17_graph_87 : decode cX17_graph 87 = .ok (.aload_n 0, 1) := by decide +kernel
theorem dr_cX17_graph_88 : decode cX17_graph 88 = .ok (.aload 4, 2) := by decide +kernel
theorem dr_cX17_graph_90 : decode cX17_graph 90 = .ok (.getfield 109, 3) := by decide +kernel
theorem dr_cX17_graph_93 : decode cX17_graph 93 = .ok (.iload_n 2, 1) := by decide +kernel
theorem dr_cX17_graph_94 : decode cX17_graph 94 = .ok (.invokevirtual 113, 3) := by decide +kernel
theorem dr_cX17_graph_97 : decode cX17_graph 97 = .ok (.aload 4, 2) := by decide +kernel
theorem dr_cX17_graph_99 : decode cX17_graph 99 = .ok (.getfield 117, 3) := by decide +kernel
theorem dr_cX17_graph_102 : decode cX17_graph 102 = .ok (.invokevirtual 121, 3) := by decide +kernel
theorem dr_cX17_graph_105 : decode cX17_graph 105 = .ok (.iconst 1, 1) := by decide +kernel
theorem dr_cX17_graph_106 : decode cX17_graph 106 = .ok (.isub, 1) := by decide +kernel
theorem dr_cX17_graph_107 : decode cX17_graph 107 = .ok (.istore 5, 2) := by decide +kernel
theorem dr_cX17_graph_109 : decode cX17_graph 109 = .ok (.iload 5, 2) := by decide +kernel
theorem dr_cX17_graph_111 : decode cX17_graph 111 = .ok (.ifCond .lt 179, 3) := by decide +kernel
theorem dr_cX17_graph_290 : decode cX17_graph 290 = .ok (.iinc 3 1, 3) := by decide +kernel
theorem dr_cX17_graph_293 : decode cX17_graph 293 = .ok (.goto (-237), 3) := by decide +kernel
theorem dr_cX17_graph_114 : decode cX17_graph 114 = .ok (.aload 4, 2) := by decide +kernel
theorem dr_cX17_graph_116 : decode cX17_graph 116 = .ok (.getfield 117, 3) := by decide +kernel
theorem dr_cX17_graph_119 : decode cX17_graph 119 = .ok (.iload 5, 2) := by decide +kernel
theorem dr_cX17_graph_121 : decode cX17_graph 121 = .ok (.invokevirtual 124, 3) := by decide +kernel
theorem dr_cX17_graph_124 : decode cX17_graph 124 = .ok (.checkcast 40, 3) := by decide +kernel
theorem dr_cX17_graph_127 : decode cX17_graph 127 = .ok (.astore 6, 2) := by decide +kernel
theorem dr_cX17_graph_129 : decode cX17_graph 129 = .ok (.aload_n 0, 1) := by decide +kernel
theorem dr_cX17_graph_130 : decode cX17_graph 130 = .ok (.aload 6, 2) := by decide +kernel
theorem dr_cX17_graph_132 : decode cX17_graph 132 = .ok (.iload_n 2, 1) := by decide +kernel
theorem dr_cX17_graph_133 : decode cX17_graph 133 = .ok (.invokevirtual 138, 3) := by decide +kernel
theorem dr_cX17_graph_136 : decode cX17_graph 136 = .ok (.aload 6, 2) := by decide +kernel
theorem dr_cX17_graph_138 : decode cX17_graph 138 = .ok (.iload_n 2, 1) := by decide +kernel
theorem dr_cX17_graph_139 : decode cX17_graph 139 = .ok (.invokestatic 55, 3) := by decide +kernel
theorem dr_cX17_graph_142 : decode cX17_graph 142 = .ok (.istore 7, 2) := by decide +kernel
theorem dr_cX17_graph_144 : decode cX17_graph 144 = .ok (.iload_n 2, 1) := by decide +kernel
theorem dr_cX17_graph_145 : decode cX17_graph 145 = .ok (.ifCond .ne 27, 3) := by decide +kernel
theorem dr_cX17_graph_172 : decode cX17_graph 172 = .ok (.iconst (-1), 1) := by decide +kernel
theorem dr_cX17_graph_173 : decode cX17_graph 173 = .ok (.istore 8, 2) := by decide +kernel
theorem dr_cX17_graph_175 : decode cX17_graph 175 = .ok (.iload 7, 2) := by decide +kernel
theorem dr_cX17_graph_177 : decode cX17_graph 177 = .ok (.ifCond .lt 100, 3) := by decide +kernel
theorem dr_cX17_graph_277 : decode cX17_graph 277 = .ok (.aload_n 0, 1) := by decide +kernel
theorem dr_cX17_graph_278 : decode cX17_graph 278 = .ok (.aload 6, 2) := by decide +kernel
theorem dr_cX17_graph_280 : decode cX17_graph 280 = .ok (.iload_n 2, 1) := by decide +kernel
theorem dr_cX17_graph_281 : decode cX17_graph 281 = .ok (.invokevirtual 113, 3) := by decide +kernel
theorem dr_cX17_graph_284 : decode cX17_graph 284 = .ok (.iinc 5 (-1), 3) := by decide +kernel
theorem dr_cX17_graph_287 : decode cX17_graph 287 = .ok (.goto (-178), 3) := by decide +kernel
theorem dr_cX17_graph_180 : decode cX17_graph 180 = .ok (.iload 8, 2) := by decide +kernel
theorem dr_cX17_graph_182 : decode cX17_graph 182 = .ok (.ifCond .lt 22, 3) := by decide +kernel
theorem dr_cX17_graph_204 : decode cX17_graph 204 = .ok (.iconst 0, 1) := by decide +kernel
theorem dr_cX17_graph_205 : decode cX17_graph 205 = .ok (.istore 9, 2) := by decide +kernel
theorem dr_cX17_graph_207 : decode cX17_graph 207 = .ok (.iconst 0, 1) := by decide +kernel
theorem dr_cX17_graph_208 : decode cX17_graph 208 = .ok (.istore 10, 2) := by decide +kernel
theorem dr_cX17_graph_210 : decode cX17_graph 210 = .ok (.iload 10, 2) := by decide +kernel
theorem dr_cX17_graph_212 : decode cX17_graph 212 = .ok (.bipush 32, 2) := by decide +kernel
theorem dr_cX17_graph_214 : decode cX17_graph 214 = .ok (.if_icmp .ge 29, 3) := by decide +kernel
theorem dr_cX17_graph_243 : decode cX17_graph 243 = .ok (.iload 8, 2) := by decide +kernel
theorem dr_cX17_graph_245 : decode cX17_graph 245 = .ok (.ifCond .lt 20, 3) := by decide +kernel
theorem dr_cX17_graph_265 : decode cX17_graph 265 = .ok (.aload_n 0, 1) := by decide +kernel
theorem dr_cX17_graph_266 : decode cX17_graph 266 = .ok (.getfield 135, 3) := by decide +kernel
theorem dr_cX17_graph_269 : decode cX17_graph 269 = .ok (.iload 7, 2) := by decide +kernel
theorem dr_cX17_graph_271 : decode cX17_graph 271 = .ok (.aaload, 1) := by decide +kernel
theorem dr_cX17_graph_272 : decode cX17_graph 272 = .ok (.iload 7, 2) := by decide +kernel
theorem dr_cX17_graph_274 : decode cX17_graph 274 = .ok (.invokestatic 63, 3) := by decide +kernel
theorem dr_cX17_graph_217 : decode cX17_graph 217 = .ok (.aload_n 0, 1) := by decide +kernel
theorem dr_cX17_graph_218 : decode cX17_graph 218 = .ok (.getfield 135, 3) := by decide +kernel
theorem dr_cX17_graph_221 : decode cX17_graph 221 = .ok (.iload 7, 2) := by decide +kernel
theorem dr_cX17_graph_223 : decode cX17_graph 223 = .ok (.aaload, 1) := by decide +kernel
theorem dr_cX17_graph_224 : decode cX17_graph 224 = .ok (.iload 10, 2) := by decide +kernel
theorem dr_cX17_graph_226 : decode cX17_graph 226 = .ok (.dup2, 1) := by decide +kernel
theorem dr_cX17_graph_227 : decode cX17_graph 227 = .ok (.laload, 1) := by decide +kernel
theorem dr_cX17_graph_228 : decode cX17_graph 228 = .ok (.aload_n 0, 1) := by decide +kernel
theorem dr_cX17_graph_229 : decode cX17_graph 229 = .ok (.getfield 59, 3) := by decide +kernel
theorem dr_cX17_graph_232 : decode cX17_graph 232 = .ok (.iload 10, 2) := by decide +kernel
theorem dr_cX17_graph_234 : decode cX17_graph 234 = .ok (.laload, 1) := by decide +kernel
theorem dr_cX17_graph_235 : decode cX17_graph 235 = .ok (.lor, 1) := by decide +kernel
theorem dr_cX17_graph_236 : decode cX17_graph 236 = .ok (.lastore, 1) := by decide +kernel
theorem dr_cX17_graph_237 : decode cX17_graph 237 = .ok (.iinc 10 1, 3) := by decide +kernel
theorem dr_cX17_graph_240 : decode cX17_graph 240 = .ok (.goto (-30), 3) := by decide +kernel
theorem dr_cX17_graph_148 : decode cX17_graph 148 = .ok (.aload 6, 2) := by decide +kernel
theorem dr_cX17_graph_150 : decode cX17_graph 150 = .ok (.getfield 39, 3) := by decide +kernel
theorem dr_cX17_graph_153 : decode cX17_graph 153 = .ok (.ifCond .ne 19, 3) := by decide +kernel
theorem dr_cX17_graph_156 : decode cX17_graph 156 = .ok (.aload 6, 2) := by decide +kernel
theorem dr_cX17_graph_158 : decode cX17_graph 158 = .ok (.getfield 141, 3) := by decide +kernel
theorem dr_cX17_graph_161 : decode cX17_graph 161 = .ok (.ifCond .eq 11, 3) := by decide +kernel
theorem dr_cX17_graph_164 : decode cX17_graph 164 = .ok (.aload 6, 2) := by decide +kernel
theorem dr_cX17_graph_166 : decode cX17_graph 166 = .ok (.getfield 73, 3) := by decide +kernel
theorem dr_cX17_graph_169 : decode cX17_graph 169 = .ok (.goto 4, 3) := by decide +kernel
theorem dr_cX17_graph_185 : decode cX17_graph 185 = .ok (.aload_n 0, 1) := by decide +kernel
theorem dr_cX17_graph_186 : decode cX17_graph 186 = .ok (.getfield 135, 3) := by decide +kernel
theorem dr_cX17_graph_189 : decode cX17_graph 189 = .ok (.iload 7, 2) := by decide +kernel
theorem dr_cX17_graph_191 : decode cX17_graph 191 = .ok (.aaload, 1) := by decide +kernel
theorem dr_cX17_graph_192 : decode cX17_graph 192 = .ok (.iload 8, 2) := by decide +kernel
theorem dr_cX17_graph_194 : decode cX17_graph 194 = .ok (.invokestatic 145, 3) := by decide +kernel
theorem dr_cX17_graph_197 : decode cX17_graph 197 = .ok (.ifCond .eq 7, 3) := by decide +kernel
theorem dr_cX17_graph_248 : decode cX17_graph 248 = .ok (.iload 9, 2) := by decide +kernel
theorem dr_cX17_graph_250 : decode cX17_graph 250 = .ok (.ifCond .ne 15, 3) := by decide +kernel
theorem dr_cX17_graph_253 : decode cX17_graph 253 = .ok (.aload_n 0, 1) := by decide +kernel
theorem dr_cX17_graph_254 : decode cX17_graph 254 = .ok (.getfield 135, 3) := by decide +kernel
theorem dr_cX17_graph_257 : decode cX17_graph 257 = .ok (.iload 7, 2) := by decide +kernel
theorem dr_cX17_graph_259 : decode cX17_graph 259 = .ok (.aaload, 1) := by decide +kernel
theorem dr_cX17_graph_260 : decode cX17_graph 260 = .ok (.iload 8, 2) := by decide +kernel
theorem dr_cX17_graph_262 : decode cX17_graph 262 = .ok (.invokestatic 63, 3) := by decide +kernel
theorem dr_cX17_graph_200 : decode cX17_graph 200 = .ok (.iconst 1, 1) := by decide +kernel
theorem dr_cX17_graph_201 : decode cX17_graph 201 = .ok (.goto 4, 3) := by decide +kernel
theorem dr_cX17_graph_15 : decode cX17_graph 15 = .ok (.aload_n 0, 1) := by decide +kernel
theorem dr_cX17_graph_16 : decode cX17_graph 16 = .ok (.getfield 131, 3) := by decide +kernel
theorem dr_cX17_graph_19 : decode cX17_graph 19 = .ok (.iload_n 3, 1) := by decide +kernel
theorem dr_cX17_graph_20 : decode cX17_graph 20 = .ok (.iconst 0, 1) := by decide +kernel
theorem dr_cX17_graph_21 : decode cX17_graph 21 = .ok (.bastore, 1) := by decide +kernel
theorem dr_cX17_graph_22 : decode cX17_graph 22 = .ok (.iconst 0, 1) := by decide +kernel
theorem dr_cX17_graph_23 : decode cX17_graph 23 = .ok (.istore 4, 2) := by decide +kernel
theorem dr_cX17_graph_25 : decode cX17_graph 25 = .ok (.iload 4, 2) := by decide +kernel
theorem dr_cX17_graph_27 : decode cX17_graph 27 = .ok (.bipush 32, 2) := by decide +kernel
theorem dr_cX17_graph_29 : decode cX17_graph 29 = .ok (.if_icmp .ge 19, 3) := by decide +kernel
theorem dr_cX17_graph_48 : decode cX17_graph 48 = .ok (.iinc 3 1, 3) := by decide +kernel
theorem dr_cX17_graph_51 : decode cX17_graph 51 = .ok (.goto (-43), 3) := by decide +kernel
theorem dr_cX17_graph_32 : decode cX17_graph 32 = .ok (.aload_n 0, 1) := by decide +kernel
theorem dr_cX17_graph_33 : decode cX17_graph 33 = .ok (.getfield 135, 3) := by decide +kernel
theorem dr_cX17_graph_36 : decode cX17_graph 36 = .ok (.iload_n 3, 1) := by decide +kernel
theorem dr_cX17_graph_37 : decode cX17_graph 37 = .ok (.aaload, 1) := by decide +kernel
theorem dr_cX17_graph_38 : decode cX17_graph 38 = .ok (.iload 4, 2) := by decide +kernel
theorem dr_cX17_graph_40 : decode cX17_graph 40 = .ok (.lconst 0, 1) := by decide +kernel
theorem dr_cX17_graph_41 : decode cX17_graph 41 = .ok (.lastore, 1) := by decide +kernel
theorem dr_cX17_graph_42 : decode cX17_graph 42 = .ok (.iinc 4 1, 3) := by decide +kernel
theorem dr_cX17_graph_45 : decode cX17_graph 45 = .ok (.goto (-20), 3) := by decide +kernel
abbrev ky_269921_SpillForgeModel_graph : gKey := (cX17_graph, 11, "SpillForgeModel", none, [], "graph", fun _ _ => True)
def pt_269921_SpillForgeModel_graph (D : va_G) (I : FieldType → ClassId) (γ el : Nat → Nat → Nat) (P269915 : List Nat) (F269916 : Nat → va_E) (q269917 : Nat) (q269918 : Nat) (p269919 : Int32) : Option Value → va_W → Nat → Nat → Prop := fun r w dc ds => ∃ (F366721 : Nat → va_E), r = none ∧ w = va_pl P269915 F366721 ∧ RS D I P269915 F366721 γ el ∧ rStr γ [] F269916 F366721 ∧ dc ≤ 0 ∧ ds ≤ 0
set_option maxRecDepth 100000 in
set_option maxHeartbeats 4000000 in
theorem ct_269921_SpillForgeModel_graph (l : Launch) (hl0 : l.stackTraces = false) (D : va_G) (I : FieldType → ClassId) (γ el : Nat → Nat → Nat) (P269915 : List Nat) (F269916 : Nat → va_E) (q269917 : Nat) (q269918 : Nat) (p269919 : Int32) (hT : RS D I P269915 F269916 γ el) (htq269917 : rKd γ q269917 10) (htq269918 : rKd γ q269918 9) (bp269919 : gB p269919 0 1) (x269920 : 0 < γ 6 (γ 1 q269918)) : CtA (gV D I) l yX17_graph cX17_graph 11 none 5 111 0 0 [.ref q269917, .ref q269918, .int p269919] (va_pl P269915 F269916) (pt_269921_SpillForgeModel_graph D I γ el P269915 F269916 q269917 q269918 p269919) gNA := by
  refine CtA_of hl0 (by decide) (Nat.le_of_ble_eq_true rfl) ?_
  refine G_aload_n 0 dr_cX17_graph_0 rfl ?_
  refine G_aload_n 1 dr_cX17_graph_1 rfl ?_
  refine G_iload_n 2 dr_cX17_graph_2 rfl ?_
  have hm269927 : q269917 ∈ P269915 := RS_m hT htq269917 (by decide)
  obtain ⟨q269929, q269930, p269931, p269932, p269933, p269934, p269935, p269936, p269937, p269938, p269939, p269940, p269941, p269942, p269943, p269944, p269945, he269928, hB269972, ht269946, ht269947, ht269948, ht269949, ht269950, ht269951, ht269952, ht269953, ht269954, ht269955, ht269956, ht269957, ht269958, ht269959, ht269960, ht269961, ht269962, ht269963, ht269964, ht269965, ht269966, ht269967, ht269968, ht269969, hB269973⟩ := show rk_10 γ (F269916 q269917) from RS_o hT htq269917
  refine Gw_callV (As := [.ref q269918, .int p269919]) (gV_ok D I) (ct_217902_SpillForgeModel_findLive l hl0 D I γ el P269915 F269916 q269917 q269918 p269919 hT htq269917 htq269918 bp269919 (by omega)) dr_cX17_graph_3 ⟨wr_10_156, wr_1_14, wr_10_159, by decide, rfl, (Nat.le_of_ble_eq_true rfl), (Nat.le_of_ble_eq_true rfl)⟩ wr_10_158 wr_p_94 hm269927 he269928 rfl (show 0 + 0 ≤ 0 by first | omega | decide) (show 0 + 0 ≤ 0 by first | omega | decide) (Nat.le_of_ble_eq_true rfl) (fun r269925 w269926 dc269922 ds269923 hp269924 => ?_) (fun _ _ _ _ _ z => z.elim)
  obtain ⟨F269974, rfl, rfl, hT269975, hs269976, hdc, hds⟩ := hp269924
  have hs269977 : rStr γ [] F269916 F269974 := rStr_tr (rStr_rf (γ := γ) (W := []) (F := F269916)) hs269976
  change G _ _ _ _ _ _ _ _ _ _ _
  refine G_widen (cs' := 0) (sl' := 0) (by omega) (by omega) ?_
  refine G_iconst 0 dr_cX17_graph_6 (by decide +kernel) ?_
  refine G_istore_n (L' := [(3, .int 0), (0, .ref q269917), (1, .ref q269918), (2, .int p269919)]) dr_cX17_graph_7 (Nat.le_of_ble_eq_true rfl) rfl ?_
  have hlp8_352028 : ∀ (n8_352028 : Nat) (F352026 : Nat → va_E) (g352025 : Int32), gB g352025 0 2000 → RS D I P269915 F352026 γ el → rStr γ [] F269916 F352026 → ((2001 : Int) - g352025.toInt).toNat < n8_352028 → G (gV D I) l (gRm 5 111 0 0) (gMA (gV D I) (pt_269921_SpillForgeModel_graph D I γ el P269915 F269916 q269917 q269918 p269919) gNA 0 0) ky_269921_SpillForgeModel_graph 8 [(3, .int g352025), (0, .ref q269917), (1, .ref q269918), (2, .int p269919)] [] (va_pl P269915 F352026) 0 0 := by
    intro n8_352028
    induction n8_352028 with
    | zero => intro F352026 g352025 bg352025 hT352027 hs352028 hm8_352028; exact absurd hm8_352028 (Nat.not_lt_zero _)
    | succ n8_352028 ih8_352028 =>
      intro F352026 g352025 bg352025 hT352027 hs352028 hm8_352028
      have hs352030 : rStr γ [] F269974 F352026 := fun b h0 hb hw => (hs352028 b h0 hb hw).trans (hs269977 b h0 hb hw).symm
      have hs352031 : rStr γ [] F269916 F352026 := rStr_tr hs269977 hs352030
      refine G_iload_n 0 dr_cX17_graph_8 rfl ?_
      refine G_sipush 2000 dr_cX17_graph_9 (by decide +kernel) ?_
      refine G_icmp_ge 54 dr_cX17_graph_12 (by decide +kernel) (fun hc352032 => ?_) (fun hc352032 => ?_)
      · have r352033 : 2000 ≤ g352025.toInt := gj_leL hc352032 (show Int32.toInt 2000 = 2000 by decide)
        have bg352025' : gB g352025 2000 2000 := ⟨by omega, by omega⟩
        refine G_iconst 0 dr_cX17_graph_54 (by decide +kernel) ?_
        refine G_istore_n (L' := [(3, .int 0), (0, .ref q269917), (1, .ref q269918), (2, .int p269919)]) dr_cX17_graph_55 (Nat.le_of_ble_eq_true rfl) rfl ?_
        have hlp56_359273 : ∀ (n56_359273 : Nat) (F359271 : Nat → va_E) (g359270 : Int32), gB g359270 0 1000000 → RS D I P269915 F359271 γ el → rStr γ [] F269916 F359271 → ((1000001 : Int) - g359270.toInt).toNat < n56_359273 → G (gV D I) l (gRm 5 111 0 0) (gMA (gV D I) (pt_269921_SpillForgeModel_graph D I γ el P269915 F269916 q269917 q269918 p269919) gNA 0 0) ky_269921_SpillForgeModel_graph 56 [(3, .int g359270), (0, .ref q269917), (1, .ref q269918), (2, .int p269919)] [] (va_pl P269915 F359271) 0 0 := by
          intro n56_359273
          induction n56_359273 with
          | zero => intro F359271 g359270 bg359270 hT359272 hs359273 hm56_359273; exact absurd hm56_359273 (Nat.not_lt_zero _)
          | succ n56_359273 ih56_359273 =>
            intro F359271 g359270 bg359270 hT359272 hs359273 hm56_359273
            have hs359275 : rStr γ [] F352026 F359271 := fun b h0 hb hw => (hs359273 b h0 hb hw).trans (hs352028 b h0 hb hw).symm
            have hs359276 : rStr γ [] F269916 F359271 := rStr_tr hs352028 hs359275
            refine G_iload_n 0 dr_cX17_graph_56 rfl ?_
            refine G_aload_n 2 dr_cX17_graph_57 rfl ?_
            have hm359277 : q269918 ∈ P269915 := RS_m hT359272 htq269918 (by decide)
            obtain ⟨q359279, q359280, p359281, p359282, he359278, ht359298, ht359283, ht359284, ht359285, ht359286, r359287, r359288, r359289, r359290, r359291, r359292, r359293, r359294, r359295, r359296, r359297⟩ := show rk_9 γ el q269918 (F359271 q269918) from RS_o hT359272 htq269918
            have bp359281 : gB p359281 0 1000000 := ⟨by omega, by omega⟩
            have bp359282 : gB p359282 0 1000000 := ⟨by omega, by omega⟩
            refine Gw_callV (As := []) (gV_ok D I) (cp_12451_Code_size l hl0 D I P269915 F359271 q269918 q359279 q359280 p359281 p359282 hm359277 he359278) dr_cX17_graph_58 ⟨wr_10_160, wr_1_15, wr_9_131, by decide, rfl, (Nat.le_of_ble_eq_true rfl), (Nat.le_of_ble_eq_true rfl)⟩ wr_9_129 wr_9_130 hm359277 he359278 rfl (show 0 + 0 ≤ 0 by first | omega | decide) (show 0 + 0 ≤ 0 by first | omega | decide) (Nat.le_of_ble_eq_true rfl) (fun r359302 w359303 dc359299 ds359300 hp359301 => ?_) (fun _ _ _ _ _ z => z.elim)
            obtain ⟨rfl, rfl, hdc, hds⟩ := hp359301
            change G _ _ _ _ _ _ _ (.int p359282 :: _) _ _ _
            refine G_widen (cs' := 0) (sl' := 0) (by omega) (by omega) ?_
            refine G_icmp_ge 296 dr_cX17_graph_61 (by decide +kernel) (fun hc359304 => ?_) (fun hc359304 => ?_)
            · have r359305 : p359282.toInt ≤ g359270.toInt := gC_le hc359304
              refine G_iconst 0 dr_cX17_graph_296 (by decide +kernel) ?_
              refine G_istore_n (L' := [(3, .int 0), (0, .ref q269917), (1, .ref q269918), (2, .int p269919)]) dr_cX17_graph_297 (Nat.le_of_ble_eq_true rfl) rfl ?_
              have hlp298_359909 : ∀ (n298_359909 : Nat) (F359907 : Nat → va_E) (g359906 : Int32), gB g359906 0 2000 → RS D I P269915 F359907 γ el → rStr γ [] F269916 F359907 → ((2001 : Int) - g359906.toInt).toNat < n298_359909 → G (gV D I) l (gRm 5 111 0 0) (gMA (gV D I) (pt_269921_SpillForgeModel_graph D I γ el P269915 F269916 q269917 q269918 p269919) gNA 0 0) ky_269921_SpillForgeModel_graph 298 [(3, .int g359906), (0, .ref q269917), (1, .ref q269918), (2, .int p269919)] [] (va_pl P269915 F359907) 0 0 := by
                intro n298_359909
                induction n298_359909 with
                | zero => intro F359907 g359906 bg359906 hT359908 hs359909 hm298_359909; exact absurd hm298_359909 (Nat.not_lt_zero _)
                | succ n298_359909 ih298_359909 =>
                  intro F359907 g359906 bg359906 hT359908 hs359909 hm298_359909
                  have hs359911 : rStr γ [] F359271 F359907 := fun b h0 hb hw => (hs359909 b h0 hb hw).trans (hs359273 b h0 hb hw).symm
                  have he359912 : F359907 q269918 = .inr (18, [.ref q359279, .ref q359280, .int p359281, .int p359282]) := (hs359911 q269918 (rT0 htq269918 (by decide)) (rT1 htq269918 (by decide)) (rT2 htq269918 (by decide))).trans he359278
                  have hs359913 : rStr γ [] F269916 F359907 := rStr_tr hs359273 hs359911
                  refine G_iload_n 0 dr_cX17_graph_298 rfl ?_
                  refine G_sipush 2000 dr_cX17_graph_299 (by decide +kernel) ?_
                  refine G_icmp_ge 389 dr_cX17_graph_302 (by decide +kernel) (fun hc359914 => ?_) (fun hc359914 => ?_)
                  · have r359915 : 2000 ≤ g359906.toInt := gj_leL hc359914 (show Int32.toInt 2000 = 2000 by decide)
                    have bg359906' : gB g359906 2000 2000 := ⟨by omega, by omega⟩
                    exact G_vretA dr_cX17_graph_389 rfl (Nat.le_of_ble_eq_true rfl) (Nat.le_of_ble_eq_true rfl) ⟨F359907, rfl, rfl, hT359908, hs359909, (Nat.le_of_ble_eq_true rfl), (Nat.le_of_ble_eq_true rfl)⟩
                  · have r359916 : g359906.toInt < 2000 := gj_nleL hc359914 (show Int32.toInt 2000 = 2000 by decide)
                    have bg359906' : gB g359906 0 1999 := ⟨by omega, by omega⟩
                    refine G_aload_n 1 dr_cX17_graph_305 rfl ?_
                    have hm359917 : q269917 ∈ P269915 := RS_m hT359908 htq269917 (by decide)
                    obtain ⟨q359919, q359920, p359921, p359922, p359923, p359924, p359925, p359926, p359927, p359928, p359929, p359930, p359931, p359932, p359933, p359934, p359935, he359918, hB359962, ht359936, ht359937, ht359938, ht359939, ht359940, ht359941, ht359942, ht359943, ht359944, ht359945, ht359946, ht359947, ht359948, ht359949, ht359950, ht359951, ht359952, ht359953, ht359954, ht359955, ht359956, ht359957, ht359958, ht359959, hB359963⟩ := show rk_10 γ (F359907 q269917) from RS_o hT359908 htq269917
                    refine Gp_get 3 hm359917 he359918 dr_cX17_graph_306 (gk_X17 D I) (Nat.le_of_ble_eq_true rfl) wr_7_77 rfl ?_
                    refine G_iload_n 0 dr_cX17_graph_309 rfl ?_
                    have hm359964 : (γ 9 3) ∈ P269915 := RS_m hT359908 ht359941 (by decide)
                    obtain ⟨f359966, he359965, bf359966⟩ := show rk_14 I (F359907 (γ 9 3)) from RS_o hT359908 ht359941
                    refine Gp_zald 3 hm359964 he359965 dr_cX17_graph_310 rfl (gB_in bg359906' (by decide) (by decide)) (G_nam fun z359967 hz359967 => ?_)
                    have bz359967 : gB z359967 0 1 := by rw [hz359967]; exact bf359966 _
                    refine G_if_ne 317 dr_cX17_graph_311 (by decide +kernel) (fun hc359968 => ?_) (fun hc359968 => ?_)
                    · have r359969 : z359967.toInt ≠ 0 := gj_neq hc359968 (show Int32.toInt 0 = 0 by decide)
                      have bz359967' : gB z359967 1 1 := ⟨by omega, by omega⟩
                      refine G_iconst 0 dr_cX17_graph_317 (by decide +kernel) ?_
                      refine G_istore (L' := [(4, .int 0), (3, .int g359906), (0, .ref q269917), (1, .ref q269918), (2, .int p269919)]) dr_cX17_graph_318 (Nat.le_of_ble_eq_true rfl) rfl ?_
                      have hlp320_360240 : ∀ (n320_360240 : Nat) (F360238 : Nat → va_E) (g360237 : Int32), gB g360237 0 32 → RS D I P269915 F360238 γ el → rStr γ [] F269916 F360238 → ((33 : Int) - g360237.toInt).toNat < n320_360240 → G (gV D I) l (gRm 5 111 0 0) (gMA (gV D I) (pt_269921_SpillForgeModel_graph D I γ el P269915 F269916 q269917 q269918 p269919) gNA 0 0) ky_269921_SpillForgeModel_graph 320 [(4, .int g360237), (3, .int g359906), (0, .ref q269917), (1, .ref q269918), (2, .int p269919)] [] (va_pl P269915 F360238) 0 0 := by
                        intro n320_360240
                        induction n320_360240 with
                        | zero => intro F360238 g360237 bg360237 hT360239 hs360240 hm320_360240; exact absurd hm320_360240 (Nat.not_lt_zero _)
                        | succ n320_360240 ih320_360240 =>
                          intro F360238 g360237 bg360237 hT360239 hs360240 hm320_360240
                          have hs360242 : rStr γ [] F359907 F360238 := fun b h0 hb hw => (hs360240 b h0 hb hw).trans (hs359909 b h0 hb hw).symm
                          have he360243 : F360238 q269918 = .inr (18, [.ref q359279, .ref q359280, .int p359281, .int p359282]) := (hs360242 q269918 (rT0 htq269918 (by decide)) (rT1 htq269918 (by decide)) (rT2 htq269918 (by decide))).trans he359912
                          have hs360244 : rStr γ [] F269916 F360238 := rStr_tr hs359909 hs360242
                          refine G_iload 0 dr_cX17_graph_320 rfl ?_
                          refine G_bipush 32 dr_cX17_graph_322 (by decide +kernel) ?_
                          refine G_icmp_ge 383 dr_cX17_graph_324 (by decide +kernel) (fun hc360245 => ?_) (fun hc360245 => ?_)
                          · have r360246 : 32 ≤ g360237.toInt := gj_leL hc360245 (show Int32.toInt 32 = 32 by decide)
                            have bg360237' : gB g360237 32 32 := ⟨by omega, by omega⟩
                            obtain ⟨z360247, hz360247⟩ : ∃ z : Int32, z = g359906 + Int32.ofInt 1 := ⟨_, rfl⟩
                            have ez360247 : z360247.toInt = g359906.toInt + 1 := gI_inc hz360247 (by decide) bg359906' (by decide) (by decide)
                            have bz360247 : gB z360247 1 2000 := ⟨by omega, by omega⟩
                            refine G_iinc (L' := [(3, .int z360247), (4, .int g360237), (0, .ref q269917), (1, .ref q269918), (2, .int p269919)]) z360247 1 dr_cX17_graph_383 rfl hz360247.symm (Nat.le_of_ble_eq_true rfl) rfl ?_
                            refine G_goto 298 dr_cX17_graph_386 (by decide +kernel) ?_
                            refine G_lv (L' := [(3, .int z360247), (0, .ref q269917), (1, .ref q269918), (2, .int p269919)]) [0, 2, 3, 4] rfl ?_
                            exact ih298_359909 F360238 z360247 (gB_w bz360247 (by decide) (by decide)) hT360239 hs360240 (by omega)
                          · have r360248 : g360237.toInt < 32 := gj_nleL hc360245 (show Int32.toInt 32 = 32 by decide)
                            have bg360237' : gB g360237 0 31 := ⟨by omega, by omega⟩
                            refine G_aload_n 2 dr_cX17_graph_327 rfl ?_
                            have hm360249 : q269917 ∈ P269915 := RS_m hT360239 htq269917 (by decide)
                            obtain ⟨q360251, q360252, p360253, p360254, p360255, p360256, p360257, p360258, p360259, p360260, p360261, p360262, p360263, p360264, p360265, p360266, p360267, he360250, hB360294, ht360268, ht360269, ht360270, ht360271, ht360272, ht360273, ht360274, ht360275, ht360276, ht360277, ht360278, ht360279, ht360280, ht360281, ht360282, ht360283, ht360284, ht360285, ht360286, ht360287, ht360288, ht360289, ht360290, ht360291, hB360295⟩ := show rk_10 γ (F360238 q269917) from RS_o hT360239 htq269917
                            refine Gp_get 1 hm360249 he360250 dr_cX17_graph_328 (gk_X17 D I) (Nat.le_of_ble_eq_true rfl) wr_7_75 rfl ?_
                            refine G_iload_n 1 dr_cX17_graph_331 rfl ?_
                            have hm360296 : (γ 9 1) ∈ P269915 := RS_m hT360239 ht360271 (by decide)
                            obtain ⟨f360298, he360297, hg360299⟩ := show rk_13 I γ (F360238 (γ 9 1)) from RS_o hT360239 ht360271
                            obtain ⟨q360300, hx360302⟩ : ∃ x, x = γ 11 g359906.toInt.toNat := ⟨_, rfl⟩
                            have ht360301 : rKd γ q360300 36 := by rw [hx360302]; exact (hg360299 _ (show g359906.toInt.toNat < 2000 by omega)).2.1
                            refine Gp_aald 5 hm360296 he360297 dr_cX17_graph_332 rfl rfl (gB_in bg359906' (by decide) (by decide)) ?_
                            rw [show f360298 g359906.toNatClampNeg = some q360300 from (hg360299 _ (show g359906.toInt.toNat < 2000 by omega)).1.trans (by rw [hx360302])]
                            change G _ _ _ _ _ _ _ (.ref q360300 :: _) _ _ _
                            refine G_iload 0 dr_cX17_graph_333 rfl ?_
                            have hm360303 : q360300 ∈ P269915 := RS_m hT360239 ht360301 (by decide)
                            obtain ⟨f360305, he360304, wf360305⟩ := show rk_36 I (F360238 q360300) from RS_o hT360239 ht360301
                            refine Gp_lald 2 hm360303 he360304 dr_cX17_graph_335 rfl (gB_in bg360237' (by decide) (by decide)) (G_namL fun u360306 hu360306 => ?_)
                            have qu360306 : lb_Q u360306 (2000 - 64 * g360237.toInt) := lb_Wld hu360306 wf360305 (by omega) (by omega) (lb_Mod0 (by omega) (by omega))
                            refine G_lstore (L' := [(5, .long u360306), (4, .int g360237), (3, .int g359906), (0, .ref q269917), (1, .ref q269918), (2, .int p269919)]) dr_cX17_graph_336 (Nat.le_of_ble_eq_true rfl) rfl ?_
                            have hlp338_360409 : ∀ (n338_360409 : Nat) (F360406 : Nat → va_E) (gl360405 : Int64), RS D I P269915 F360406 γ el → rStr γ [] F269916 F360406 → (lb_Q gl360405 (2000 - 64 * g360237.toInt)) → (rpop gl360405) < n338_360409 → G (gV D I) l (gRm 5 111 0 0) (gMA (gV D I) (pt_269921_SpillForgeModel_graph D I γ el P269915 F269916 q269917 q269918 p269919) gNA 0 0) ky_269921_SpillForgeModel_graph 338 [(5, .long gl360405), (4, .int g360237), (3, .int g359906), (0, .ref q269917), (1, .ref q269918), (2, .int p269919)] [] (va_pl P269915 F360406) 0 0 := by
                              intro n338_360409
                              induction n338_360409 with
                              | zero => intro F360406 gl360405 hT360407 hs360408 x360409 hm338_360409; exact absurd hm338_360409 (Nat.not_lt_zero _)
                              | succ n338_360409 ih338_360409 =>
                                intro F360406 gl360405 hT360407 hs360408 x360409 hm338_360409
                                have hs360411 : rStr γ [] F360238 F360406 := fun b h0 hb hw => (hs360408 b h0 hb hw).trans (hs360240 b h0 hb hw).symm
                                have he360412 : F360406 q269918 = .inr (18, [.ref q359279, .ref q359280, .int p359281, .int p359282]) := (hs360411 q269918 (rT0 htq269918 (by decide)) (rT1 htq269918 (by decide)) (rT2 htq269918 (by decide))).trans he360243
                                have hs360413 : rStr γ [] F269916 F360406 := rStr_tr hs360240 hs360411
                                refine G_lload 0 dr_cX17_graph_338 rfl ?_
                                refine G_lconst 0 dr_cX17_graph_340 rfl ?_
                                refine G_lcmp dr_cX17_graph_341 (G_nam fun z360414 hz360414 => ?_)
                                have bz360414 : gB z360414 (-1) 1 := gB_cmp hz360414
                                refine G_if_eq 377 dr_cX17_graph_342 (by decide +kernel) (fun hc360415 => ?_) (fun hc360415 => ?_)
                                · have r360416 : z360414.toInt = 0 := gj_eq hc360415 (show Int32.toInt 0 = 0 by decide)
                                  have bz360414' : gB z360414 0 0 := ⟨by omega, by omega⟩
                                  have lhc360415 := gC_cmpE hz360414 hc360415
                                  obtain ⟨z360417, hz360417⟩ : ∃ z : Int32, z = g360237 + Int32.ofInt 1 := ⟨_, rfl⟩
                                  have ez360417 : z360417.toInt = g360237.toInt + 1 := gI_inc hz360417 (by decide) bg360237' (by decide) (by decide)
                                  have bz360417 : gB z360417 1 32 := ⟨by omega, by omega⟩
                                  refine G_iinc (L' := [(4, .int z360417), (5, .long gl360405), (3, .int g359906), (0, .ref q269917), (1, .ref q269918), (2, .int p269919)]) z360417 1 dr_cX17_graph_377 rfl hz360417.symm (Nat.le_of_ble_eq_true rfl) rfl ?_
                                  refine G_goto 320 dr_cX17_graph_380 (by decide +kernel) ?_
                                  refine G_lv (L' := [(4, .int z360417), (3, .int g359906), (0, .ref q269917), (1, .ref q269918), (2, .int p269919)]) [0, 2, 3, 4, 5] rfl ?_
                                  exact ih320_360240 F360406 z360417 (gB_w bz360417 (by decide) (by decide)) hT360407 hs360408 (by omega)
                                · have r360418 : z360414.toInt ≠ 0 := gj_neq hc360415 (show Int32.toInt 0 = 0 by decide)
                                  have lhc360415 := gC_cmpN hz360414 hc360415
                                  refine G_aload_n 3 dr_cX17_graph_345 rfl ?_
                                  have hm360419 : q269917 ∈ P269915 := RS_m hT360407 htq269917 (by decide)
                                  obtain ⟨q360421, q360422, p360423, p360424, p360425, p360426, p360427, p360428, p360429, p360430, p360431, p360432, p360433, p360434, p360435, p360436, p360437, he360420, hB360464, ht360438, ht360439, ht360440, ht360441, ht360442, ht360443, ht360444, ht360445, ht360446, ht360447, ht360448, ht360449, ht360450, ht360451, ht360452, ht360453, ht360454, ht360455, ht360456, ht360457, ht360458, ht360459, ht360460, ht360461, hB360465⟩ := show rk_10 γ (F360406 q269917) from RS_o hT360407 htq269917
                                  refine Gp_get 1 hm360419 he360420 dr_cX17_graph_346 (gk_X17 D I) (Nat.le_of_ble_eq_true rfl) wr_7_75 rfl ?_
                                  refine G_bipush 64 dr_cX17_graph_349 (by decide +kernel) ?_
                                  refine G_iload 1 dr_cX17_graph_351 rfl ?_
                                  refine G_imul dr_cX17_graph_353 (G_nam fun z360466 hz360466 => ?_)
                                  have ez360466 : z360466.toInt = 64 * g360237.toInt := by rw [gI_mul hz360466 (gBl (show Int32.toInt 64 = 64 by decide)) bg360237' (by decide) (by decide) (by decide), show Int32.toInt 64 = 64 from by decide]
                                  have bz360466 : gB z360466 0 1984 := gB_mul hz360466 (gBl (show Int32.toInt 64 = 64 by decide)) bg360237' (by decide) (by decide) (by decide) (by decide)
                                  refine G_lload 0 dr_cX17_graph_354 rfl ?_
                                  refine Gw_callS (As := [.long gl360405]) (gV_ok D I) (nzc_Long_numberOfTrailingZeros l hl0 D I P269915 F360406 gl360405) dr_cX17_graph_356 ⟨wr_11_1, wr_1_31, wr_11_3, by decide, rfl, (Nat.le_of_ble_eq_true rfl), (Nat.le_of_ble_eq_true rfl)⟩ wr_11_2 (show 0 + 0 ≤ 0 by first | omega | decide) (show 0 + 0 ≤ 0 by first | omega | decide) (Nat.le_of_ble_eq_true rfl) (fun r360470 w360471 dc360467 ds360468 hp360469 => ?_) (fun _ _ _ _ _ z => z.elim)
                                  obtain ⟨o360474, rfl, rfl, hdc, hds, hO360472⟩ := hp360469
                                  have hO360472 := hO360472 lhc360415
                                  have bo360474 : gB o360474 0 63 := ⟨hO360472.1, hO360472.2.1⟩
                                  have r360473 : o360474.toInt < 2000 - 64 * g360237.toInt := lb_Qlt x360409 hO360472.1 hO360472.2.2
                                  change G _ _ _ _ _ _ _ (.int o360474 :: _) _ _ _
                                  refine G_widen (cs' := 0) (sl' := 0) (by omega) (by omega) ?_
                                  refine G_iadd dr_cX17_graph_359 (G_nam fun z360475 hz360475 => ?_)
                                  have ez360475 : z360475.toInt = z360466.toInt + o360474.toInt := by rw [gI_add hz360475 bz360466 bo360474 (by decide) (by decide)]
                                  have bz360475 : gB z360475 0 2047 := gB_add (gI_add hz360475 bz360466 bo360474 (by decide) (by decide)) bz360466 bo360474 (by decide) (by decide)
                                  have hm360476 : (γ 9 1) ∈ P269915 := RS_m hT360407 ht360441 (by decide)
                                  obtain ⟨f360478, he360477, hg360479⟩ := show rk_13 I γ (F360406 (γ 9 1)) from RS_o hT360407 ht360441
                                  obtain ⟨q360480, hx360482⟩ : ∃ x, x = γ 11 z360475.toInt.toNat := ⟨_, rfl⟩
                                  have ht360481 : rKd γ q360480 36 := by rw [hx360482]; exact (hg360479 _ (show z360475.toInt.toNat < 2000 by omega)).2.1
                                  refine Gp_aald 5 hm360476 he360477 dr_cX17_graph_360 rfl rfl (gB_inr (by omega) (by omega)) ?_
                                  rw [show f360478 z360475.toNatClampNeg = some q360480 from (hg360479 _ (show z360475.toInt.toNat < 2000 by omega)).1.trans (by rw [hx360482])]
                                  change G _ _ _ _ _ _ _ (.ref q360480 :: _) _ _ _
                                  refine G_iload_n 2 dr_cX17_graph_361 rfl ?_
                                  have hm360483 : q360480 ∈ P269915 := RS_m hT360407 ht360481 (by decide)
                                  obtain ⟨f360485, he360484, wf360485⟩ := show rk_36 I (F360406 q360480) from RS_o hT360407 ht360481
                                  refine Gw_callS (As := [.ref q360480, .int g359906]) (gV_ok D I) (cp_1853_SpillForgeModel_set l hl0 D I P269915 F360406 q360480 g359906 f360485 hm360483 he360484 bg359906' wf360485) dr_cX17_graph_362 ⟨wr_10_189, wr_1_14, wr_10_191, by decide, rfl, (Nat.le_of_ble_eq_true rfl), (Nat.le_of_ble_eq_true rfl)⟩ wr_10_190 (show 0 + 0 ≤ 0 by first | omega | decide) (show 0 + 0 ≤ 0 by first | omega | decide) (Nat.le_of_ble_eq_true rfl) (fun r360489 w360490 dc360486 ds360487 hp360488 => ?_) (fun _ _ _ _ _ z => z.elim)
                                  obtain ⟨F360493, f360491, rfl, rfl, hfr360495, he360496, hdc, hds, x360492⟩ := hp360488
                                  have he360497 : F360493 q269918 = .inr (18, [.ref q359279, .ref q359280, .int p359281, .int p359282]) := (hfr360495 q269918 hm359277 (nm_c (rn_oa he360412 he360484) nm_n)).trans he360412
                                  have he360498 : F360493 q269917 = .inr (22, [.ref (γ 9 0), .ref (γ 9 1), .ref (γ 9 2), .ref (γ 9 3), .ref (γ 9 4), .ref (γ 9 5), .ref (γ 9 6), .ref (γ 9 7), .ref (γ 9 8), .int p360423, .int p360424, .int p360425, .int p360426, .int p360427, .int p360428, .ref (γ 9 15), .ref (γ 9 16), .ref (γ 9 17), .ref (γ 9 18), .ref (γ 9 19), .ref (γ 9 20), .ref (γ 9 21), .ref (γ 9 22), .int p360429, .int p360430, .int p360431, .int p360432, .int p360433, .ref q360421, .ref (γ 9 29), .int p360434, .ref (γ 9 31), .int p360435, .int p360436, .int p360437, .ref q360422]) := (hfr360495 q269917 hm360419 (nm_c (rn_oa he360420 he360484) nm_n)).trans he360420
                                  have he360499 : F360493 (γ 9 1) = .inl (I (.array .long), 2000, .inr (.inr (.inr (.inr f360478)))) := (hfr360495 (γ 9 1) hm360476 (nm_c (rn_ref_long he360477 he360484) nm_n)).trans he360477
                                  have hfr360500 : rFr [q360480] P269915 F360406 F360493 := rFr_call (rSub_rf (P := P269915)) (rFr_rf (W := []) (P := P269915) (F := F360406)) hfr360495 (fun b hb hn => ⟨nm_n, (nm_c (fun e => hn (e ▸ List.mem_cons_self)) nm_n)⟩)
                                  change G _ _ _ _ _ _ _ _ _ _ _
                                  refine G_widen (cs' := 0) (sl' := 0) (by omega) (by omega) ?_
                                  have hT360501 : RS D I P269915 F360493 γ el := RS_fr hT360407 hfr360500 ht360481 (by decide) ⟨f360491, he360496, x360492⟩
                                  have hs360502 : rStr γ [] F269916 F360493 := rStr_fr hT360407 hs360408 hfr360500 ht360481 (by decide)
                                  refine G_lload 0 dr_cX17_graph_365 rfl ?_
                                  refine G_lload 0 dr_cX17_graph_367 rfl ?_
                                  refine G_lconst 1 dr_cX17_graph_369 rfl ?_
                                  refine G_lsub dr_cX17_graph_370 (G_namL fun u360503 hu360503 => ?_)
                                  refine G_land dr_cX17_graph_371 (G_namL fun u360504 hu360504 => ?_)
                                  refine G_lstore (L' := [(5, .long u360504), (4, .int g360237), (3, .int g359906), (0, .ref q269917), (1, .ref q269918), (2, .int p269919)]) dr_cX17_graph_372 (Nat.le_of_ble_eq_true rfl) rfl ?_
                                  refine G_goto 338 dr_cX17_graph_374 (by decide +kernel) ?_
                                  exact ih338_360409 F360493 u360504 hT360501 hs360502 (lb_QandL hu360504 x360409) (by have q := rpop_low lhc360415 hu360503 hu360504; omega)
                            exact hlp338_360409 ((rpop u360306) + 1) F360238 u360306 hT360239 hs360240 qu360306 (Nat.lt_succ_self _)
                      exact hlp320_360240 (((33 : Int) - 0).toNat + 1) F359907 0 (gB_w (gBl (show Int32.toInt 0 = 0 by decide)) (by decide) (by decide)) hT359908 hs359909 (Nat.lt_succ_self _)
                    · have r360505 : z359967.toInt = 0 := gj_eq hc359968 (show Int32.toInt 0 = 0 by decide)
                      have bz359967' : gB z359967 0 0 := ⟨by omega, by omega⟩
                      refine G_goto 383 dr_cX17_graph_314 (by decide +kernel) ?_
                      obtain ⟨z360506, hz360506⟩ : ∃ z : Int32, z = g359906 + Int32.ofInt 1 := ⟨_, rfl⟩
                      have ez360506 : z360506.toInt = g359906.toInt + 1 := gI_inc hz360506 (by decide) bg359906' (by decide) (by decide)
                      have bz360506 : gB z360506 1 2000 := ⟨by omega, by omega⟩
                      refine G_iinc (L' := [(3, .int z360506), (0, .ref q269917), (1, .ref q269918), (2, .int p269919)]) z360506 0 dr_cX17_graph_383 rfl hz360506.symm (Nat.le_of_ble_eq_true rfl) rfl ?_
                      refine G_goto 298 dr_cX17_graph_386 (by decide +kernel) ?_
                      exact ih298_359909 F359907 z360506 (gB_w bz360506 (by decide) (by decide)) hT359908 hs359909 (by omega)
              exact hlp298_359909 (((2001 : Int) - 0).toNat + 1) F359271 0 (gB_w (gBl (show Int32.toInt 0 = 0 by decide)) (by decide) (by decide)) hT359272 hs359273 (Nat.lt_succ_self _)
            · have r360507 : g359270.toInt < p359282.toInt := gC_nle hc359304
              have bg359270' : gB g359270 0 999999 := ⟨by omega, by omega⟩
              have bp359282' : gB p359282 1 1000000 := ⟨by omega, by omega⟩
              refine G_aload_n 2 dr_cX17_graph_64 rfl ?_
              refine G_iload_n 0 dr_cX17_graph_65 rfl ?_
              have hm360508 : q359279 ∈ P269915 := RS_m hT359272 ht359283 (by decide)
              obtain ⟨⟨p360510, p360511, q360512, he360509, r360513, r360514, r360515, r360517⟩, r360516⟩ := show rk_4 D I γ el F359271 q359279 from RS_o hT359272 ht359283
              have bp360510 := gB_any p360510
              have bp360511 : gB p360511 0 1000000 := ⟨by omega, by omega⟩
              obtain ⟨r360518, r360519, n360526, f360527, r360520, r360521, r360522, r360523, r360524, r360525⟩ := rLC_n r360515 (by omega)
              have hm360528 : q360512 ∈ P269915 := RS_m hT359272 r360518 (by decide)
              obtain ⟨q360529, hx360530⟩ : ∃ x, x = el q359279 g359270.toInt.toNat := ⟨_, rfl⟩
              have hx360531 : f360527 g359270.toNatClampNeg = some q360529 := (r360524 _ (show g359270.toInt.toNat < γ 2 q359279 by omega)).trans (by rw [hx360530])
              have ht360534 : rKd γ q360529 2 := by rw [hx360530]; exact (r359294 _ (by omega)).resolve_right (fun z => absurd z.1 (by omega))
              have ht360535 : rFm γ q360529 q359279 := by rw [hx360530]; exact (r360516 _ (show g359270.toInt.toNat < γ 2 q359279 by omega)).2.1
              have hm360536 : q360529 ∈ P269915 := RS_m hT359272 ht360534 (by decide)
              obtain ⟨q360538, q360539, p360540, p360541, he360537, ht360548, ht360542, ht360543, ht360544, ht360545, ht360546, bp360540, bp360541, r360547, r360549, r360550⟩ := show rk_2 γ q360529 (F359271 q360529) from RS_o hT359272 ht360534
              refine Gw_callV (As := [.int g359270]) (gV_ok D I) (cp_7723_Code_get l hl0 D I P269915 F359271 q269918 q359279 q360512 g359270 q359280 p359281 p359282 p360510 p360511 f360527 n360526 q360529 q360538 q360539 p360540 p360541 hm359277 hm360508 hm360528 hm360536 he359278 he360509 r360520 he360537 (gB_w bg359270' (by decide) (by decide)) (gB_w bp360511 (by decide) (by decide)) (by omega) (by omega) (by assumption) (by omega)) dr_cX17_graph_66 ⟨wr_10_161, wr_1_15, wr_10_141, by decide, rfl, (Nat.le_of_ble_eq_true rfl), (Nat.le_of_ble_eq_true rfl)⟩ wr_10_139 wr_10_140 hm359277 he359278 rfl (show 0 + 0 ≤ 0 by first | omega | decide) (show 0 + 0 ≤ 0 by first | omega | decide) (Nat.le_of_ble_eq_true rfl) (fun r360554 w360555 dc360551 ds360552 hp360553 => ?_) (fun _ _ _ _ _ z => z.elim)
              obtain ⟨rfl, rfl, hdc, hds⟩ := hp360553
              change G _ _ _ _ _ _ _ (.ref q360529 :: _) _ _ _
              refine G_widen (cs' := 0) (sl' := 0) (by omega) (by omega) ?_
              refine G_astore (L' := [(4, .ref q360529), (3, .int g359270), (0, .ref q269917), (1, .ref q269918), (2, .int p269919)]) dr_cX17_graph_69 (Nat.le_of_ble_eq_true rfl) rfl ?_
              refine G_aload_n 2 dr_cX17_graph_71 rfl ?_
              refine G_aload 0 dr_cX17_graph_72 rfl ?_
              have hm360561 : q269917 ∈ P269915 := RS_m hT359272 htq269917 (by decide)
              obtain ⟨q360563, q360564, p360565, p360566, p360567, p360568, p360569, p360570, p360571, p360572, p360573, p360574, p360575, p360576, p360577, p360578, p360579, he360562, hB360606, ht360580, ht360581, ht360582, ht360583, ht360584, ht360585, ht360586, ht360587, ht360588, ht360589, ht360590, ht360591, ht360592, ht360593, ht360594, ht360595, ht360596, ht360597, ht360598, ht360599, ht360600, ht360601, ht360602, ht360603, hB360607⟩ := show rk_10 γ (F359271 q269917) from RS_o hT359272 htq269917
              refine Gw_callV (As := [.ref q360529]) (gV_ok D I) (ct_4747_SpillForgeModel_behind l hl0 D I γ el P269915 F359271 q269917 q360529 hT359272 htq269917 ht360534) dr_cX17_graph_74 ⟨wr_10_162, wr_1_14, wr_10_165, by decide, rfl, (Nat.le_of_ble_eq_true rfl), (Nat.le_of_ble_eq_true rfl)⟩ wr_10_164 wr_p_95 hm360561 he360562 rfl (show 0 + 0 ≤ 0 by first | omega | decide) (show 0 + 0 ≤ 0 by first | omega | decide) (Nat.le_of_ble_eq_true rfl) (fun r360559 w360560 dc360556 ds360557 hp360558 => ?_) (fun _ _ _ _ _ z => z.elim)
              obtain ⟨F360608, rfl, rfl, hT360609, hs360610, hdc, hds⟩ := hp360558
              have he360611 : F360608 q269918 = .inr (18, [.ref q359279, .ref q359280, .int p359281, .int p359282]) := (hs360610 q269918 (rT0 htq269918 (by decide)) (rT1 htq269918 (by decide)) (rT2 htq269918 (by decide))).trans he359278
              have he360612 : F360608 q359279 = .inr (4, [.int p360510, .ref q360512, .int p360511]) := (hs360610 q359279 (rT0 ht359283 (by decide)) (rT1 ht359283 (by decide)) (rT2 ht359283 (by decide))).trans he360509
              have he360613 : F360608 q360512 = .inl (I (.object "java/lang/Object"), n360526, .inr (.inr (.inr (.inr f360527)))) := (hs360610 q360512 (rT0 r360518 (by decide)) (rT1 r360518 (by decide)) (rT2 r360518 (by decide))).trans r360520
              have he360614 : F360608 q360529 = .inr (17, [.ref q360538, .ref q360539, .int p360540, .int p360541]) := (hs360610 q360529 (rT0 ht360534 (by decide)) (rT1 ht360534 (by decide)) (rT2 ht360534 (by decide))).trans he360537
              have hs360615 : rStr γ [] F269916 F360608 := rStr_tr hs359273 hs360610
              change G _ _ _ _ _ _ _ _ _ _ _
              refine G_widen (cs' := 0) (sl' := 0) (by omega) (by omega) ?_
              refine G_aload_n 2 dr_cX17_graph_77 rfl ?_
              refine G_aload 0 dr_cX17_graph_78 rfl ?_
              refine Gp_get 1 hm360536 he360614 dr_cX17_graph_80 (gk_X12 D I) (Nat.le_of_ble_eq_true rfl) wr_9_223 rfl ?_
              refine G_iload_n 4 dr_cX17_graph_83 rfl ?_
              have hm360621 : q269917 ∈ P269915 := RS_m hT360609 htq269917 (by decide)
              obtain ⟨q360623, q360624, p360625, p360626, p360627, p360628, p360629, p360630, p360631, p360632, p360633, p360634, p360635, p360636, p360637, p360638, p360639, he360622, hB360666, ht360640, ht360641, ht360642, ht360643, ht360644, ht360645, ht360646, ht360647, ht360648, ht360649, ht360650, ht360651, ht360652, ht360653, ht360654, ht360655, ht360656, ht360657, ht360658, ht360659, ht360660, ht360661, ht360662, ht360663, hB360667⟩ := show rk_10 γ (F360608 q269917) from RS_o hT360609 htq269917
              refine Gw_callV (As := [.ref q360539, .int p269919]) (gV_ok D I) (ct_4364_SpillForgeModel_stand l hl0 D I γ el P269915 F360608 q269917 q360539 p269919 hT360609 htq269917 ht360544 bp269919) dr_cX17_graph_84 ⟨wr_10_237, wr_1_14, wr_11_0, by decide, rfl, (Nat.le_of_ble_eq_true rfl), (Nat.le_of_ble_eq_true rfl)⟩ wr_10_239 wr_p_100 hm360621 he360622 rfl (show 0 + 0 ≤ 0 by first | omega | decide) (show 0 + 0 ≤ 0 by first | omega | decide) (Nat.le_of_ble_eq_true rfl) (fun r360619 w360620 dc360616 ds360617 hp360618 => ?_) (fun _ _ _ _ _ z => z.elim)
              obtain ⟨F360668, rfl, rfl, hT360669, hs360670, hdc, hds⟩ := hp360618
              have he360671 : F360668 q269918 = .inr (18, [.ref q359279, .ref q359280, .int p359281, .int p359282]) := (hs360670 q269918 (rT0 htq269918 (by decide)) (rT1 htq269918 (by decide)) (rT2 htq269918 (by decide))).trans he360611
              have he360672 : F360668 q359279 = .inr (4, [.int p360510, .ref q360512, .int p360511]) := (hs360670 q359279 (rT0 ht359283 (by decide)) (rT1 ht359283 (by decide)) (rT2 ht359283 (by decide))).trans he360612
              have he360673 : F360668 q360512 = .inl (I (.object "java/lang/Object"), n360526, .inr (.inr (.inr (.inr f360527)))) := (hs360670 q360512 (rT0 r360518 (by decide)) (rT1 r360518 (by decide)) (rT2 r360518 (by decide))).trans he360613
              have he360674 : F360668 q360529 = .inr (17, [.ref q360538, .ref q360539, .int p360540, .int p360541]) := (hs360670 q360529 (rT0 ht360534 (by decide)) (rT1 ht360534 (by decide)) (rT2 ht360534 (by decide))).trans he360614
              have hs360675 : rStr γ [] F269916 F360668 := rStr_tr hs360615 hs360670
              change G _ _ _ _ _ _ _ _ _ _ _
              refine G_widen (cs' := 0) (sl' := 0) (by omega) (by omega) ?_
              refine G_aload_n 2 dr_cX17_graph_87 rfl ?_
              refine G_aload 0 dr_cX17_graph_88 rfl ?_
              refine Gp_get 1 hm360536 he360674 dr_cX17_graph_90 (gk_X12 D I) (Nat.le_of_ble_eq_true rfl) wr_9_223 rfl ?_
              refine G_iload_n 4 dr_cX17_graph_93 rfl ?_
              have hm360681 : q269917 ∈ P269915 := RS_m hT360669 htq269917 (by decide)
              obtain ⟨q360683, q360684, p360685, p360686, p360687, p360688, p360689, p360690, p360691, p360692, p360693, p360694, p360695, p360696, p360697, p360698, p360699, he360682, hB360726, ht360700, ht360701, ht360702, ht360703, ht360704, ht360705, ht360706, ht360707, ht360708, ht360709, ht360710, ht360711, ht360712, ht360713, ht360714, ht360715, ht360716, ht360717, ht360718, ht360719, ht360720, ht360721, ht360722, ht360723, hB360727⟩ := show rk_10 γ (F360668 q269917) from RS_o hT360669 htq269917
              refine Gw_callV (As := [.ref q360539, .int p269919]) (gV_ok D I) (ct_3919_SpillForgeModel_back l hl0 D I γ el P269915 F360668 q269917 q360539 p269919 hT360669 htq269917 ht360544 bp269919) dr_cX17_graph_94 ⟨wr_10_174, wr_1_14, wr_10_177, by decide, rfl, (Nat.le_of_ble_eq_true rfl), (Nat.le_of_ble_eq_true rfl)⟩ wr_10_176 wr_p_96 hm360681 he360682 rfl (show 0 + 0 ≤ 0 by first | omega | decide) (show 0 + 0 ≤ 0 by first | omega | decide) (Nat.le_of_ble_eq_true rfl) (fun r360679 w360680 dc360676 ds360677 hp360678 => ?_) (fun _ _ _ _ _ z => z.elim)
              obtain ⟨F360728, rfl, rfl, hT360729, hs360730, hdc, hds⟩ := hp360678
              have he360731 : F360728 q269918 = .inr (18, [.ref q359279, .ref q359280, .int p359281, .int p359282]) := (hs360730 q269918 (rT0 htq269918 (by decide)) (rT1 htq269918 (by decide)) (rT2 htq269918 (by decide))).trans he360671
              have he360732 : F360728 q359279 = .inr (4, [.int p360510, .ref q360512, .int p360511]) := (hs360730 q359279 (rT0 ht359283 (by decide)) (rT1 ht359283 (by decide)) (rT2 ht359283 (by decide))).trans he360672
              have he360733 : F360728 q360512 = .inl (I (.object "java/lang/Object"), n360526, .inr (.inr (.inr (.inr f360527)))) := (hs360730 q360512 (rT0 r360518 (by decide)) (rT1 r360518 (by decide)) (rT2 r360518 (by decide))).trans he360673
              have he360734 : F360728 q360529 = .inr (17, [.ref q360538, .ref q360539, .int p360540, .int p360541]) := (hs360730 q360529 (rT0 ht360534 (by decide)) (rT1 ht360534 (by decide)) (rT2 ht360534 (by decide))).trans he360674
              have hs360735 : rStr γ [] F269916 F360728 := rStr_tr hs360675 hs360730
              change G _ _ _ _ _ _ _ _ _ _ _
              refine G_widen (cs' := 0) (sl' := 0) (by omega) (by omega) ?_
              refine G_aload 0 dr_cX17_graph_97 rfl ?_
              refine Gp_get 0 hm360536 he360734 dr_cX17_graph_99 (gk_X12 D I) (Nat.le_of_ble_eq_true rfl) wr_9_220 rfl ?_
              have fl360736 : γ 2 (γ 14 q360529) = γ 2 q360538 := by rw [ht360548.1]
              have hm360737 : q360538 ∈ P269915 := RS_m hT360729 ht360542 (by decide)
              obtain ⟨⟨p360739, p360740, q360741, he360738, r360742, r360743, r360744, r360746⟩, r360745⟩ := show rk_3 D I γ el F360728 q360538 from RS_o hT360729 ht360542
              have bp360739 := gB_any p360739
              have bp360740 : gB p360740 0 1000000 := ⟨by omega, by omega⟩
              refine Gw_callV (As := []) (gV_ok D I) (cp_7_ArrayList_size l hl0 D I P269915 F360728 q360538 p360739 q360741 p360740 hm360737 he360738 (gB_w bp360740 (by decide) (by decide))) dr_cX17_graph_102 ⟨wr_10_200, wr_1_18, wr_9_160, by decide, rfl, (Nat.le_of_ble_eq_true rfl), (Nat.le_of_ble_eq_true rfl)⟩ wr_9_158 wr_9_159 hm360737 he360738 rfl (show 0 + 0 ≤ 0 by first | omega | decide) (show 0 + 0 ≤ 0 by first | omega | decide) (Nat.le_of_ble_eq_true rfl) (fun r360750 w360751 dc360747 ds360748 hp360749 => ?_) (fun _ _ _ _ _ z => z.elim)
              obtain ⟨rfl, rfl, hdc, hds⟩ := hp360749
              change G _ _ _ _ _ _ _ (.int p360740 :: _) _ _ _
              refine G_widen (cs' := 0) (sl' := 0) (by omega) (by omega) ?_
              refine G_iconst 1 dr_cX17_graph_105 (by decide +kernel) ?_
              refine G_isub dr_cX17_graph_106 (G_nam fun z360752 hz360752 => ?_)
              have ez360752 : z360752.toInt = p360740.toInt - 1 := by rw [gI_sub hz360752 bp360740 (gBl (show Int32.toInt 1 = 1 by decide)) (by decide) (by decide), show Int32.toInt 1 = 1 from by decide]
              have bz360752 : gB z360752 (-1) 999999 := gB_sub (gI_sub hz360752 bp360740 (gBl (show Int32.toInt 1 = 1 by decide)) (by decide) (by decide)) bp360740 (gBl (show Int32.toInt 1 = 1 by decide)) (by decide) (by decide)
              refine G_istore (L' := [(5, .int z360752), (4, .ref q360529), (3, .int g359270), (0, .ref q269917), (1, .ref q269918), (2, .int p269919)]) dr_cX17_graph_107 (Nat.le_of_ble_eq_true rfl) rfl ?_
              have hlp109_363633 : ∀ (n109_363633 : Nat) (F363630 : Nat → va_E) (g363629 : Int32), gB g363629 (-1) 999999 → RS D I P269915 F363630 γ el → rStr γ [] F269916 F363630 → ((g363629.toInt : Int) < γ 2 (γ 14 q360529)) → ((g363629.toInt : Int) - (-2)).toNat < n109_363633 → G (gV D I) l (gRm 5 111 0 0) (gMA (gV D I) (pt_269921_SpillForgeModel_graph D I γ el P269915 F269916 q269917 q269918 p269919) gNA 0 0) ky_269921_SpillForgeModel_graph 109 [(5, .int g363629), (4, .ref q360529), (3, .int g359270), (0, .ref q269917), (1, .ref q269918), (2, .int p269919)] [] (va_pl P269915 F363630) 0 0 := by
                intro n109_363633
                induction n109_363633 with
                | zero => intro F363630 g363629 bg363629 hT363631 hs363632 x363633 hm109_363633; exact absurd hm109_363633 (Nat.not_lt_zero _)
                | succ n109_363633 ih109_363633 =>
                  intro F363630 g363629 bg363629 hT363631 hs363632 x363633 hm109_363633
                  have hs363635 : rStr γ [] F360728 F363630 := fun b h0 hb hw => (hs363632 b h0 hb hw).trans (hs360735 b h0 hb hw).symm
                  have he363636 : F363630 q269918 = .inr (18, [.ref q359279, .ref q359280, .int p359281, .int p359282]) := (hs363635 q269918 (rT0 htq269918 (by decide)) (rT1 htq269918 (by decide)) (rT2 htq269918 (by decide))).trans he360731
                  have he363637 : F363630 q359279 = .inr (4, [.int p360510, .ref q360512, .int p360511]) := (hs363635 q359279 (rT0 ht359283 (by decide)) (rT1 ht359283 (by decide)) (rT2 ht359283 (by decide))).trans he360732
                  have he363638 : F363630 q360512 = .inl (I (.object "java/lang/Object"), n360526, .inr (.inr (.inr (.inr f360527)))) := (hs363635 q360512 (rT0 r360518 (by decide)) (rT1 r360518 (by decide)) (rT2 r360518 (by decide))).trans he360733
                  have he363639 : F363630 q360529 = .inr (17, [.ref q360538, .ref q360539, .int p360540, .int p360541]) := (hs363635 q360529 (rT0 ht360534 (by decide)) (rT1 ht360534 (by decide)) (rT2 ht360534 (by decide))).trans he360734
                  have he363640 : F363630 q360538 = .inr (4, [.int p360739, .ref q360741, .int p360740]) := (hs363635 q360538 (rT0 ht360542 (by decide)) (rT1 ht360542 (by decide)) (rT2 ht360542 (by decide))).trans he360738
                  have hs363641 : rStr γ [] F269916 F363630 := rStr_tr hs360735 hs363635
                  refine G_iload 0 dr_cX17_graph_109 rfl ?_
                  refine G_if_lt 290 dr_cX17_graph_111 (by decide +kernel) (fun hc363642 => ?_) (fun hc363642 => ?_)
                  · have r363643 : g363629.toInt < 0 := gj_lt hc363642 (show Int32.toInt 0 = 0 by decide)
                    have bg363629' : gB g363629 (-1) (-1) := ⟨by omega, by omega⟩
                    obtain ⟨z363644, hz363644⟩ : ∃ z : Int32, z = g359270 + Int32.ofInt 1 := ⟨_, rfl⟩
                    have ez363644 : z363644.toInt = g359270.toInt + 1 := gI_inc hz363644 (by decide) bg359270' (by decide) (by decide)
                    have bz363644 : gB z363644 1 1000000 := ⟨by omega, by omega⟩
                    refine G_iinc (L' := [(3, .int z363644), (5, .int g363629), (4, .ref q360529), (0, .ref q269917), (1, .ref q269918), (2, .int p269919)]) z363644 2 dr_cX17_graph_290 rfl hz363644.symm (Nat.le_of_ble_eq_true rfl) rfl ?_
                    refine G_goto 56 dr_cX17_graph_293 (by decide +kernel) ?_
                    refine G_lv (L' := [(3, .int z363644), (0, .ref q269917), (1, .ref q269918), (2, .int p269919)]) [0, 3, 4, 5] rfl ?_
                    exact ih56_359273 F363630 z363644 (gB_w bz363644 (by decide) (by decide)) hT363631 hs363632 (by omega)
                  · have r363645 : 0 ≤ g363629.toInt := gj_nlt hc363642 (show Int32.toInt 0 = 0 by decide)
                    have bg363629' : gB g363629 0 999999 := ⟨by omega, by omega⟩
                    refine G_aload 1 dr_cX17_graph_114 rfl ?_
                    refine Gp_get 0 hm360536 he363639 dr_cX17_graph_116 (gk_X12 D I) (Nat.le_of_ble_eq_true rfl) wr_9_220 rfl ?_
                    refine G_iload 0 dr_cX17_graph_119 rfl ?_
                    have fl363646 : γ 2 (γ 14 q360529) = γ 2 q360538 := by rw [ht360548.1]
                    have hm363647 : q360538 ∈ P269915 := RS_m hT363631 ht360542 (by decide)
                    obtain ⟨⟨p363649, p363650, q363651, he363648, r363652, r363653, r363654, r363656⟩, r363655⟩ := show rk_3 D I γ el F363630 q360538 from RS_o hT363631 ht360542
                    have bp363649 := gB_any p363649
                    have bp363650 : gB p363650 0 1000000 := ⟨by omega, by omega⟩
                    obtain ⟨r363657, r363658, n363665, f363666, r363659, r363660, r363661, r363662, r363663, r363664⟩ := rLC_n r363654 (by omega)
                    have hm363667 : q363651 ∈ P269915 := RS_m hT363631 r363657 (by decide)
                    obtain ⟨q363668, hx363669⟩ : ∃ x, x = el q360538 g363629.toInt.toNat := ⟨_, rfl⟩
                    have hx363670 : f363666 g363629.toNatClampNeg = some q363668 := (r363663 _ (show g363629.toInt.toNat < γ 2 q360538 by omega)).trans (by rw [hx363669])
                    have ht363671 : rKd γ q363668 1 := by rw [hx363669]; exact (r363655 _ (show g363629.toInt.toNat < γ 2 q360538 by omega)).1
                    have ht363672 : rFm γ q363668 q360538 := by rw [hx363669]; exact (r363655 _ (show g363629.toInt.toNat < γ 2 q360538 by omega)).2.1
                    refine Gw_callV (As := [.int g363629]) (gV_ok D I) (cp_22_ArrayList_get l hl0 D I P269915 F363630 q360538 q363651 g363629 p363649 p363650 f363666 n363665 q363668 hm363647 hm363667 he363648 r363659 (gB_w bg363629' (by decide) (by decide)) (gB_w bp363650 (by decide) (by decide)) (by omega) (by omega) (by assumption) (by omega)) dr_cX17_graph_121 ⟨wr_10_201, wr_1_18, wr_10_65, by decide, rfl, (Nat.le_of_ble_eq_true rfl), (Nat.le_of_ble_eq_true rfl)⟩ wr_10_63 wr_10_64 hm363647 he363648 rfl (show 0 + 0 ≤ 0 by first | omega | decide) (show 0 + 0 ≤ 0 by first | omega | decide) (Nat.le_of_ble_eq_true rfl) (fun r363676 w363677 dc363673 ds363674 hp363675 => ?_) (fun _ _ _ _ _ z => z.elim)
                    obtain ⟨rfl, rfl, hdc, hds⟩ := hp363675
                    change G _ _ _ _ _ _ _ (.ref q363668 :: _) _ _ _
                    refine G_widen (cs' := 0) (sl' := 0) (by omega) (by omega) ?_
                    have hm363678 : q363668 ∈ P269915 := RS_m hT363631 ht363671 (by decide)
                    obtain ⟨p363680, p363681, p363682, p363683, p363684, p363685, p363686, he363679, bp363680, bp363681, bp363684, bp363685, bp363686, r363687, r363688, r363689, r363690⟩ := show rk_1 γ q363668 (F363630 q363668) from RS_o hT363631 ht363671
                    have bp363682 := gB_any p363682
                    have bp363683 := gB_any p363683
                    refine Gp_cast hm363678 he363679 rfl dr_cX17_graph_124 wr_10_202 (gr_cast 1 rfl) ?_
                    refine G_astore (L' := [(6, .ref q363668), (5, .int g363629), (4, .ref q360529), (3, .int g359270), (0, .ref q269917), (1, .ref q269918), (2, .int p269919)]) dr_cX17_graph_127 (Nat.le_of_ble_eq_true rfl) rfl ?_
                    refine G_aload_n 4 dr_cX17_graph_129 rfl ?_
                    refine G_aload 0 dr_cX17_graph_130 rfl ?_
                    refine G_iload_n 6 dr_cX17_graph_132 rfl ?_
                    have hm363696 : q269917 ∈ P269915 := RS_m hT363631 htq269917 (by decide)
                    obtain ⟨q363698, q363699, p363700, p363701, p363702, p363703, p363704, p363705, p363706, p363707, p363708, p363709, p363710, p363711, p363712, p363713, p363714, he363697, hB363741, ht363715, ht363716, ht363717, ht363718, ht363719, ht363720, ht363721, ht363722, ht363723, ht363724, ht363725, ht363726, ht363727, ht363728, ht363729, ht363730, ht363731, ht363732, ht363733, ht363734, ht363735, ht363736, ht363737, ht363738, hB363742⟩ := show rk_10 γ (F363630 q269917) from RS_o hT363631 htq269917
                    refine Gw_callV (As := [.ref q363668, .int p269919]) (gV_ok D I) (ct_4364_SpillForgeModel_stand l hl0 D I γ el P269915 F363630 q269917 q363668 p269919 hT363631 htq269917 ht363671 bp269919) dr_cX17_graph_133 ⟨wr_10_237, wr_1_14, wr_11_0, by decide, rfl, (Nat.le_of_ble_eq_true rfl), (Nat.le_of_ble_eq_true rfl)⟩ wr_10_239 wr_p_100 hm363696 he363697 rfl (show 0 + 0 ≤ 0 by first | omega | decide) (show 0 + 0 ≤ 0 by first | omega | decide) (Nat.le_of_ble_eq_true rfl) (fun r363694 w363695 dc363691 ds363692 hp363693 => ?_) (fun _ _ _ _ _ z => z.elim)
                    obtain ⟨F363743, rfl, rfl, hT363744, hs363745, hdc, hds⟩ := hp363693
                    have he363746 : F363743 q269918 = .inr (18, [.ref q359279, .ref q359280, .int p359281, .int p359282]) := (hs363745 q269918 (rT0 htq269918 (by decide)) (rT1 htq269918 (by decide)) (rT2 htq269918 (by decide))).trans he363636
                    have he363747 : F363743 q359279 = .inr (4, [.int p360510, .ref q360512, .int p360511]) := (hs363745 q359279 (rT0 ht359283 (by decide)) (rT1 ht359283 (by decide)) (rT2 ht359283 (by decide))).trans he363637
                    have he363748 : F363743 q360512 = .inl (I (.object "java/lang/Object"), n360526, .inr (.inr (.inr (.inr f360527)))) := (hs363745 q360512 (rT0 r360518 (by decide)) (rT1 r360518 (by decide)) (rT2 r360518 (by decide))).trans he363638
                    have he363749 : F363743 q360529 = .inr (17, [.ref q360538, .ref q360539, .int p360540, .int p360541]) := (hs363745 q360529 (rT0 ht360534 (by decide)) (rT1 ht360534 (by decide)) (rT2 ht360534 (by decide))).trans he363639
                    have he363750 : F363743 q360538 = .inr (4, [.int p363649, .ref q363651, .int p363650]) := (hs363745 q360538 (rT0 ht360542 (by decide)) (rT1 ht360542 (by decide)) (rT2 ht360542 (by decide))).trans he363648
                    have he363751 : F363743 q363651 = .inl (I (.object "java/lang/Object"), n363665, .inr (.inr (.inr (.inr f363666)))) := (hs363745 q363651 (rT0 r363657 (by decide)) (rT1 r363657 (by decide)) (rT2 r363657 (by decide))).trans r363659
                    have he363752 : F363743 q363668 = .inr (20, [.int p363680, .int p363681, .int p363682, .int p363683, .int p363684, .int p363685, .int p363686]) := (hs363745 q363668 (rT0 ht363671 (by decide)) (rT1 ht363671 (by decide)) (rT2 ht363671 (by decide))).trans he363679
                    have hs363753 : rStr γ [] F269916 F363743 := rStr_tr hs363632 hs363745
                    change G _ _ _ _ _ _ _ _ _ _ _
                    refine G_widen (cs' := 0) (sl' := 0) (by omega) (by omega) ?_
                    refine G_aload 0 dr_cX17_graph_136 rfl ?_
                    refine G_iload_n 6 dr_cX17_graph_138 rfl ?_
                    refine Gw_callS (As := [.ref q363668, .int p269919]) (gV_ok D I) (cp_1778_SpillForgeModel_setOf l hl0 D I P269915 F363743 q363668 p269919 p363680 p363681 p363682 p363683 p363684 p363685 p363686 hm363678 he363752 bp269919 bp363680 bp363681 bp363684 bp363685 bp363686) dr_cX17_graph_139 ⟨wr_10_178, wr_1_14, wr_10_180, by decide, rfl, (Nat.le_of_ble_eq_true rfl), (Nat.le_of_ble_eq_true rfl)⟩ wr_10_179 (show 0 + 0 ≤ 0 by first | omega | decide) (show 0 + 0 ≤ 0 by first | omega | decide) (Nat.le_of_ble_eq_true rfl) (fun r363757 w363758 dc363754 ds363755 hp363756 => ?_) (fun _ _ _ _ _ z => z.elim)
                    obtain ⟨o363759, rfl, rfl, hdc, hds, bo363759⟩ := hp363756
                    change G _ _ _ _ _ _ _ (.int o363759 :: _) _ _ _
                    refine G_widen (cs' := 0) (sl' := 0) (by omega) (by omega) ?_
                    refine G_istore (L' := [(7, .int o363759), (6, .ref q363668), (5, .int g363629), (4, .ref q360529), (3, .int g359270), (0, .ref q269917), (1, .ref q269918), (2, .int p269919)]) dr_cX17_graph_142 (Nat.le_of_ble_eq_true rfl) rfl ?_
                    refine G_iload_n 7 dr_cX17_graph_144 rfl ?_
                    refine G_if_ne 172 dr_cX17_graph_145 (by decide +kernel) (fun hc363760 => ?_) (fun hc363760 => ?_)
                    · have r363761 : p269919.toInt ≠ 0 := gj_neq hc363760 (show Int32.toInt 0 = 0 by decide)
                      have bp269919' : gB p269919 1 1 := ⟨by omega, by omega⟩
                      refine G_iconst (-1) dr_cX17_graph_172 (by decide +kernel) ?_
                      refine G_istore (L' := [(8, .int (-1)), (7, .int o363759), (6, .ref q363668), (5, .int g363629), (4, .ref q360529), (3, .int g359270), (0, .ref q269917), (1, .ref q269918), (2, .int p269919)]) dr_cX17_graph_173 (Nat.le_of_ble_eq_true rfl) rfl ?_
                      refine G_iload 1 dr_cX17_graph_175 rfl ?_
                      refine G_if_lt 277 dr_cX17_graph_177 (by decide +kernel) (fun hc363762 => ?_) (fun hc363762 => ?_)
                      · have r363763 : o363759.toInt < 0 := gj_lt hc363762 (show Int32.toInt 0 = 0 by decide)
                        have bo363759' : gB o363759 (-1) (-1) := ⟨by omega, by omega⟩
                        refine G_aload_n 6 dr_cX17_graph_277 rfl ?_
                        refine G_aload 2 dr_cX17_graph_278 rfl ?_
                        refine G_iload_n 8 dr_cX17_graph_280 rfl ?_
                        have hm363769 : q269917 ∈ P269915 := RS_m hT363744 htq269917 (by decide)
                        obtain ⟨q363771, q363772, p363773, p363774, p363775, p363776, p363777, p363778, p363779, p363780, p363781, p363782, p363783, p363784, p363785, p363786, p363787, he363770, hB363814, ht363788, ht363789, ht363790, ht363791, ht363792, ht363793, ht363794, ht363795, ht363796, ht363797, ht363798, ht363799, ht363800, ht363801, ht363802, ht363803, ht363804, ht363805, ht363806, ht363807, ht363808, ht363809, ht363810, ht363811, hB363815⟩ := show rk_10 γ (F363743 q269917) from RS_o hT363744 htq269917
                        refine Gw_callV (As := [.ref q363668, .int p269919]) (gV_ok D I) (ct_3919_SpillForgeModel_back l hl0 D I γ el P269915 F363743 q269917 q363668 p269919 hT363744 htq269917 ht363671 (gB_w bp269919' (by decide) (by decide))) dr_cX17_graph_281 ⟨wr_10_174, wr_1_14, wr_10_177, by decide, rfl, (Nat.le_of_ble_eq_true rfl), (Nat.le_of_ble_eq_true rfl)⟩ wr_10_176 wr_p_96 hm363769 he363770 rfl (show 0 + 0 ≤ 0 by first | omega | decide) (show 0 + 0 ≤ 0 by first | omega | decide) (Nat.le_of_ble_eq_true rfl) (fun r363767 w363768 dc363764 ds363765 hp363766 => ?_) (fun _ _ _ _ _ z => z.elim)
                        obtain ⟨F363816, rfl, rfl, hT363817, hs363818, hdc, hds⟩ := hp363766
                        have he363819 : F363816 q269918 = .inr (18, [.ref q359279, .ref q359280, .int p359281, .int p359282]) := (hs363818 q269918 (rT0 htq269918 (by decide)) (rT1 htq269918 (by decide)) (rT2 htq269918 (by decide))).trans he363746
                        have he363820 : F363816 q359279 = .inr (4, [.int p360510, .ref q360512, .int p360511]) := (hs363818 q359279 (rT0 ht359283 (by decide)) (rT1 ht359283 (by decide)) (rT2 ht359283 (by decide))).trans he363747
                        have he363821 : F363816 q360512 = .inl (I (.object "java/lang/Object"), n360526, .inr (.inr (.inr (.inr f360527)))) := (hs363818 q360512 (rT0 r360518 (by decide)) (rT1 r360518 (by decide)) (rT2 r360518 (by decide))).trans he363748
                        have he363822 : F363816 q360529 = .inr (17, [.ref q360538, .ref q360539, .int p360540, .int p360541]) := (hs363818 q360529 (rT0 ht360534 (by decide)) (rT1 ht360534 (by decide)) (rT2 ht360534 (by decide))).trans he363749
                        have he363823 : F363816 q360538 = .inr (4, [.int p363649, .ref q363651, .int p363650]) := (hs363818 q360538 (rT0 ht360542 (by decide)) (rT1 ht360542 (by decide)) (rT2 ht360542 (by decide))).trans he363750
                        have he363824 : F363816 q363651 = .inl (I (.object "java/lang/Object"), n363665, .inr (.inr (.inr (.inr f363666)))) := (hs363818 q363651 (rT0 r363657 (by decide)) (rT1 r363657 (by decide)) (rT2 r363657 (by decide))).trans he363751
                        have he363825 : F363816 q363668 = .inr (20, [.int p363680, .int p363681, .int p363682, .int p363683, .int p363684, .int p363685, .int p363686]) := (hs363818 q363668 (rT0 ht363671 (by decide)) (rT1 ht363671 (by decide)) (rT2 ht363671 (by decide))).trans he363752
                        have hs363826 : rStr γ [] F269916 F363816 := rStr_tr hs363753 hs363818
                        change G _ _ _ _ _ _ _ _ _ _ _
                        refine G_widen (cs' := 0) (sl' := 0) (by omega) (by omega) ?_
                        obtain ⟨z363827, hz363827⟩ : ∃ z : Int32, z = g363629 + Int32.ofInt (-1) := ⟨_, rfl⟩
                        have ez363827 : z363827.toInt = g363629.toInt + (-1) := gI_inc hz363827 (by decide) bg363629' (by decide) (by decide)
                        have bz363827 : gB z363827 (-1) 999998 := ⟨by omega, by omega⟩
                        refine G_iinc (L' := [(5, .int z363827), (8, .int (-1)), (7, .int o363759), (6, .ref q363668), (4, .ref q360529), (3, .int g359270), (0, .ref q269917), (1, .ref q269918), (2, .int p269919)]) z363827 3 dr_cX17_graph_284 rfl hz363827.symm (Nat.le_of_ble_eq_true rfl) rfl ?_
                        refine G_goto 109 dr_cX17_graph_287 (by decide +kernel) ?_
                        refine G_lv (L' := [(5, .int z363827), (4, .ref q360529), (3, .int g359270), (0, .ref q269917), (1, .ref q269918), (2, .int p269919)]) [0, 4, 5, 6, 7, 8] rfl ?_
                        exact ih109_363633 F363816 z363827 (gB_w bz363827 (by decide) (by decide)) hT363817 hs363826 (by omega) (by omega)
                      · have r363828 : 0 ≤ o363759.toInt := gj_nlt hc363762 (show Int32.toInt 0 = 0 by decide)
                        have bo363759' : gB o363759 0 1999 := ⟨by omega, by omega⟩
                        refine G_iload 0 dr_cX17_graph_180 rfl ?_
                        refine G_if_lt 204 dr_cX17_graph_182 (by decide +kernel) (fun _ => ?_) (fun hc => absurd hc (by decide))
                        refine G_iconst 0 dr_cX17_graph_204 (by decide +kernel) ?_
                        refine G_istore (L' := [(9, .int 0), (8, .int (-1)), (7, .int o363759), (6, .ref q363668), (5, .int g363629), (4, .ref q360529), (3, .int g359270), (0, .ref q269917), (1, .ref q269918), (2, .int p269919)]) dr_cX17_graph_205 (Nat.le_of_ble_eq_true rfl) rfl ?_
                        refine G_iconst 0 dr_cX17_graph_207 (by decide +kernel) ?_
                        refine G_istore (L' := [(10, .int 0), (9, .int 0), (8, .int (-1)), (7, .int o363759), (6, .ref q363668), (5, .int g363629), (4, .ref q360529), (3, .int g359270), (0, .ref q269917), (1, .ref q269918), (2, .int p269919)]) dr_cX17_graph_208 (Nat.le_of_ble_eq_true rfl) rfl ?_
                        have hlp210_364026 : ∀ (n210_364026 : Nat) (F364024 : Nat → va_E) (g364023 : Int32), gB g364023 0 32 → RS D I P269915 F364024 γ el → rStr γ [] F269916 F364024 → ((33 : Int) - g364023.toInt).toNat < n210_364026 → G (gV D I) l (gRm 5 111 0 0) (gMA (gV D I) (pt_269921_SpillForgeModel_graph D I γ el P269915 F269916 q269917 q269918 p269919) gNA 0 0) ky_269921_SpillForgeModel_graph 210 [(10, .int g364023), (9, .int 0), (8, .int (-1)), (7, .int o363759), (6, .ref q363668), (5, .int g363629), (4, .ref q360529), (3, .int g359270), (0, .ref q269917), (1, .ref q269918), (2, .int p269919)] [] (va_pl P269915 F364024) 0 0 := by
                          intro n210_364026
                          induction n210_364026 with
                          | zero => intro F364024 g364023 bg364023 hT364025 hs364026 hm210_364026; exact absurd hm210_364026 (Nat.not_lt_zero _)
                          | succ n210_364026 ih210_364026 =>
                            intro F364024 g364023 bg364023 hT364025 hs364026 hm210_364026
                            have hs364028 : rStr γ [] F363743 F364024 := fun b h0 hb hw => (hs364026 b h0 hb hw).trans (hs363753 b h0 hb hw).symm
                            have he364029 : F364024 q269918 = .inr (18, [.ref q359279, .ref q359280, .int p359281, .int p359282]) := (hs364028 q269918 (rT0 htq269918 (by decide)) (rT1 htq269918 (by decide)) (rT2 htq269918 (by decide))).trans he363746
                            have he364030 : F364024 q359279 = .inr (4, [.int p360510, .ref q360512, .int p360511]) := (hs364028 q359279 (rT0 ht359283 (by decide)) (rT1 ht359283 (by decide)) (rT2 ht359283 (by decide))).trans he363747
                            have he364031 : F364024 q360512 = .inl (I (.object "java/lang/Object"), n360526, .inr (.inr (.inr (.inr f360527)))) := (hs364028 q360512 (rT0 r360518 (by decide)) (rT1 r360518 (by decide)) (rT2 r360518 (by decide))).trans he363748
                            have he364032 : F364024 q360529 = .inr (17, [.ref q360538, .ref q360539, .int p360540, .int p360541]) := (hs364028 q360529 (rT0 ht360534 (by decide)) (rT1 ht360534 (by decide)) (rT2 ht360534 (by decide))).trans he363749
                            have he364033 : F364024 q360538 = .inr (4, [.int p363649, .ref q363651, .int p363650]) := (hs364028 q360538 (rT0 ht360542 (by decide)) (rT1 ht360542 (by decide)) (rT2 ht360542 (by decide))).trans he363750
                            have he364034 : F364024 q363651 = .inl (I (.object "java/lang/Object"), n363665, .inr (.inr (.inr (.inr f363666)))) := (hs364028 q363651 (rT0 r363657 (by decide)) (rT1 r363657 (by decide)) (rT2 r363657 (by decide))).trans he363751
                            have he364035 : F364024 q363668 = .inr (20, [.int p363680, .int p363681, .int p363682, .int p363683, .int p363684, .int p363685, .int p363686]) := (hs364028 q363668 (rT0 ht363671 (by decide)) (rT1 ht363671 (by decide)) (rT2 ht363671 (by decide))).trans he363752
                            have hs364036 : rStr γ [] F269916 F364024 := rStr_tr hs363753 hs364028
                            refine G_iload 0 dr_cX17_graph_210 rfl ?_
                            refine G_bipush 32 dr_cX17_graph_212 (by decide +kernel) ?_
                            refine G_icmp_ge 243 dr_cX17_graph_214 (by decide +kernel) (fun hc364037 => ?_) (fun hc364037 => ?_)
                            · have r364038 : 32 ≤ g364023.toInt := gj_leL hc364037 (show Int32.toInt 32 = 32 by decide)
                              have bg364023' : gB g364023 32 32 := ⟨by omega, by omega⟩
                              refine G_iload 2 dr_cX17_graph_243 rfl ?_
                              refine G_if_lt 265 dr_cX17_graph_245 (by decide +kernel) (fun _ => ?_) (fun hc => absurd hc (by decide))
                              refine G_aload_n 8 dr_cX17_graph_265 rfl ?_
                              have hm364039 : q269917 ∈ P269915 := RS_m hT364025 htq269917 (by decide)
                              obtain ⟨q364041, q364042, p364043, p364044, p364045, p364046, p364047, p364048, p364049, p364050, p364051, p364052, p364053, p364054, p364055, p364056, p364057, he364040, hB364084, ht364058, ht364059, ht364060, ht364061, ht364062, ht364063, ht364064, ht364065, ht364066, ht364067, ht364068, ht364069, ht364070, ht364071, ht364072, ht364073, ht364074, ht364075, ht364076, ht364077, ht364078, ht364079, ht364080, ht364081, hB364085⟩ := show rk_10 γ (F364024 q269917) from RS_o hT364025 htq269917
                              refine Gp_get 1 hm364039 he364040 dr_cX17_graph_266 (gk_X17 D I) (Nat.le_of_ble_eq_true rfl) wr_7_75 rfl ?_
                              refine G_iload 3 dr_cX17_graph_269 rfl ?_
                              have hm364086 : (γ 9 1) ∈ P269915 := RS_m hT364025 ht364061 (by decide)
                              obtain ⟨f364088, he364087, hg364089⟩ := show rk_13 I γ (F364024 (γ 9 1)) from RS_o hT364025 ht364061
                              obtain ⟨q364090, hx364092⟩ : ∃ x, x = γ 11 o363759.toInt.toNat := ⟨_, rfl⟩
                              have ht364091 : rKd γ q364090 36 := by rw [hx364092]; exact (hg364089 _ (show o363759.toInt.toNat < 2000 by omega)).2.1
                              refine Gp_aald 5 hm364086 he364087 dr_cX17_graph_271 rfl rfl (gB_in bo363759' (by decide) (by decide)) ?_
                              rw [show f364088 o363759.toNatClampNeg = some q364090 from (hg364089 _ (show o363759.toInt.toNat < 2000 by omega)).1.trans (by rw [hx364092])]
                              change G _ _ _ _ _ _ _ (.ref q364090 :: _) _ _ _
                              refine G_iload 3 dr_cX17_graph_272 rfl ?_
                              have hm364093 : q364090 ∈ P269915 := RS_m hT364025 ht364091 (by decide)
                              obtain ⟨f364095, he364094, wf364095⟩ := show rk_36 I (F364024 q364090) from RS_o hT364025 ht364091
                              refine Gw_callS (As := [.ref q364090, .int o363759]) (gV_ok D I) (cp_1873_SpillForgeModel_clear l hl0 D I P269915 F364024 q364090 o363759 f364095 hm364093 he364094 bo363759' wf364095) dr_cX17_graph_274 ⟨wr_10_185, wr_1_14, wr_10_187, by decide, rfl, (Nat.le_of_ble_eq_true rfl), (Nat.le_of_ble_eq_true rfl)⟩ wr_10_186 (show 0 + 0 ≤ 0 by first | omega | decide) (show 0 + 0 ≤ 0 by first | omega | decide) (Nat.le_of_ble_eq_true rfl) (fun r364099 w364100 dc364096 ds364097 hp364098 => ?_) (fun _ _ _ _ _ z => z.elim)
                              obtain ⟨F364103, f364101, rfl, rfl, hfr364105, he364106, hdc, hds, x364102⟩ := hp364098
                              have he364107 : F364103 q269918 = .inr (18, [.ref q359279, .ref q359280, .int p359281, .int p359282]) := (hfr364105 q269918 hm359277 (nm_c (rn_oa he364029 he364094) nm_n)).trans he364029
                              have he364108 : F364103 q359279 = .inr (4, [.int p360510, .ref q360512, .int p360511]) := (hfr364105 q359279 hm360508 (nm_c (rn_oa he364030 he364094) nm_n)).trans he364030
                              have he364109 : F364103 q360512 = .inl (I (.object "java/lang/Object"), n360526, .inr (.inr (.inr (.inr f360527)))) := (hfr364105 q360512 hm360528 (nm_c (rn_ref_long he364031 he364094) nm_n)).trans he364031
                              have he364110 : F364103 q360529 = .inr (17, [.ref q360538, .ref q360539, .int p360540, .int p360541]) := (hfr364105 q360529 hm360536 (nm_c (rn_oa he364032 he364094) nm_n)).trans he364032
                              have he364111 : F364103 q360538 = .inr (4, [.int p363649, .ref q363651, .int p363650]) := (hfr364105 q360538 hm363647 (nm_c (rn_oa he364033 he364094) nm_n)).trans he364033
                              have he364112 : F364103 q363651 = .inl (I (.object "java/lang/Object"), n363665, .inr (.inr (.inr (.inr f363666)))) := (hfr364105 q363651 hm363667 (nm_c (rn_ref_long he364034 he364094) nm_n)).trans he364034
                              have he364113 : F364103 q363668 = .inr (20, [.int p363680, .int p363681, .int p363682, .int p363683, .int p363684, .int p363685, .int p363686]) := (hfr364105 q363668 hm363678 (nm_c (rn_oa he364035 he364094) nm_n)).trans he364035
                              have he364114 : F364103 q269917 = .inr (22, [.ref (γ 9 0), .ref (γ 9 1), .ref (γ 9 2), .ref (γ 9 3), .ref (γ 9 4), .ref (γ 9 5), .ref (γ 9 6), .ref (γ 9 7), .ref (γ 9 8), .int p364043, .int p364044, .int p364045, .int p364046, .int p364047, .int p364048, .ref (γ 9 15), .ref (γ 9 16), .ref (γ 9 17), .ref (γ 9 18), .ref (γ 9 19), .ref (γ 9 20), .ref (γ 9 21), .ref (γ 9 22), .int p364049, .int p364050, .int p364051, .int p364052, .int p364053, .ref q364041, .ref (γ 9 29), .int p364054, .ref (γ 9 31), .int p364055, .int p364056, .int p364057, .ref q364042]) := (hfr364105 q269917 hm364039 (nm_c (rn_oa he364040 he364094) nm_n)).trans he364040
                              have he364115 : F364103 (γ 9 1) = .inl (I (.array .long), 2000, .inr (.inr (.inr (.inr f364088)))) := (hfr364105 (γ 9 1) hm364086 (nm_c (rn_ref_long he364087 he364094) nm_n)).trans he364087
                              have hfr364116 : rFr [q364090] P269915 F364024 F364103 := rFr_call (rSub_rf (P := P269915)) (rFr_rf (W := []) (P := P269915) (F := F364024)) hfr364105 (fun b hb hn => ⟨nm_n, (nm_c (fun e => hn (e ▸ List.mem_cons_self)) nm_n)⟩)
                              change G _ _ _ _ _ _ _ _ _ _ _
                              refine G_widen (cs' := 0) (sl' := 0) (by omega) (by omega) ?_
                              have hT364117 : RS D I P269915 F364103 γ el := RS_fr hT364025 hfr364116 ht364091 (by decide) ⟨f364101, he364106, x364102⟩
                              have hs364118 : rStr γ [] F269916 F364103 := rStr_fr hT364025 hs364026 hfr364116 ht364091 (by decide)
                              refine G_aload_n 8 dr_cX17_graph_277 rfl ?_
                              refine G_aload 4 dr_cX17_graph_278 rfl ?_
                              refine G_iload_n 10 dr_cX17_graph_280 rfl ?_
                              refine Gw_callV (As := [.ref q363668, .int p269919]) (gV_ok D I) (ct_3919_SpillForgeModel_back l hl0 D I γ el P269915 F364103 q269917 q363668 p269919 hT364117 htq269917 ht363671 (gB_w bp269919' (by decide) (by decide))) dr_cX17_graph_281 ⟨wr_10_174, wr_1_14, wr_10_177, by decide, rfl, (Nat.le_of_ble_eq_true rfl), (Nat.le_of_ble_eq_true rfl)⟩ wr_10_176 wr_p_96 hm364039 he364114 rfl (show 0 + 0 ≤ 0 by first | omega | decide) (show 0 + 0 ≤ 0 by first | omega | decide) (Nat.le_of_ble_eq_true rfl) (fun r364122 w364123 dc364119 ds364120 hp364121 => ?_) (fun _ _ _ _ _ z => z.elim)
                              obtain ⟨F364124, rfl, rfl, hT364125, hs364126, hdc, hds⟩ := hp364121
                              have he364127 : F364124 q269918 = .inr (18, [.ref q359279, .ref q359280, .int p359281, .int p359282]) := (hs364126 q269918 (rT0 htq269918 (by decide)) (rT1 htq269918 (by decide)) (rT2 htq269918 (by decide))).trans he364107
                              have he364128 : F364124 q359279 = .inr (4, [.int p360510, .ref q360512, .int p360511]) := (hs364126 q359279 (rT0 ht359283 (by decide)) (rT1 ht359283 (by decide)) (rT2 ht359283 (by decide))).trans he364108
                              have he364129 : F364124 q360512 = .inl (I (.object "java/lang/Object"), n360526, .inr (.inr (.inr (.inr f360527)))) := (hs364126 q360512 (rT0 r360518 (by decide)) (rT1 r360518 (by decide)) (rT2 r360518 (by decide))).trans he364109
                              have he364130 : F364124 q360529 = .inr (17, [.ref q360538, .ref q360539, .int p360540, .int p360541]) := (hs364126 q360529 (rT0 ht360534 (by decide)) (rT1 ht360534 (by decide)) (rT2 ht360534 (by decide))).trans he364110
                              have he364131 : F364124 q360538 = .inr (4, [.int p363649, .ref q363651, .int p363650]) := (hs364126 q360538 (rT0 ht360542 (by decide)) (rT1 ht360542 (by decide)) (rT2 ht360542 (by decide))).trans he364111
                              have he364132 : F364124 q363651 = .inl (I (.object "java/lang/Object"), n363665, .inr (.inr (.inr (.inr f363666)))) := (hs364126 q363651 (rT0 r363657 (by decide)) (rT1 r363657 (by decide)) (rT2 r363657 (by decide))).trans he364112
                              have he364133 : F364124 q363668 = .inr (20, [.int p363680, .int p363681, .int p363682, .int p363683, .int p363684, .int p363685, .int p363686]) := (hs364126 q363668 (rT0 ht363671 (by decide)) (rT1 ht363671 (by decide)) (rT2 ht363671 (by decide))).trans he364113
                              have hs364134 : rStr γ [] F269916 F364124 := rStr_tr hs364118 hs364126
                              change G _ _ _ _ _ _ _ _ _ _ _
                              refine G_widen (cs' := 0) (sl' := 0) (by omega) (by omega) ?_
                              obtain ⟨z364135, hz364135⟩ : ∃ z : Int32, z = g363629 + Int32.ofInt (-1) := ⟨_, rfl⟩
                              have ez364135 : z364135.toInt = g363629.toInt + (-1) := gI_inc hz364135 (by decide) bg363629' (by decide) (by decide)
                              have bz364135 : gB z364135 (-1) 999998 := ⟨by omega, by omega⟩
                              refine G_iinc (L' := [(5, .int z364135), (10, .int g364023), (9, .int 0), (8, .int (-1)), (7, .int o363759), (6, .ref q363668), (4, .ref q360529), (3, .int g359270), (0, .ref q269917), (1, .ref q269918), (2, .int p269919)]) z364135 5 dr_cX17_graph_284 rfl hz364135.symm (Nat.le_of_ble_eq_true rfl) rfl ?_
                              refine G_goto 109 dr_cX17_graph_287 (by decide +kernel) ?_
                              refine G_lv (L' := [(5, .int z364135), (4, .ref q360529), (3, .int g359270), (0, .ref q269917), (1, .ref q269918), (2, .int p269919)]) [0, 6, 7, 8, 9, 10] rfl ?_
                              exact ih109_363633 F364124 z364135 (gB_w bz364135 (by decide) (by decide)) hT364125 hs364134 (by omega) (by omega)
                            · have r364136 : g364023.toInt < 32 := gj_nleL hc364037 (show Int32.toInt 32 = 32 by decide)
                              have bg364023' : gB g364023 0 31 := ⟨by omega, by omega⟩
                              refine G_aload_n 8 dr_cX17_graph_217 rfl ?_
                              have hm364137 : q269917 ∈ P269915 := RS_m hT364025 htq269917 (by decide)
                              obtain ⟨q364139, q364140, p364141, p364142, p364143, p364144, p364145, p364146, p364147, p364148, p364149, p364150, p364151, p364152, p364153, p364154, p364155, he364138, hB364182, ht364156, ht364157, ht364158, ht364159, ht364160, ht364161, ht364162, ht364163, ht364164, ht364165, ht364166, ht364167, ht364168, ht364169, ht364170, ht364171, ht364172, ht364173, ht364174, ht364175, ht364176, ht364177, ht364178, ht364179, hB364183⟩ := show rk_10 γ (F364024 q269917) from RS_o hT364025 htq269917
                              refine Gp_get 1 hm364137 he364138 dr_cX17_graph_218 (gk_X17 D I) (Nat.le_of_ble_eq_true rfl) wr_7_75 rfl ?_
                              refine G_iload 3 dr_cX17_graph_221 rfl ?_
                              have hm364184 : (γ 9 1) ∈ P269915 := RS_m hT364025 ht364159 (by decide)
                              obtain ⟨f364186, he364185, hg364187⟩ := show rk_13 I γ (F364024 (γ 9 1)) from RS_o hT364025 ht364159
                              obtain ⟨q364188, hx364190⟩ : ∃ x, x = γ 11 o363759.toInt.toNat := ⟨_, rfl⟩
                              have ht364189 : rKd γ q364188 36 := by rw [hx364190]; exact (hg364187 _ (show o363759.toInt.toNat < 2000 by omega)).2.1
                              refine Gp_aald 5 hm364184 he364185 dr_cX17_graph_223 rfl rfl (gB_in bo363759' (by decide) (by decide)) ?_
                              rw [show f364186 o363759.toNatClampNeg = some q364188 from (hg364187 _ (show o363759.toInt.toNat < 2000 by omega)).1.trans (by rw [hx364190])]
                              change G _ _ _ _ _ _ _ (.ref q364188 :: _) _ _ _
                              refine G_iload 0 dr_cX17_graph_224 rfl ?_
                              refine G_dup2_11 dr_cX17_graph_226 rfl rfl ?_
                              have hm364191 : q364188 ∈ P269915 := RS_m hT364025 ht364189 (by decide)
                              obtain ⟨f364193, he364192, wf364193⟩ := show rk_36 I (F364024 q364188) from RS_o hT364025 ht364189
                              refine Gp_lald 2 hm364191 he364192 dr_cX17_graph_227 rfl (gB_in bg364023' (by decide) (by decide)) (G_namL fun u364194 hu364194 => ?_)
                              have qu364194 : lb_Q u364194 (2000 - 64 * g364023.toInt) := lb_Wld hu364194 wf364193 (by omega) (by omega) (lb_Mod0 (by omega) (by omega))
                              refine G_aload_n 8 dr_cX17_graph_228 rfl ?_
                              refine Gp_get 2 hm364137 he364138 dr_cX17_graph_229 (gk_X17 D I) (Nat.le_of_ble_eq_true rfl) wr_7_76 rfl ?_
                              refine G_iload 0 dr_cX17_graph_232 rfl ?_
                              have hm364195 : (γ 9 2) ∈ P269915 := RS_m hT364025 ht364160 (by decide)
                              obtain ⟨f364197, he364196, wf364197⟩ := show rk_35 I (F364024 (γ 9 2)) from RS_o hT364025 ht364160
                              refine Gp_lald 2 hm364195 he364196 dr_cX17_graph_234 rfl (gB_in bg364023' (by decide) (by decide)) (G_namL fun u364198 hu364198 => ?_)
                              have qu364198 : lb_Q u364198 (2000 - 64 * g364023.toInt) := lb_Wld hu364198 wf364197 (by omega) (by omega) (lb_Mod0 (by omega) (by omega))
                              refine G_lor dr_cX17_graph_235 (G_namL fun u364199 hu364199 => ?_)
                              have qu364199 : lb_Q u364199 (2000 - 64 * g364023.toInt) := lb_Qor hu364199 qu364194 qu364198
                              refine Gp_last 2 hm364191 he364192 dr_cX17_graph_236 rfl (gB_in bg364023' (by decide) (by decide)) (fun F364200 e364201 n364202 => ?_)
                              obtain ⟨f364203, hf364203⟩ : ∃ z, z = vp_updL f364193 g364023.toNatClampNeg u364199 := ⟨_, rfl⟩
                              rw [← hf364203] at e364201
                              have he364204 : F364200 q269918 = .inr (18, [.ref q359279, .ref q359280, .int p359281, .int p359282]) := (n364202 q269918 (rn_oa he364029 he364192)).trans he364029
                              have he364205 : F364200 q359279 = .inr (4, [.int p360510, .ref q360512, .int p360511]) := (n364202 q359279 (rn_oa he364030 he364192)).trans he364030
                              have he364206 : F364200 q360512 = .inl (I (.object "java/lang/Object"), n360526, .inr (.inr (.inr (.inr f360527)))) := (n364202 q360512 (rn_ref_long he364031 he364192)).trans he364031
                              have he364207 : F364200 q360529 = .inr (17, [.ref q360538, .ref q360539, .int p360540, .int p360541]) := (n364202 q360529 (rn_oa he364032 he364192)).trans he364032
                              have he364208 : F364200 q360538 = .inr (4, [.int p363649, .ref q363651, .int p363650]) := (n364202 q360538 (rn_oa he364033 he364192)).trans he364033
                              have he364209 : F364200 q363651 = .inl (I (.object "java/lang/Object"), n363665, .inr (.inr (.inr (.inr f363666)))) := (n364202 q363651 (rn_ref_long he364034 he364192)).trans he364034
                              have he364210 : F364200 q363668 = .inr (20, [.int p363680, .int p363681, .int p363682, .int p363683, .int p363684, .int p363685, .int p363686]) := (n364202 q363668 (rn_oa he364035 he364192)).trans he364035
                              have he364211 : F364200 q269917 = .inr (22, [.ref (γ 9 0), .ref (γ 9 1), .ref (γ 9 2), .ref (γ 9 3), .ref (γ 9 4), .ref (γ 9 5), .ref (γ 9 6), .ref (γ 9 7), .ref (γ 9 8), .int p364141, .int p364142, .int p364143, .int p364144, .int p364145, .int p364146, .ref (γ 9 15), .ref (γ 9 16), .ref (γ 9 17), .ref (γ 9 18), .ref (γ 9 19), .ref (γ 9 20), .ref (γ 9 21), .ref (γ 9 22), .int p364147, .int p364148, .int p364149, .int p364150, .int p364151, .ref q364139, .ref (γ 9 29), .int p364152, .ref (γ 9 31), .int p364153, .int p364154, .int p364155, .ref q364140]) := (n364202 q269917 (rn_oa he364138 he364192)).trans he364138
                              have he364212 : F364200 (γ 9 1) = .inl (I (.array .long), 2000, .inr (.inr (.inr (.inr f364186)))) := (n364202 (γ 9 1) (rn_ref_long he364185 he364192)).trans he364185
                              have he364213 : F364200 (γ 9 2) = .inl (I .long, 32, .inr (.inl f364197)) := (n364202 (γ 9 2) (rn_ty ht364160 ht364189 (by decide))).trans he364196
                              have he364214 : F364200 q364188 = .inl (I .long, 32, .inr (.inl f364203)) := e364201
                              have hs364215 : rStr γ [] F269916 F364200 := rStr_put hs364026 n364202 ht364189 (by decide)
                              have wf364203 : lb_W f364203 (32) (32) (2000) := lb_Wst hf364203 wf364193 (by omega) (lb_Mod0 (by omega) (by omega)) qu364199
                              obtain ⟨z364216, hz364216⟩ : ∃ z : Int32, z = g364023 + Int32.ofInt 1 := ⟨_, rfl⟩
                              have ez364216 : z364216.toInt = g364023.toInt + 1 := gI_inc hz364216 (by decide) bg364023' (by decide) (by decide)
                              have bz364216 : gB z364216 1 32 := ⟨by omega, by omega⟩
                              refine G_iinc (L' := [(10, .int z364216), (9, .int 0), (8, .int (-1)), (7, .int o363759), (6, .ref q363668), (5, .int g363629), (4, .ref q360529), (3, .int g359270), (0, .ref q269917), (1, .ref q269918), (2, .int p269919)]) z364216 0 dr_cX17_graph_237 rfl hz364216.symm (Nat.le_of_ble_eq_true rfl) rfl ?_
                              refine G_goto 210 dr_cX17_graph_240 (by decide +kernel) ?_
                              have hT364217 : RS D I P269915 F364200 γ el := RS_set hT364025 n364202 ht364189 (by decide) ⟨f364203, he364214, wf364203⟩
                              exact ih210_364026 F364200 z364216 (gB_w bz364216 (by decide) (by decide)) hT364217 hs364215 (by have qa0 : Int32.toInt (-1) = (-1) := (by decide); have qa1 : Int32.toInt 0 = 0 := (by decide); omega)
                        exact hlp210_364026 (((33 : Int) - 0).toNat + 1) F363743 0 (gB_w (gBl (show Int32.toInt 0 = 0 by decide)) (by decide) (by decide)) hT363744 hs363753 (Nat.lt_succ_self _)
                    · have r364218 : p269919.toInt = 0 := gj_eq hc363760 (show Int32.toInt 0 = 0 by decide)
                      have bp269919' : gB p269919 0 0 := ⟨by omega, by omega⟩
                      refine G_aload 1 dr_cX17_graph_148 rfl ?_
                      refine Gp_get 0 hm363678 he363752 dr_cX17_graph_150 (gk_X15 D I) (Nat.le_of_ble_eq_true rfl) wr_9_177 rfl ?_
                      refine G_if_ne 172 dr_cX17_graph_153 (by decide +kernel) (fun hc364219 => ?_) (fun hc364219 => ?_)
                      · have r364220 : p363680.toInt ≠ 0 := gj_neq hc364219 (show Int32.toInt 0 = 0 by decide)
                        have bp363680' : gB p363680 1 32 := ⟨by omega, by omega⟩
                        refine G_iconst (-1) dr_cX17_graph_172 (by decide +kernel) ?_
                        refine G_istore (L' := [(8, .int (-1)), (7, .int o363759), (6, .ref q363668), (5, .int g363629), (4, .ref q360529), (3, .int g359270), (0, .ref q269917), (1, .ref q269918), (2, .int p269919)]) dr_cX17_graph_173 (Nat.le_of_ble_eq_true rfl) rfl ?_
                        refine G_iload 1 dr_cX17_graph_175 rfl ?_
                        refine G_if_lt 277 dr_cX17_graph_177 (by decide +kernel) (fun hc364221 => ?_) (fun hc364221 => ?_)
                        · have r364222 : o363759.toInt < 0 := gj_lt hc364221 (show Int32.toInt 0 = 0 by decide)
                          have bo363759' : gB o363759 (-1) (-1) := ⟨by omega, by omega⟩
                          refine G_aload_n 6 dr_cX17_graph_277 rfl ?_
                          refine G_aload 2 dr_cX17_graph_278 rfl ?_
                          refine G_iload_n 8 dr_cX17_graph_280 rfl ?_
                          have hm364228 : q269917 ∈ P269915 := RS_m hT363744 htq269917 (by decide)
                          obtain ⟨q364230, q364231, p364232, p364233, p364234, p364235, p364236, p364237, p364238, p364239, p364240, p364241, p364242, p364243, p364244, p364245, p364246, he364229, hB364273, ht364247, ht364248, ht364249, ht364250, ht364251, ht364252, ht364253, ht364254, ht364255, ht364256, ht364257, ht364258, ht364259, ht364260, ht364261, ht364262, ht364263, ht364264, ht364265, ht364266, ht364267, ht364268, ht364269, ht364270, hB364274⟩ := show rk_10 γ (F363743 q269917) from RS_o hT363744 htq269917
                          refine Gw_callV (As := [.ref q363668, .int p269919]) (gV_ok D I) (ct_3919_SpillForgeModel_back l hl0 D I γ el P269915 F363743 q269917 q363668 p269919 hT363744 htq269917 ht363671 (gB_w bp269919' (by decide) (by decide))) dr_cX17_graph_281 ⟨wr_10_174, wr_1_14, wr_10_177, by decide, rfl, (Nat.le_of_ble_eq_true rfl), (Nat.le_of_ble_eq_true rfl)⟩ wr_10_176 wr_p_96 hm364228 he364229 rfl (show 0 + 0 ≤ 0 by first | omega | decide) (show 0 + 0 ≤ 0 by first | omega | decide) (Nat.le_of_ble_eq_true rfl) (fun r364226 w364227 dc364223 ds364224 hp364225 => ?_) (fun _ _ _ _ _ z => z.elim)
                          obtain ⟨F364275, rfl, rfl, hT364276, hs364277, hdc, hds⟩ := hp364225
                          have he364278 : F364275 q269918 = .inr (18, [.ref q359279, .ref q359280, .int p359281, .int p359282]) := (hs364277 q269918 (rT0 htq269918 (by decide)) (rT1 htq269918 (by decide)) (rT2 htq269918 (by decide))).trans he363746
                          have he364279 : F364275 q359279 = .inr (4, [.int p360510, .ref q360512, .int p360511]) := (hs364277 q359279 (rT0 ht359283 (by decide)) (rT1 ht359283 (by decide)) (rT2 ht359283 (by decide))).trans he363747
                          have he364280 : F364275 q360512 = .inl (I (.object "java/lang/Object"), n360526, .inr (.inr (.inr (.inr f360527)))) := (hs364277 q360512 (rT0 r360518 (by decide)) (rT1 r360518 (by decide)) (rT2 r360518 (by decide))).trans he363748
                          have he364281 : F364275 q360529 = .inr (17, [.ref q360538, .ref q360539, .int p360540, .int p360541]) := (hs364277 q360529 (rT0 ht360534 (by decide)) (rT1 ht360534 (by decide)) (rT2 ht360534 (by decide))).trans he363749
                          have he364282 : F364275 q360538 = .inr (4, [.int p363649, .ref q363651, .int p363650]) := (hs364277 q360538 (rT0 ht360542 (by decide)) (rT1 ht360542 (by decide)) (rT2 ht360542 (by decide))).trans he363750
                          have he364283 : F364275 q363651 = .inl (I (.object "java/lang/Object"), n363665, .inr (.inr (.inr (.inr f363666)))) := (hs364277 q363651 (rT0 r363657 (by decide)) (rT1 r363657 (by decide)) (rT2 r363657 (by decide))).trans he363751
                          have he364284 : F364275 q363668 = .inr (20, [.int p363680, .int p363681, .int p363682, .int p363683, .int p363684, .int p363685, .int p363686]) := (hs364277 q363668 (rT0 ht363671 (by decide)) (rT1 ht363671 (by decide)) (rT2 ht363671 (by decide))).trans he363752
                          have hs364285 : rStr γ [] F269916 F364275 := rStr_tr hs363753 hs364277
                          change G _ _ _ _ _ _ _ _ _ _ _
                          refine G_widen (cs' := 0) (sl' := 0) (by omega) (by omega) ?_
                          obtain ⟨z364286, hz364286⟩ : ∃ z : Int32, z = g363629 + Int32.ofInt (-1) := ⟨_, rfl⟩
                          have ez364286 : z364286.toInt = g363629.toInt + (-1) := gI_inc hz364286 (by decide) bg363629' (by decide) (by decide)
                          have bz364286 : gB z364286 (-1) 999998 := ⟨by omega, by omega⟩
                          refine G_iinc (L' := [(5, .int z364286), (8, .int (-1)), (7, .int o363759), (6, .ref q363668), (4, .ref q360529), (3, .int g359270), (0, .ref q269917), (1, .ref q269918), (2, .int p269919)]) z364286 3 dr_cX17_graph_284 rfl hz364286.symm (Nat.le_of_ble_eq_true rfl) rfl ?_
                          refine G_goto 109 dr_cX17_graph_287 (by decide +kernel) ?_
                          refine G_lv (L' := [(5, .int z364286), (4, .ref q360529), (3, .int g359270), (0, .ref q269917), (1, .ref q269918), (2, .int p269919)]) [0, 4, 5, 6, 7, 8] rfl ?_
                          exact ih109_363633 F364275 z364286 (gB_w bz364286 (by decide) (by decide)) hT364276 hs364285 (by omega) (by omega)
                        · have r364287 : 0 ≤ o363759.toInt := gj_nlt hc364221 (show Int32.toInt 0 = 0 by decide)
                          have bo363759' : gB o363759 0 1999 := ⟨by omega, by omega⟩
                          refine G_iload 0 dr_cX17_graph_180 rfl ?_
                          refine G_if_lt 204 dr_cX17_graph_182 (by decide +kernel) (fun _ => ?_) (fun hc => absurd hc (by decide))
                          refine G_iconst 0 dr_cX17_graph_204 (by decide +kernel) ?_
                          refine G_istore (L' := [(9, .int 0), (8, .int (-1)), (7, .int o363759), (6, .ref q363668), (5, .int g363629), (4, .ref q360529), (3, .int g359270), (0, .ref q269917), (1, .ref q269918), (2, .int p269919)]) dr_cX17_graph_205 (Nat.le_of_ble_eq_true rfl) rfl ?_
                          refine G_iconst 0 dr_cX17_graph_207 (by decide +kernel) ?_
                          refine G_istore (L' := [(10, .int 0), (9, .int 0), (8, .int (-1)), (7, .int o363759), (6, .ref q363668), (5, .int g363629), (4, .ref q360529), (3, .int g359270), (0, .ref q269917), (1, .ref q269918), (2, .int p269919)]) dr_cX17_graph_208 (Nat.le_of_ble_eq_true rfl) rfl ?_
                          have hlp210_364485 : ∀ (n210_364485 : Nat) (F364483 : Nat → va_E) (g364482 : Int32), gB g364482 0 32 → RS D I P269915 F364483 γ el → rStr γ [] F269916 F364483 → ((33 : Int) - g364482.toInt).toNat < n210_364485 → G (gV D I) l (gRm 5 111 0 0) (gMA (gV D I) (pt_269921_SpillForgeModel_graph D I γ el P269915 F269916 q269917 q269918 p269919) gNA 0 0) ky_269921_SpillForgeModel_graph 210 [(10, .int g364482), (9, .int 0), (8, .int (-1)), (7, .int o363759), (6, .ref q363668), (5, .int g363629), (4, .ref q360529), (3, .int g359270), (0, .ref q269917), (1, .ref q269918), (2, .int p269919)] [] (va_pl P269915 F364483) 0 0 := by
                            intro n210_364485
                            induction n210_364485 with
                            | zero => intro F364483 g364482 bg364482 hT364484 hs364485 hm210_364485; exact absurd hm210_364485 (Nat.not_lt_zero _)
                            | succ n210_364485 ih210_364485 =>
                              intro F364483 g364482 bg364482 hT364484 hs364485 hm210_364485
                              have hs364487 : rStr γ [] F363743 F364483 := fun b h0 hb hw => (hs364485 b h0 hb hw).trans (hs363753 b h0 hb hw).symm
                              have he364488 : F364483 q269918 = .inr (18, [.ref q359279, .ref q359280, .int p359281, .int p359282]) := (hs364487 q269918 (rT0 htq269918 (by decide)) (rT1 htq269918 (by decide)) (rT2 htq269918 (by decide))).trans he363746
                              have he364489 : F364483 q359279 = .inr (4, [.int p360510, .ref q360512, .int p360511]) := (hs364487 q359279 (rT0 ht359283 (by decide)) (rT1 ht359283 (by decide)) (rT2 ht359283 (by decide))).trans he363747
                              have he364490 : F364483 q360512 = .inl (I (.object "java/lang/Object"), n360526, .inr (.inr (.inr (.inr f360527)))) := (hs364487 q360512 (rT0 r360518 (by decide)) (rT1 r360518 (by decide)) (rT2 r360518 (by decide))).trans he363748
                              have he364491 : F364483 q360529 = .inr (17, [.ref q360538, .ref q360539, .int p360540, .int p360541]) := (hs364487 q360529 (rT0 ht360534 (by decide)) (rT1 ht360534 (by decide)) (rT2 ht360534 (by decide))).trans he363749
                              have he364492 : F364483 q360538 = .inr (4, [.int p363649, .ref q363651, .int p363650]) := (hs364487 q360538 (rT0 ht360542 (by decide)) (rT1 ht360542 (by decide)) (rT2 ht360542 (by decide))).trans he363750
                              have he364493 : F364483 q363651 = .inl (I (.object "java/lang/Object"), n363665, .inr (.inr (.inr (.inr f363666)))) := (hs364487 q363651 (rT0 r363657 (by decide)) (rT1 r363657 (by decide)) (rT2 r363657 (by decide))).trans he363751
                              have he364494 : F364483 q363668 = .inr (20, [.int p363680, .int p363681, .int p363682, .int p363683, .int p363684, .int p363685, .int p363686]) := (hs364487 q363668 (rT0 ht363671 (by decide)) (rT1 ht363671 (by decide)) (rT2 ht363671 (by decide))).trans he363752
                              have hs364495 : rStr γ [] F269916 F364483 := rStr_tr hs363753 hs364487
                              refine G_iload 0 dr_cX17_graph_210 rfl ?_
                              refine G_bipush 32 dr_cX17_graph_212 (by decide +kernel) ?_
                              refine G_icmp_ge 243 dr_cX17_graph_214 (by decide +kernel) (fun hc364496 => ?_) (fun hc364496 => ?_)
                              · have r364497 : 32 ≤ g364482.toInt := gj_leL hc364496 (show Int32.toInt 32 = 32 by decide)
                                have bg364482' : gB g364482 32 32 := ⟨by omega, by omega⟩
                                refine G_iload 2 dr_cX17_graph_243 rfl ?_
                                refine G_if_lt 265 dr_cX17_graph_245 (by decide +kernel) (fun _ => ?_) (fun hc => absurd hc (by decide))
                                refine G_aload_n 8 dr_cX17_graph_265 rfl ?_
                                have hm364498 : q269917 ∈ P269915 := RS_m hT364484 htq269917 (by decide)
                                obtain ⟨q364500, q364501, p364502, p364503, p364504, p364505, p364506, p364507, p364508, p364509, p364510, p364511, p364512, p364513, p364514, p364515, p364516, he364499, hB364543, ht364517, ht364518, ht364519, ht364520, ht364521, ht364522, ht364523, ht364524, ht364525, ht364526, ht364527, ht364528, ht364529, ht364530, ht364531, ht364532, ht364533, ht364534, ht364535, ht364536, ht364537, ht364538, ht364539, ht364540, hB364544⟩ := show rk_10 γ (F364483 q269917) from RS_o hT364484 htq269917
                                refine Gp_get 1 hm364498 he364499 dr_cX17_graph_266 (gk_X17 D I) (Nat.le_of_ble_eq_true rfl) wr_7_75 rfl ?_
                                refine G_iload 3 dr_cX17_graph_269 rfl ?_
                                have hm364545 : (γ 9 1) ∈ P269915 := RS_m hT364484 ht364520 (by decide)
                                obtain ⟨f364547, he364546, hg364548⟩ := show rk_13 I γ (F364483 (γ 9 1)) from RS_o hT364484 ht364520
                                obtain ⟨q364549, hx364551⟩ : ∃ x, x = γ 11 o363759.toInt.toNat := ⟨_, rfl⟩
                                have ht364550 : rKd γ q364549 36 := by rw [hx364551]; exact (hg364548 _ (show o363759.toInt.toNat < 2000 by omega)).2.1
                                refine Gp_aald 5 hm364545 he364546 dr_cX17_graph_271 rfl rfl (gB_in bo363759' (by decide) (by decide)) ?_
                                rw [show f364547 o363759.toNatClampNeg = some q364549 from (hg364548 _ (show o363759.toInt.toNat < 2000 by omega)).1.trans (by rw [hx364551])]
                                change G _ _ _ _ _ _ _ (.ref q364549 :: _) _ _ _
                                refine G_iload 3 dr_cX17_graph_272 rfl ?_
                                have hm364552 : q364549 ∈ P269915 := RS_m hT364484 ht364550 (by decide)
                                obtain ⟨f364554, he364553, wf364554⟩ := show rk_36 I (F364483 q364549) from RS_o hT364484 ht364550
                                refine Gw_callS (As := [.ref q364549, .int o363759]) (gV_ok D I) (cp_1873_SpillForgeModel_clear l hl0 D I P269915 F364483 q364549 o363759 f364554 hm364552 he364553 bo363759' wf364554) dr_cX17_graph_274 ⟨wr_10_185, wr_1_14, wr_10_187, by decide, rfl, (Nat.le_of_ble_eq_true rfl), (Nat.le_of_ble_eq_true rfl)⟩ wr_10_186 (show 0 + 0 ≤ 0 by first | omega | decide) (show 0 + 0 ≤ 0 by first | omega | decide) (Nat.le_of_ble_eq_true rfl) (fun r364558 w364559 dc364555 ds364556 hp364557 => ?_) (fun _ _ _ _ _ z => z.elim)
                                obtain ⟨F364562, f364560, rfl, rfl, hfr364564, he364565, hdc, hds, x364561⟩ := hp364557
                                have he364566 : F364562 q269918 = .inr (18, [.ref q359279, .ref q359280, .int p359281, .int p359282]) := (hfr364564 q269918 hm359277 (nm_c (rn_oa he364488 he364553) nm_n)).trans he364488
                                have he364567 : F364562 q359279 = .inr (4, [.int p360510, .ref q360512, .int p360511]) := (hfr364564 q359279 hm360508 (nm_c (rn_oa he364489 he364553) nm_n)).trans he364489
                                have he364568 : F364562 q360512 = .inl (I (.object "java/lang/Object"), n360526, .inr (.inr (.inr (.inr f360527)))) := (hfr364564 q360512 hm360528 (nm_c (rn_ref_long he364490 he364553) nm_n)).trans he364490
                                have he364569 : F364562 q360529 = .inr (17, [.ref q360538, .ref q360539, .int p360540, .int p360541]) := (hfr364564 q360529 hm360536 (nm_c (rn_oa he364491 he364553) nm_n)).trans he364491
                                have he364570 : F364562 q360538 = .inr (4, [.int p363649, .ref q363651, .int p363650]) := (hfr364564 q360538 hm363647 (nm_c (rn_oa he364492 he364553) nm_n)).trans he364492
                                have he364571 : F364562 q363651 = .inl (I (.object "java/lang/Object"), n363665, .inr (.inr (.inr (.inr f363666)))) := (hfr364564 q363651 hm363667 (nm_c (rn_ref_long he364493 he364553) nm_n)).trans he364493
                                have he364572 : F364562 q363668 = .inr (20, [.int p363680, .int p363681, .int p363682, .int p363683, .int p363684, .int p363685, .int p363686]) := (hfr364564 q363668 hm363678 (nm_c (rn_oa he364494 he364553) nm_n)).trans he364494
                                have he364573 : F364562 q269917 = .inr (22, [.ref (γ 9 0), .ref (γ 9 1), .ref (γ 9 2), .ref (γ 9 3), .ref (γ 9 4), .ref (γ 9 5), .ref (γ 9 6), .ref (γ 9 7), .ref (γ 9 8), .int p364502, .int p364503, .int p364504, .int p364505, .int p364506, .int p364507, .ref (γ 9 15), .ref (γ 9 16), .ref (γ 9 17), .ref (γ 9 18), .ref (γ 9 19), .ref (γ 9 20), .ref (γ 9 21), .ref (γ 9 22), .int p364508, .int p364509, .int p364510, .int p364511, .int p364512, .ref q364500, .ref (γ 9 29), .int p364513, .ref (γ 9 31), .int p364514, .int p364515, .int p364516, .ref q364501]) := (hfr364564 q269917 hm364498 (nm_c (rn_oa he364499 he364553) nm_n)).trans he364499
                                have he364574 : F364562 (γ 9 1) = .inl (I (.array .long), 2000, .inr (.inr (.inr (.inr f364547)))) := (hfr364564 (γ 9 1) hm364545 (nm_c (rn_ref_long he364546 he364553) nm_n)).trans he364546
                                have hfr364575 : rFr [q364549] P269915 F364483 F364562 := rFr_call (rSub_rf (P := P269915)) (rFr_rf (W := []) (P := P269915) (F := F364483)) hfr364564 (fun b hb hn => ⟨nm_n, (nm_c (fun e => hn (e ▸ List.mem_cons_self)) nm_n)⟩)
                                change G _ _ _ _ _ _ _ _ _ _ _
                                refine G_widen (cs' := 0) (sl' := 0) (by omega) (by omega) ?_
                                have hT364576 : RS D I P269915 F364562 γ el := RS_fr hT364484 hfr364575 ht364550 (by decide) ⟨f364560, he364565, x364561⟩
                                have hs364577 : rStr γ [] F269916 F364562 := rStr_fr hT364484 hs364485 hfr364575 ht364550 (by decide)
                                refine G_aload_n 8 dr_cX17_graph_277 rfl ?_
                                refine G_aload 4 dr_cX17_graph_278 rfl ?_
                                refine G_iload_n 10 dr_cX17_graph_280 rfl ?_
                                refine Gw_callV (As := [.ref q363668, .int p269919]) (gV_ok D I) (ct_3919_SpillForgeModel_back l hl0 D I γ el P269915 F364562 q269917 q363668 p269919 hT364576 htq269917 ht363671 (gB_w bp269919' (by decide) (by decide))) dr_cX17_graph_281 ⟨wr_10_174, wr_1_14, wr_10_177, by decide, rfl, (Nat.le_of_ble_eq_true rfl), (Nat.le_of_ble_eq_true rfl)⟩ wr_10_176 wr_p_96 hm364498 he364573 rfl (show 0 + 0 ≤ 0 by first | omega | decide) (show 0 + 0 ≤ 0 by first | omega | decide) (Nat.le_of_ble_eq_true rfl) (fun r364581 w364582 dc364578 ds364579 hp364580 => ?_) (fun _ _ _ _ _ z => z.elim)
                                obtain ⟨F364583, rfl, rfl, hT364584, hs364585, hdc, hds⟩ := hp364580
                                have he364586 : F364583 q269918 = .inr (18, [.ref q359279, .ref q359280, .int p359281, .int p359282]) := (hs364585 q269918 (rT0 htq269918 (by decide)) (rT1 htq269918 (by decide)) (rT2 htq269918 (by decide))).trans he364566
                                have he364587 : F364583 q359279 = .inr (4, [.int p360510, .ref q360512, .int p360511]) := (hs364585 q359279 (rT0 ht359283 (by decide)) (rT1 ht359283 (by decide)) (rT2 ht359283 (by decide))).trans he364567
                                have he364588 : F364583 q360512 = .inl (I (.object "java/lang/Object"), n360526, .inr (.inr (.inr (.inr f360527)))) := (hs364585 q360512 (rT0 r360518 (by decide)) (rT1 r360518 (by decide)) (rT2 r360518 (by decide))).trans he364568
                                have he364589 : F364583 q360529 = .inr (17, [.ref q360538, .ref q360539, .int p360540, .int p360541]) := (hs364585 q360529 (rT0 ht360534 (by decide)) (rT1 ht360534 (by decide)) (rT2 ht360534 (by decide))).trans he364569
                                have he364590 : F364583 q360538 = .inr (4, [.int p363649, .ref q363651, .int p363650]) := (hs364585 q360538 (rT0 ht360542 (by decide)) (rT1 ht360542 (by decide)) (rT2 ht360542 (by decide))).trans he364570
                                have he364591 : F364583 q363651 = .inl (I (.object "java/lang/Object"), n363665, .inr (.inr (.inr (.inr f363666)))) := (hs364585 q363651 (rT0 r363657 (by decide)) (rT1 r363657 (by decide)) (rT2 r363657 (by decide))).trans he364571
                                have he364592 : F364583 q363668 = .inr (20, [.int p363680, .int p363681, .int p363682, .int p363683, .int p363684, .int p363685, .int p363686]) := (hs364585 q363668 (rT0 ht363671 (by decide)) (rT1 ht363671 (by decide)) (rT2 ht363671 (by decide))).trans he364572
                                have hs364593 : rStr γ [] F269916 F364583 := rStr_tr hs364577 hs364585
                                change G _ _ _ _ _ _ _ _ _ _ _
                                refine G_widen (cs' := 0) (sl' := 0) (by omega) (by omega) ?_
                                obtain ⟨z364594, hz364594⟩ : ∃ z : Int32, z = g363629 + Int32.ofInt (-1) := ⟨_, rfl⟩
                                have ez364594 : z364594.toInt = g363629.toInt + (-1) := gI_inc hz364594 (by decide) bg363629' (by decide) (by decide)
                                have bz364594 : gB z364594 (-1) 999998 := ⟨by omega, by omega⟩
                                refine G_iinc (L' := [(5, .int z364594), (10, .int g364482), (9, .int 0), (8, .int (-1)), (7, .int o363759), (6, .ref q363668), (4, .ref q360529), (3, .int g359270), (0, .ref q269917), (1, .ref q269918), (2, .int p269919)]) z364594 5 dr_cX17_graph_284 rfl hz364594.symm (Nat.le_of_ble_eq_true rfl) rfl ?_
                                refine G_goto 109 dr_cX17_graph_287 (by decide +kernel) ?_
                                refine G_lv (L' := [(5, .int z364594), (4, .ref q360529), (3, .int g359270), (0, .ref q269917), (1, .ref q269918), (2, .int p269919)]) [0, 6, 7, 8, 9, 10] rfl ?_
                                exact ih109_363633 F364583 z364594 (gB_w bz364594 (by decide) (by decide)) hT364584 hs364593 (by omega) (by omega)
                              · have r364595 : g364482.toInt < 32 := gj_nleL hc364496 (show Int32.toInt 32 = 32 by decide)
                                have bg364482' : gB g364482 0 31 := ⟨by omega, by omega⟩
                                refine G_aload_n 8 dr_cX17_graph_217 rfl ?_
                                have hm364596 : q269917 ∈ P269915 := RS_m hT364484 htq269917 (by decide)
                                obtain ⟨q364598, q364599, p364600, p364601, p364602, p364603, p364604, p364605, p364606, p364607, p364608, p364609, p364610, p364611, p364612, p364613, p364614, he364597, hB364641, ht364615, ht364616, ht364617, ht364618, ht364619, ht364620, ht364621, ht364622, ht364623, ht364624, ht364625, ht364626, ht364627, ht364628, ht364629, ht364630, ht364631, ht364632, ht364633, ht364634, ht364635, ht364636, ht364637, ht364638, hB364642⟩ := show rk_10 γ (F364483 q269917) from RS_o hT364484 htq269917
                                refine Gp_get 1 hm364596 he364597 dr_cX17_graph_218 (gk_X17 D I) (Nat.le_of_ble_eq_true rfl) wr_7_75 rfl ?_
                                refine G_iload 3 dr_cX17_graph_221 rfl ?_
                                have hm364643 : (γ 9 1) ∈ P269915 := RS_m hT364484 ht364618 (by decide)
                                obtain ⟨f364645, he364644, hg364646⟩ := show rk_13 I γ (F364483 (γ 9 1)) from RS_o hT364484 ht364618
                                obtain ⟨q364647, hx364649⟩ : ∃ x, x = γ 11 o363759.toInt.toNat := ⟨_, rfl⟩
                                have ht364648 : rKd γ q364647 36 := by rw [hx364649]; exact (hg364646 _ (show o363759.toInt.toNat < 2000 by omega)).2.1
                                refine Gp_aald 5 hm364643 he364644 dr_cX17_graph_223 rfl rfl (gB_in bo363759' (by decide) (by decide)) ?_
                                rw [show f364645 o363759.toNatClampNeg = some q364647 from (hg364646 _ (show o363759.toInt.toNat < 2000 by omega)).1.trans (by rw [hx364649])]
                                change G _ _ _ _ _ _ _ (.ref q364647 :: _) _ _ _
                                refine G_iload 0 dr_cX17_graph_224 rfl ?_
                                refine G_dup2_11 dr_cX17_graph_226 rfl rfl ?_
                                have hm364650 : q364647 ∈ P269915 := RS_m hT364484 ht364648 (by decide)
                                obtain ⟨f364652, he364651, wf364652⟩ := show rk_36 I (F364483 q364647) from RS_o hT364484 ht364648
                                refine Gp_lald 2 hm364650 he364651 dr_cX17_graph_227 rfl (gB_in bg364482' (by decide) (by decide)) (G_namL fun u364653 hu364653 => ?_)
                                have qu364653 : lb_Q u364653 (2000 - 64 * g364482.toInt) := lb_Wld hu364653 wf364652 (by omega) (by omega) (lb_Mod0 (by omega) (by omega))
                                refine G_aload_n 8 dr_cX17_graph_228 rfl ?_
                                refine Gp_get 2 hm364596 he364597 dr_cX17_graph_229 (gk_X17 D I) (Nat.le_of_ble_eq_true rfl) wr_7_76 rfl ?_
                                refine G_iload 0 dr_cX17_graph_232 rfl ?_
                                have hm364654 : (γ 9 2) ∈ P269915 := RS_m hT364484 ht364619 (by decide)
                                obtain ⟨f364656, he364655, wf364656⟩ := show rk_35 I (F364483 (γ 9 2)) from RS_o hT364484 ht364619
                                refine Gp_lald 2 hm364654 he364655 dr_cX17_graph_234 rfl (gB_in bg364482' (by decide) (by decide)) (G_namL fun u364657 hu364657 => ?_)
                                have qu364657 : lb_Q u364657 (2000 - 64 * g364482.toInt) := lb_Wld hu364657 wf364656 (by omega) (by omega) (lb_Mod0 (by omega) (by omega))
                                refine G_lor dr_cX17_graph_235 (G_namL fun u364658 hu364658 => ?_)
                                have qu364658 : lb_Q u364658 (2000 - 64 * g364482.toInt) := lb_Qor hu364658 qu364653 qu364657
                                refine Gp_last 2 hm364650 he364651 dr_cX17_graph_236 rfl (gB_in bg364482' (by decide) (by decide)) (fun F364659 e364660 n364661 => ?_)
                                obtain ⟨f364662, hf364662⟩ : ∃ z, z = vp_updL f364652 g364482.toNatClampNeg u364658 := ⟨_, rfl⟩
                                rw [← hf364662] at e364660
                                have he364663 : F364659 q269918 = .inr (18, [.ref q359279, .ref q359280, .int p359281, .int p359282]) := (n364661 q269918 (rn_oa he364488 he364651)).trans he364488
                                have he364664 : F364659 q359279 = .inr (4, [.int p360510, .ref q360512, .int p360511]) := (n364661 q359279 (rn_oa he364489 he364651)).trans he364489
                                have he364665 : F364659 q360512 = .inl (I (.object "java/lang/Object"), n360526, .inr (.inr (.inr (.inr f360527)))) := (n364661 q360512 (rn_ref_long he364490 he364651)).trans he364490
                                have he364666 : F364659 q360529 = .inr (17, [.ref q360538, .ref q360539, .int p360540, .int p360541]) := (n364661 q360529 (rn_oa he364491 he364651)).trans he364491
                                have he364667 : F364659 q360538 = .inr (4, [.int p363649, .ref q363651, .int p363650]) := (n364661 q360538 (rn_oa he364492 he364651)).trans he364492
                                have he364668 : F364659 q363651 = .inl (I (.object "java/lang/Object"), n363665, .inr (.inr (.inr (.inr f363666)))) := (n364661 q363651 (rn_ref_long he364493 he364651)).trans he364493
                                have he364669 : F364659 q363668 = .inr (20, [.int p363680, .int p363681, .int p363682, .int p363683, .int p363684, .int p363685, .int p363686]) := (n364661 q363668 (rn_oa he364494 he364651)).trans he364494
                                have he364670 : F364659 q269917 = .inr (22, [.ref (γ 9 0), .ref (γ 9 1), .ref (γ 9 2), .ref (γ 9 3), .ref (γ 9 4), .ref (γ 9 5), .ref (γ 9 6), .ref (γ 9 7), .ref (γ 9 8), .int p364600, .int p364601, .int p364602, .int p364603, .int p364604, .int p364605, .ref (γ 9 15), .ref (γ 9 16), .ref (γ 9 17), .ref (γ 9 18), .ref (γ 9 19), .ref (γ 9 20), .ref (γ 9 21), .ref (γ 9 22), .int p364606, .int p364607, .int p364608, .int p364609, .int p364610, .ref q364598, .ref (γ 9 29), .int p364611, .ref (γ 9 31), .int p364612, .int p364613, .int p364614, .ref q364599]) := (n364661 q269917 (rn_oa he364597 he364651)).trans he364597
                                have he364671 : F364659 (γ 9 1) = .inl (I (.array .long), 2000, .inr (.inr (.inr (.inr f364645)))) := (n364661 (γ 9 1) (rn_ref_long he364644 he364651)).trans he364644
                                have he364672 : F364659 (γ 9 2) = .inl (I .long, 32, .inr (.inl f364656)) := (n364661 (γ 9 2) (rn_ty ht364619 ht364648 (by decide))).trans he364655
                                have he364673 : F364659 q364647 = .inl (I .long, 32, .inr (.inl f364662)) := e364660
                                have hs364674 : rStr γ [] F269916 F364659 := rStr_put hs364485 n364661 ht364648 (by decide)
                                have wf364662 : lb_W f364662 (32) (32) (2000) := lb_Wst hf364662 wf364652 (by omega) (lb_Mod0 (by omega) (by omega)) qu364658
                                obtain ⟨z364675, hz364675⟩ : ∃ z : Int32, z = g364482 + Int32.ofInt 1 := ⟨_, rfl⟩
                                have ez364675 : z364675.toInt = g364482.toInt + 1 := gI_inc hz364675 (by decide) bg364482' (by decide) (by decide)
                                have bz364675 : gB z364675 1 32 := ⟨by omega, by omega⟩
                                refine G_iinc (L' := [(10, .int z364675), (9, .int 0), (8, .int (-1)), (7, .int o363759), (6, .ref q363668), (5, .int g363629), (4, .ref q360529), (3, .int g359270), (0, .ref q269917), (1, .ref q269918), (2, .int p269919)]) z364675 0 dr_cX17_graph_237 rfl hz364675.symm (Nat.le_of_ble_eq_true rfl) rfl ?_
                                refine G_goto 210 dr_cX17_graph_240 (by decide +kernel) ?_
                                have hT364676 : RS D I P269915 F364659 γ el := RS_set hT364484 n364661 ht364648 (by decide) ⟨f364662, he364673, wf364662⟩
                                exact ih210_364485 F364659 z364675 (gB_w bz364675 (by decide) (by decide)) hT364676 hs364674 (by have qa0 : Int32.toInt (-1) = (-1) := (by decide); have qa1 : Int32.toInt 0 = 0 := (by decide); omega)
                          exact hlp210_364485 (((33 : Int) - 0).toNat + 1) F363743 0 (gB_w (gBl (show Int32.toInt 0 = 0 by decide)) (by decide) (by decide)) hT363744 hs363753 (Nat.lt_succ_self _)
                      · have r364677 : p363680.toInt = 0 := gj_eq hc364219 (show Int32.toInt 0 = 0 by decide)
                        have bp363680' : gB p363680 0 0 := ⟨by omega, by omega⟩
                        refine G_aload 1 dr_cX17_graph_156 rfl ?_
                        refine Gp_get 5 hm363678 he363752 dr_cX17_graph_158 (gk_X15 D I) (Nat.le_of_ble_eq_true rfl) wr_9_197 rfl ?_
                        refine G_if_eq 172 dr_cX17_graph_161 (by decide +kernel) (fun hc364678 => ?_) (fun hc364678 => ?_)
                        · have r364679 : p363685.toInt = 0 := gj_eq hc364678 (show Int32.toInt 0 = 0 by decide)
                          have bp363685' : gB p363685 0 0 := ⟨by omega, by omega⟩
                          refine G_iconst (-1) dr_cX17_graph_172 (by decide +kernel) ?_
                          refine G_istore (L' := [(8, .int (-1)), (7, .int o363759), (6, .ref q363668), (5, .int g363629), (4, .ref q360529), (3, .int g359270), (0, .ref q269917), (1, .ref q269918), (2, .int p269919)]) dr_cX17_graph_173 (Nat.le_of_ble_eq_true rfl) rfl ?_
                          refine G_iload 1 dr_cX17_graph_175 rfl ?_
                          refine G_if_lt 277 dr_cX17_graph_177 (by decide +kernel) (fun hc364680 => ?_) (fun hc364680 => ?_)
                          · have r364681 : o363759.toInt < 0 := gj_lt hc364680 (show Int32.toInt 0 = 0 by decide)
                            have bo363759' : gB o363759 (-1) (-1) := ⟨by omega, by omega⟩
                            refine G_aload_n 6 dr_cX17_graph_277 rfl ?_
                            refine G_aload 2 dr_cX17_graph_278 rfl ?_
                            refine G_iload_n 8 dr_cX17_graph_280 rfl ?_
                            have hm364687 : q269917 ∈ P269915 := RS_m hT363744 htq269917 (by decide)
                            obtain ⟨q364689, q364690, p364691, p364692, p364693, p364694, p364695, p364696, p364697, p364698, p364699, p364700, p364701, p364702, p364703, p364704, p364705, he364688, hB364732, ht364706, ht364707, ht364708, ht364709, ht364710, ht364711, ht364712, ht364713, ht364714, ht364715, ht364716, ht364717, ht364718, ht364719, ht364720, ht364721, ht364722, ht364723, ht364724, ht364725, ht364726, ht364727, ht364728, ht364729, hB364733⟩ := show rk_10 γ (F363743 q269917) from RS_o hT363744 htq269917
                            refine Gw_callV (As := [.ref q363668, .int p269919]) (gV_ok D I) (ct_3919_SpillForgeModel_back l hl0 D I γ el P269915 F363743 q269917 q363668 p269919 hT363744 htq269917 ht363671 (gB_w bp269919' (by decide) (by decide))) dr_cX17_graph_281 ⟨wr_10_174, wr_1_14, wr_10_177, by decide, rfl, (Nat.le_of_ble_eq_true rfl), (Nat.le_of_ble_eq_true rfl)⟩ wr_10_176 wr_p_96 hm364687 he364688 rfl (show 0 + 0 ≤ 0 by first | omega | decide) (show 0 + 0 ≤ 0 by first | omega | decide) (Nat.le_of_ble_eq_true rfl) (fun r364685 w364686 dc364682 ds364683 hp364684 => ?_) (fun _ _ _ _ _ z => z.elim)
                            obtain ⟨F364734, rfl, rfl, hT364735, hs364736, hdc, hds⟩ := hp364684
                            have he364737 : F364734 q269918 = .inr (18, [.ref q359279, .ref q359280, .int p359281, .int p359282]) := (hs364736 q269918 (rT0 htq269918 (by decide)) (rT1 htq269918 (by decide)) (rT2 htq269918 (by decide))).trans he363746
                            have he364738 : F364734 q359279 = .inr (4, [.int p360510, .ref q360512, .int p360511]) := (hs364736 q359279 (rT0 ht359283 (by decide)) (rT1 ht359283 (by decide)) (rT2 ht359283 (by decide))).trans he363747
                            have he364739 : F364734 q360512 = .inl (I (.object "java/lang/Object"), n360526, .inr (.inr (.inr (.inr f360527)))) := (hs364736 q360512 (rT0 r360518 (by decide)) (rT1 r360518 (by decide)) (rT2 r360518 (by decide))).trans he363748
                            have he364740 : F364734 q360529 = .inr (17, [.ref q360538, .ref q360539, .int p360540, .int p360541]) := (hs364736 q360529 (rT0 ht360534 (by decide)) (rT1 ht360534 (by decide)) (rT2 ht360534 (by decide))).trans he363749
                            have he364741 : F364734 q360538 = .inr (4, [.int p363649, .ref q363651, .int p363650]) := (hs364736 q360538 (rT0 ht360542 (by decide)) (rT1 ht360542 (by decide)) (rT2 ht360542 (by decide))).trans he363750
                            have he364742 : F364734 q363651 = .inl (I (.object "java/lang/Object"), n363665, .inr (.inr (.inr (.inr f363666)))) := (hs364736 q363651 (rT0 r363657 (by decide)) (rT1 r363657 (by decide)) (rT2 r363657 (by decide))).trans he363751
                            have he364743 : F364734 q363668 = .inr (20, [.int p363680, .int p363681, .int p363682, .int p363683, .int p363684, .int p363685, .int p363686]) := (hs364736 q363668 (rT0 ht363671 (by decide)) (rT1 ht363671 (by decide)) (rT2 ht363671 (by decide))).trans he363752
                            have hs364744 : rStr γ [] F269916 F364734 := rStr_tr hs363753 hs364736
                            change G _ _ _ _ _ _ _ _ _ _ _
                            refine G_widen (cs' := 0) (sl' := 0) (by omega) (by omega) ?_
                            obtain ⟨z364745, hz364745⟩ : ∃ z : Int32, z = g363629 + Int32.ofInt (-1) := ⟨_, rfl⟩
                            have ez364745 : z364745.toInt = g363629.toInt + (-1) := gI_inc hz364745 (by decide) bg363629' (by decide) (by decide)
                            have bz364745 : gB z364745 (-1) 999998 := ⟨by omega, by omega⟩
                            refine G_iinc (L' := [(5, .int z364745), (8, .int (-1)), (7, .int o363759), (6, .ref q363668), (4, .ref q360529), (3, .int g359270), (0, .ref q269917), (1, .ref q269918), (2, .int p269919)]) z364745 3 dr_cX17_graph_284 rfl hz364745.symm (Nat.le_of_ble_eq_true rfl) rfl ?_
                            refine G_goto 109 dr_cX17_graph_287 (by decide +kernel) ?_
                            refine G_lv (L' := [(5, .int z364745), (4, .ref q360529), (3, .int g359270), (0, .ref q269917), (1, .ref q269918), (2, .int p269919)]) [0, 4, 5, 6, 7, 8] rfl ?_
                            exact ih109_363633 F364734 z364745 (gB_w bz364745 (by decide) (by decide)) hT364735 hs364744 (by omega) (by omega)
                          · have r364746 : 0 ≤ o363759.toInt := gj_nlt hc364680 (show Int32.toInt 0 = 0 by decide)
                            have bo363759' : gB o363759 0 1999 := ⟨by omega, by omega⟩
                            refine G_iload 0 dr_cX17_graph_180 rfl ?_
                            refine G_if_lt 204 dr_cX17_graph_182 (by decide +kernel) (fun _ => ?_) (fun hc => absurd hc (by decide))
                            refine G_iconst 0 dr_cX17_graph_204 (by decide +kernel) ?_
                            refine G_istore (L' := [(9, .int 0), (8, .int (-1)), (7, .int o363759), (6, .ref q363668), (5, .int g363629), (4, .ref q360529), (3, .int g359270), (0, .ref q269917), (1, .ref q269918), (2, .int p269919)]) dr_cX17_graph_205 (Nat.le_of_ble_eq_true rfl) rfl ?_
                            refine G_iconst 0 dr_cX17_graph_207 (by decide +kernel) ?_
                            refine G_istore (L' := [(10, .int 0), (9, .int 0), (8, .int (-1)), (7, .int o363759), (6, .ref q363668), (5, .int g363629), (4, .ref q360529), (3, .int g359270), (0, .ref q269917), (1, .ref q269918), (2, .int p269919)]) dr_cX17_graph_208 (Nat.le_of_ble_eq_true rfl) rfl ?_
                            have hlp210_364944 : ∀ (n210_364944 : Nat) (F364942 : Nat → va_E) (g364941 : Int32), gB g364941 0 32 → RS D I P269915 F364942 γ el → rStr γ [] F269916 F364942 → ((33 : Int) - g364941.toInt).toNat < n210_364944 → G (gV D I) l (gRm 5 111 0 0) (gMA (gV D I) (pt_269921_SpillForgeModel_graph D I γ el P269915 F269916 q269917 q269918 p269919) gNA 0 0) ky_269921_SpillForgeModel_graph 210 [(10, .int g364941), (9, .int 0), (8, .int (-1)), (7, .int o363759), (6, .ref q363668), (5, .int g363629), (4, .ref q360529), (3, .int g359270), (0, .ref q269917), (1, .ref q269918), (2, .int p269919)] [] (va_pl P269915 F364942) 0 0 := by
                              intro n210_364944
                              induction n210_364944 with
                              | zero => intro F364942 g364941 bg364941 hT364943 hs364944 hm210_364944; exact absurd hm210_364944 (Nat.not_lt_zero _)
                              | succ n210_364944 ih210_364944 =>
                                intro F364942 g364941 bg364941 hT364943 hs364944 hm210_364944
                                have hs364946 : rStr γ [] F363743 F364942 := fun b h0 hb hw => (hs364944 b h0 hb hw).trans (hs363753 b h0 hb hw).symm
                                have he364947 : F364942 q269918 = .inr (18, [.ref q359279, .ref q359280, .int p359281, .int p359282]) := (hs364946 q269918 (rT0 htq269918 (by decide)) (rT1 htq269918 (by decide)) (rT2 htq269918 (by decide))).trans he363746
                                have he364948 : F364942 q359279 = .inr (4, [.int p360510, .ref q360512, .int p360511]) := (hs364946 q359279 (rT0 ht359283 (by decide)) (rT1 ht359283 (by decide)) (rT2 ht359283 (by decide))).trans he363747
                                have he364949 : F364942 q360512 = .inl (I (.object "java/lang/Object"), n360526, .inr (.inr (.inr (.inr f360527)))) := (hs364946 q360512 (rT0 r360518 (by decide)) (rT1 r360518 (by decide)) (rT2 r360518 (by decide))).trans he363748
                                have he364950 : F364942 q360529 = .inr (17, [.ref q360538, .ref q360539, .int p360540, .int p360541]) := (hs364946 q360529 (rT0 ht360534 (by decide)) (rT1 ht360534 (by decide)) (rT2 ht360534 (by decide))).trans he363749
                                have he364951 : F364942 q360538 = .inr (4, [.int p363649, .ref q363651, .int p363650]) := (hs364946 q360538 (rT0 ht360542 (by decide)) (rT1 ht360542 (by decide)) (rT2 ht360542 (by decide))).trans he363750
                                have he364952 : F364942 q363651 = .inl (I (.object "java/lang/Object"), n363665, .inr (.inr (.inr (.inr f363666)))) := (hs364946 q363651 (rT0 r363657 (by decide)) (rT1 r363657 (by decide)) (rT2 r363657 (by decide))).trans he363751
                                have he364953 : F364942 q363668 = .inr (20, [.int p363680, .int p363681, .int p363682, .int p363683, .int p363684, .int p363685, .int p363686]) := (hs364946 q363668 (rT0 ht363671 (by decide)) (rT1 ht363671 (by decide)) (rT2 ht363671 (by decide))).trans he363752
                                have hs364954 : rStr γ [] F269916 F364942 := rStr_tr hs363753 hs364946
                                refine G_iload 0 dr_cX17_graph_210 rfl ?_
                                refine G_bipush 32 dr_cX17_graph_212 (by decide +kernel) ?_
                                refine G_icmp_ge 243 dr_cX17_graph_214 (by decide +kernel) (fun hc364955 => ?_) (fun hc364955 => ?_)
                                · have r364956 : 32 ≤ g364941.toInt := gj_leL hc364955 (show Int32.toInt 32 = 32 by decide)
                                  have bg364941' : gB g364941 32 32 := ⟨by omega, by omega⟩
                                  refine G_iload 2 dr_cX17_graph_243 rfl ?_
                                  refine G_if_lt 265 dr_cX17_graph_245 (by decide +kernel) (fun _ => ?_) (fun hc => absurd hc (by decide))
                                  refine G_aload_n 8 dr_cX17_graph_265 rfl ?_
                                  have hm364957 : q269917 ∈ P269915 := RS_m hT364943 htq269917 (by decide)
                                  obtain ⟨q364959, q364960, p364961, p364962, p364963, p364964, p364965, p364966, p364967, p364968, p364969, p364970, p364971, p364972, p364973, p364974, p364975, he364958, hB365002, ht364976, ht364977, ht364978, ht364979, ht364980, ht364981, ht364982, ht364983, ht364984, ht364985, ht364986, ht364987, ht364988, ht364989, ht364990, ht364991, ht364992, ht364993, ht364994, ht364995, ht364996, ht364997, ht364998, ht364999, hB365003⟩ := show rk_10 γ (F364942 q269917) from RS_o hT364943 htq269917
                                  refine Gp_get 1 hm364957 he364958 dr_cX17_graph_266 (gk_X17 D I) (Nat.le_of_ble_eq_true rfl) wr_7_75 rfl ?_
                                  refine G_iload 3 dr_cX17_graph_269 rfl ?_
                                  have hm365004 : (γ 9 1) ∈ P269915 := RS_m hT364943 ht364979 (by decide)
                                  obtain ⟨f365006, he365005, hg365007⟩ := show rk_13 I γ (F364942 (γ 9 1)) from RS_o hT364943 ht364979
                                  obtain ⟨q365008, hx365010⟩ : ∃ x, x = γ 11 o363759.toInt.toNat := ⟨_, rfl⟩
                                  have ht365009 : rKd γ q365008 36 := by rw [hx365010]; exact (hg365007 _ (show o363759.toInt.toNat < 2000 by omega)).2.1
                                  refine Gp_aald 5 hm365004 he365005 dr_cX17_graph_271 rfl rfl (gB_in bo363759' (by decide) (by decide)) ?_
                                  rw [show f365006 o363759.toNatClampNeg = some q365008 from (hg365007 _ (show o363759.toInt.toNat < 2000 by omega)).1.trans (by rw [hx365010])]
                                  change G _ _ _ _ _ _ _ (.ref q365008 :: _) _ _ _
                                  refine G_iload 3 dr_cX17_graph_272 rfl ?_
                                  have hm365011 : q365008 ∈ P269915 := RS_m hT364943 ht365009 (by decide)
                                  obtain ⟨f365013, he365012, wf365013⟩ := show rk_36 I (F364942 q365008) from RS_o hT364943 ht365009
                                  refine Gw_callS (As := [.ref q365008, .int o363759]) (gV_ok D I) (cp_1873_SpillForgeModel_clear l hl0 D I P269915 F364942 q365008 o363759 f365013 hm365011 he365012 bo363759' wf365013) dr_cX17_graph_274 ⟨wr_10_185, wr_1_14, wr_10_187, by decide, rfl, (Nat.le_of_ble_eq_true rfl), (Nat.le_of_ble_eq_true rfl)⟩ wr_10_186 (show 0 + 0 ≤ 0 by first | omega | decide) (show 0 + 0 ≤ 0 by first | omega | decide) (Nat.le_of_ble_eq_true rfl) (fun r365017 w365018 dc365014 ds365015 hp365016 => ?_) (fun _ _ _ _ _ z => z.elim)
                                  obtain ⟨F365021, f365019, rfl, rfl, hfr365023, he365024, hdc, hds, x365020⟩ := hp365016
                                  have he365025 : F365021 q269918 = .inr (18, [.ref q359279, .ref q359280, .int p359281, .int p359282]) := (hfr365023 q269918 hm359277 (nm_c (rn_oa he364947 he365012) nm_n)).trans he364947
                                  have he365026 : F365021 q359279 = .inr (4, [.int p360510, .ref q360512, .int p360511]) := (hfr365023 q359279 hm360508 (nm_c (rn_oa he364948 he365012) nm_n)).trans he364948
                                  have he365027 : F365021 q360512 = .inl (I (.object "java/lang/Object"), n360526, .inr (.inr (.inr (.inr f360527)))) := (hfr365023 q360512 hm360528 (nm_c (rn_ref_long he364949 he365012) nm_n)).trans he364949
                                  have he365028 : F365021 q360529 = .inr (17, [.ref q360538, .ref q360539, .int p360540, .int p360541]) := (hfr365023 q360529 hm360536 (nm_c (rn_oa he364950 he365012) nm_n)).trans he364950
                                  have he365029 : F365021 q360538 = .inr (4, [.int p363649, .ref q363651, .int p363650]) := (hfr365023 q360538 hm363647 (nm_c (rn_oa he364951 he365012) nm_n)).trans he364951
                                  have he365030 : F365021 q363651 = .inl (I (.object "java/lang/Object"), n363665, .inr (.inr (.inr (.inr f363666)))) := (hfr365023 q363651 hm363667 (nm_c (rn_ref_long he364952 he365012) nm_n)).trans he364952
                                  have he365031 : F365021 q363668 = .inr (20, [.int p363680, .int p363681, .int p363682, .int p363683, .int p363684, .int p363685, .int p363686]) := (hfr365023 q363668 hm363678 (nm_c (rn_oa he364953 he365012) nm_n)).trans he364953
                                  have he365032 : F365021 q269917 = .inr (22, [.ref (γ 9 0), .ref (γ 9 1), .ref (γ 9 2), .ref (γ 9 3), .ref (γ 9 4), .ref (γ 9 5), .ref (γ 9 6), .ref (γ 9 7), .ref (γ 9 8), .int p364961, .int p364962, .int p364963, .int p364964, .int p364965, .int p364966, .ref (γ 9 15), .ref (γ 9 16), .ref (γ 9 17), .ref (γ 9 18), .ref (γ 9 19), .ref (γ 9 20), .ref (γ 9 21), .ref (γ 9 22), .int p364967, .int p364968, .int p364969, .int p364970, .int p364971, .ref q364959, .ref (γ 9 29), .int p364972, .ref (γ 9 31), .int p364973, .int p364974, .int p364975, .ref q364960]) := (hfr365023 q269917 hm364957 (nm_c (rn_oa he364958 he365012) nm_n)).trans he364958
                                  have he365033 : F365021 (γ 9 1) = .inl (I (.array .long), 2000, .inr (.inr (.inr (.inr f365006)))) := (hfr365023 (γ 9 1) hm365004 (nm_c (rn_ref_long he365005 he365012) nm_n)).trans he365005
                                  have hfr365034 : rFr [q365008] P269915 F364942 F365021 := rFr_call (rSub_rf (P := P269915)) (rFr_rf (W := []) (P := P269915) (F := F364942)) hfr365023 (fun b hb hn => ⟨nm_n, (nm_c (fun e => hn (e ▸ List.mem_cons_self)) nm_n)⟩)
                                  change G _ _ _ _ _ _ _ _ _ _ _
                                  refine G_widen (cs' := 0) (sl' := 0) (by omega) (by omega) ?_
                                  have hT365035 : RS D I P269915 F365021 γ el := RS_fr hT364943 hfr365034 ht365009 (by decide) ⟨f365019, he365024, x365020⟩
                                  have hs365036 : rStr γ [] F269916 F365021 := rStr_fr hT364943 hs364944 hfr365034 ht365009 (by decide)
                                  refine G_aload_n 8 dr_cX17_graph_277 rfl ?_
                                  refine G_aload 4 dr_cX17_graph_278 rfl ?_
                                  refine G_iload_n 10 dr_cX17_graph_280 rfl ?_
                                  refine Gw_callV (As := [.ref q363668, .int p269919]) (gV_ok D I) (ct_3919_SpillForgeModel_back l hl0 D I γ el P269915 F365021 q269917 q363668 p269919 hT365035 htq269917 ht363671 (gB_w bp269919' (by decide) (by decide))) dr_cX17_graph_281 ⟨wr_10_174, wr_1_14, wr_10_177, by decide, rfl, (Nat.le_of_ble_eq_true rfl), (Nat.le_of_ble_eq_true rfl)⟩ wr_10_176 wr_p_96 hm364957 he365032 rfl (show 0 + 0 ≤ 0 by first | omega | decide) (show 0 + 0 ≤ 0 by first | omega | decide) (Nat.le_of_ble_eq_true rfl) (fun r365040 w365041 dc365037 ds365038 hp365039 => ?_) (fun _ _ _ _ _ z => z.elim)
                                  obtain ⟨F365042, rfl, rfl, hT365043, hs365044, hdc, hds⟩ := hp365039
                                  have he365045 : F365042 q269918 = .inr (18, [.ref q359279, .ref q359280, .int p359281, .int p359282]) := (hs365044 q269918 (rT0 htq269918 (by decide)) (rT1 htq269918 (by decide)) (rT2 htq269918 (by decide))).trans he365025
                                  have he365046 : F365042 q359279 = .inr (4, [.int p360510, .ref q360512, .int p360511]) := (hs365044 q359279 (rT0 ht359283 (by decide)) (rT1 ht359283 (by decide)) (rT2 ht359283 (by decide))).trans he365026
                                  have he365047 : F365042 q360512 = .inl (I (.object "java/lang/Object"), n360526, .inr (.inr (.inr (.inr f360527)))) := (hs365044 q360512 (rT0 r360518 (by decide)) (rT1 r360518 (by decide)) (rT2 r360518 (by decide))).trans he365027
                                  have he365048 : F365042 q360529 = .inr (17, [.ref q360538, .ref q360539, .int p360540, .int p360541]) := (hs365044 q360529 (rT0 ht360534 (by decide)) (rT1 ht360534 (by decide)) (rT2 ht360534 (by decide))).trans he365028
                                  have he365049 : F365042 q360538 = .inr (4, [.int p363649, .ref q363651, .int p363650]) := (hs365044 q360538 (rT0 ht360542 (by decide)) (rT1 ht360542 (by decide)) (rT2 ht360542 (by decide))).trans he365029
                                  have he365050 : F365042 q363651 = .inl (I (.object "java/lang/Object"), n363665, .inr (.inr (.inr (.inr f363666)))) := (hs365044 q363651 (rT0 r363657 (by decide)) (rT1 r363657 (by decide)) (rT2 r363657 (by decide))).trans he365030
                                  have he365051 : F365042 q363668 = .inr (20, [.int p363680, .int p363681, .int p363682, .int p363683, .int p363684, .int p363685, .int p363686]) := (hs365044 q363668 (rT0 ht363671 (by decide)) (rT1 ht363671 (by decide)) (rT2 ht363671 (by decide))).trans he365031
                                  have hs365052 : rStr γ [] F269916 F365042 := rStr_tr hs365036 hs365044
                                  change G _ _ _ _ _ _ _ _ _ _ _
                                  refine G_widen (cs' := 0) (sl' := 0) (by omega) (by omega) ?_
                                  obtain ⟨z365053, hz365053⟩ : ∃ z : Int32, z = g363629 + Int32.ofInt (-1) := ⟨_, rfl⟩
                                  have ez365053 : z365053.toInt = g363629.toInt + (-1) := gI_inc hz365053 (by decide) bg363629' (by decide) (by decide)
                                  have bz365053 : gB z365053 (-1) 999998 := ⟨by omega, by omega⟩
                                  refine G_iinc (L' := [(5, .int z365053), (10, .int g364941), (9, .int 0), (8, .int (-1)), (7, .int o363759), (6, .ref q363668), (4, .ref q360529), (3, .int g359270), (0, .ref q269917), (1, .ref q269918), (2, .int p269919)]) z365053 5 dr_cX17_graph_284 rfl hz365053.symm (Nat.le_of_ble_eq_true rfl) rfl ?_
                                  refine G_goto 109 dr_cX17_graph_287 (by decide +kernel) ?_
                                  refine G_lv (L' := [(5, .int z365053), (4, .ref q360529), (3, .int g359270), (0, .ref q269917), (1, .ref q269918), (2, .int p269919)]) [0, 6, 7, 8, 9, 10] rfl ?_
                                  exact ih109_363633 F365042 z365053 (gB_w bz365053 (by decide) (by decide)) hT365043 hs365052 (by omega) (by omega)
                                · have r365054 : g364941.toInt < 32 := gj_nleL hc364955 (show Int32.toInt 32 = 32 by decide)
                                  have bg364941' : gB g364941 0 31 := ⟨by omega, by omega⟩
                                  refine G_aload_n 8 dr_cX17_graph_217 rfl ?_
                                  have hm365055 : q269917 ∈ P269915 := RS_m hT364943 htq269917 (by decide)
                                  obtain ⟨q365057, q365058, p365059, p365060, p365061, p365062, p365063, p365064, p365065, p365066, p365067, p365068, p365069, p365070, p365071, p365072, p365073, he365056, hB365100, ht365074, ht365075, ht365076, ht365077, ht365078, ht365079, ht365080, ht365081, ht365082, ht365083, ht365084, ht365085, ht365086, ht365087, ht365088, ht365089, ht365090, ht365091, ht365092, ht365093, ht365094, ht365095, ht365096, ht365097, hB365101⟩ := show rk_10 γ (F364942 q269917) from RS_o hT364943 htq269917
                                  refine Gp_get 1 hm365055 he365056 dr_cX17_graph_218 (gk_X17 D I) (Nat.le_of_ble_eq_true rfl) wr_7_75 rfl ?_
                                  refine G_iload 3 dr_cX17_graph_221 rfl ?_
                                  have hm365102 : (γ 9 1) ∈ P269915 := RS_m hT364943 ht365077 (by decide)
                                  obtain ⟨f365104, he365103, hg365105⟩ := show rk_13 I γ (F364942 (γ 9 1)) from RS_o hT364943 ht365077
                                  obtain ⟨q365106, hx365108⟩ : ∃ x, x = γ 11 o363759.toInt.toNat := ⟨_, rfl⟩
                                  have ht365107 : rKd γ q365106 36 := by rw [hx365108]; exact (hg365105 _ (show o363759.toInt.toNat < 2000 by omega)).2.1
                                  refine Gp_aald 5 hm365102 he365103 dr_cX17_graph_223 rfl rfl (gB_in bo363759' (by decide) (by decide)) ?_
                                  rw [show f365104 o363759.toNatClampNeg = some q365106 from (hg365105 _ (show o363759.toInt.toNat < 2000 by omega)).1.trans (by rw [hx365108])]
                                  change G _ _ _ _ _ _ _ (.ref q365106 :: _) _ _ _
                                  refine G_iload 0 dr_cX17_graph_224 rfl ?_
                                  refine G_dup2_11 dr_cX17_graph_226 rfl rfl ?_
                                  have hm365109 : q365106 ∈ P269915 := RS_m hT364943 ht365107 (by decide)
                                  obtain ⟨f365111, he365110, wf365111⟩ := show rk_36 I (F364942 q365106) from RS_o hT364943 ht365107
                                  refine Gp_lald 2 hm365109 he365110 dr_cX17_graph_227 rfl (gB_in bg364941' (by decide) (by decide)) (G_namL fun u365112 hu365112 => ?_)
                                  have qu365112 : lb_Q u365112 (2000 - 64 * g364941.toInt) := lb_Wld hu365112 wf365111 (by omega) (by omega) (lb_Mod0 (by omega) (by omega))
                                  refine G_aload_n 8 dr_cX17_graph_228 rfl ?_
                                  refine Gp_get 2 hm365055 he365056 dr_cX17_graph_229 (gk_X17 D I) (Nat.le_of_ble_eq_true rfl) wr_7_76 rfl ?_
                                  refine G_iload 0 dr_cX17_graph_232 rfl ?_
                                  have hm365113 : (γ 9 2) ∈ P269915 := RS_m hT364943 ht365078 (by decide)
                                  obtain ⟨f365115, he365114, wf365115⟩ := show rk_35 I (F364942 (γ 9 2)) from RS_o hT364943 ht365078
                                  refine Gp_lald 2 hm365113 he365114 dr_cX17_graph_234 rfl (gB_in bg364941' (by decide) (by decide)) (G_namL fun u365116 hu365116 => ?_)
                                  have qu365116 : lb_Q u365116 (2000 - 64 * g364941.toInt) := lb_Wld hu365116 wf365115 (by omega) (by omega) (lb_Mod0 (by omega) (by omega))
                                  refine G_lor dr_cX17_graph_235 (G_namL fun u365117 hu365117 => ?_)
                                  have qu365117 : lb_Q u365117 (2000 - 64 * g364941.toInt) := lb_Qor hu365117 qu365112 qu365116
                                  refine Gp_last 2 hm365109 he365110 dr_cX17_graph_236 rfl (gB_in bg364941' (by decide) (by decide)) (fun F365118 e365119 n365120 => ?_)
                                  obtain ⟨f365121, hf365121⟩ : ∃ z, z = vp_updL f365111 g364941.toNatClampNeg u365117 := ⟨_, rfl⟩
                                  rw [← hf365121] at e365119
                                  have he365122 : F365118 q269918 = .inr (18, [.ref q359279, .ref q359280, .int p359281, .int p359282]) := (n365120 q269918 (rn_oa he364947 he365110)).trans he364947
                                  have he365123 : F365118 q359279 = .inr (4, [.int p360510, .ref q360512, .int p360511]) := (n365120 q359279 (rn_oa he364948 he365110)).trans he364948
                                  have he365124 : F365118 q360512 = .inl (I (.object "java/lang/Object"), n360526, .inr (.inr (.inr (.inr f360527)))) := (n365120 q360512 (rn_ref_long he364949 he365110)).trans he364949
                                  have he365125 : F365118 q360529 = .inr (17, [.ref q360538, .ref q360539, .int p360540, .int p360541]) := (n365120 q360529 (rn_oa he364950 he365110)).trans he364950
                                  have he365126 : F365118 q360538 = .inr (4, [.int p363649, .ref q363651, .int p363650]) := (n365120 q360538 (rn_oa he364951 he365110)).trans he364951
                                  have he365127 : F365118 q363651 = .inl (I (.object "java/lang/Object"), n363665, .inr (.inr (.inr (.inr f363666)))) := (n365120 q363651 (rn_ref_long he364952 he365110)).trans he364952
                                  have he365128 : F365118 q363668 = .inr (20, [.int p363680, .int p363681, .int p363682, .int p363683, .int p363684, .int p363685, .int p363686]) := (n365120 q363668 (rn_oa he364953 he365110)).trans he364953
                                  have he365129 : F365118 q269917 = .inr (22, [.ref (γ 9 0), .ref (γ 9 1), .ref (γ 9 2), .ref (γ 9 3), .ref (γ 9 4), .ref (γ 9 5), .ref (γ 9 6), .ref (γ 9 7), .ref (γ 9 8), .int p365059, .int p365060, .int p365061, .int p365062, .int p365063, .int p365064, .ref (γ 9 15), .ref (γ 9 16), .ref (γ 9 17), .ref (γ 9 18), .ref (γ 9 19), .ref (γ 9 20), .ref (γ 9 21), .ref (γ 9 22), .int p365065, .int p365066, .int p365067, .int p365068, .int p365069, .ref q365057, .ref (γ 9 29), .int p365070, .ref (γ 9 31), .int p365071, .int p365072, .int p365073, .ref q365058]) := (n365120 q269917 (rn_oa he365056 he365110)).trans he365056
                                  have he365130 : F365118 (γ 9 1) = .inl (I (.array .long), 2000, .inr (.inr (.inr (.inr f365104)))) := (n365120 (γ 9 1) (rn_ref_long he365103 he365110)).trans he365103
                                  have he365131 : F365118 (γ 9 2) = .inl (I .long, 32, .inr (.inl f365115)) := (n365120 (γ 9 2) (rn_ty ht365078 ht365107 (by decide))).trans he365114
                                  have he365132 : F365118 q365106 = .inl (I .long, 32, .inr (.inl f365121)) := e365119
                                  have hs365133 : rStr γ [] F269916 F365118 := rStr_put hs364944 n365120 ht365107 (by decide)
                                  have wf365121 : lb_W f365121 (32) (32) (2000) := lb_Wst hf365121 wf365111 (by omega) (lb_Mod0 (by omega) (by omega)) qu365117
                                  obtain ⟨z365134, hz365134⟩ : ∃ z : Int32, z = g364941 + Int32.ofInt 1 := ⟨_, rfl⟩
                                  have ez365134 : z365134.toInt = g364941.toInt + 1 := gI_inc hz365134 (by decide) bg364941' (by decide) (by decide)
                                  have bz365134 : gB z365134 1 32 := ⟨by omega, by omega⟩
                                  refine G_iinc (L' := [(10, .int z365134), (9, .int 0), (8, .int (-1)), (7, .int o363759), (6, .ref q363668), (5, .int g363629), (4, .ref q360529), (3, .int g359270), (0, .ref q269917), (1, .ref q269918), (2, .int p269919)]) z365134 0 dr_cX17_graph_237 rfl hz365134.symm (Nat.le_of_ble_eq_true rfl) rfl ?_
                                  refine G_goto 210 dr_cX17_graph_240 (by decide +kernel) ?_
                                  have hT365135 : RS D I P269915 F365118 γ el := RS_set hT364943 n365120 ht365107 (by decide) ⟨f365121, he365132, wf365121⟩
                                  exact ih210_364944 F365118 z365134 (gB_w bz365134 (by decide) (by decide)) hT365135 hs365133 (by have qa0 : Int32.toInt (-1) = (-1) := (by decide); have qa1 : Int32.toInt 0 = 0 := (by decide); omega)
                            exact hlp210_364944 (((33 : Int) - 0).toNat + 1) F363743 0 (gB_w (gBl (show Int32.toInt 0 = 0 by decide)) (by decide) (by decide)) hT363744 hs363753 (Nat.lt_succ_self _)
                        · have r365136 : p363685.toInt ≠ 0 := gj_neq hc364678 (show Int32.toInt 0 = 0 by decide)
                          have bp363685' : gB p363685 1 1 := ⟨by omega, by omega⟩
                          refine G_aload 1 dr_cX17_graph_164 rfl ?_
                          refine Gp_get 2 hm363678 he363752 dr_cX17_graph_166 (gk_X15 D I) (Nat.le_of_ble_eq_true rfl) wr_9_186 rfl ?_
                          refine G_goto 173 dr_cX17_graph_169 (by decide +kernel) ?_
                          refine G_istore (L' := [(8, .int p363682), (7, .int o363759), (6, .ref q363668), (5, .int g363629), (4, .ref q360529), (3, .int g359270), (0, .ref q269917), (1, .ref q269918), (2, .int p269919)]) dr_cX17_graph_173 (Nat.le_of_ble_eq_true rfl) rfl ?_
                          refine G_iload 1 dr_cX17_graph_175 rfl ?_
                          refine G_if_lt 277 dr_cX17_graph_177 (by decide +kernel) (fun hc365137 => ?_) (fun hc365137 => ?_)
                          · have r365138 : o363759.toInt < 0 := gj_lt hc365137 (show Int32.toInt 0 = 0 by decide)
                            have bo363759' : gB o363759 (-1) (-1) := ⟨by omega, by omega⟩
                            refine G_aload_n 6 dr_cX17_graph_277 rfl ?_
                            refine G_aload 2 dr_cX17_graph_278 rfl ?_
                            refine G_iload_n 8 dr_cX17_graph_280 rfl ?_
                            have hm365144 : q269917 ∈ P269915 := RS_m hT363744 htq269917 (by decide)
                            obtain ⟨q365146, q365147, p365148, p365149, p365150, p365151, p365152, p365153, p365154, p365155, p365156, p365157, p365158, p365159, p365160, p365161, p365162, he365145, hB365189, ht365163, ht365164, ht365165, ht365166, ht365167, ht365168, ht365169, ht365170, ht365171, ht365172, ht365173, ht365174, ht365175, ht365176, ht365177, ht365178, ht365179, ht365180, ht365181, ht365182, ht365183, ht365184, ht365185, ht365186, hB365190⟩ := show rk_10 γ (F363743 q269917) from RS_o hT363744 htq269917
                            refine Gw_callV (As := [.ref q363668, .int p269919]) (gV_ok D I) (ct_3919_SpillForgeModel_back l hl0 D I γ el P269915 F363743 q269917 q363668 p269919 hT363744 htq269917 ht363671 (gB_w bp269919' (by decide) (by decide))) dr_cX17_graph_281 ⟨wr_10_174, wr_1_14, wr_10_177, by decide, rfl, (Nat.le_of_ble_eq_true rfl), (Nat.le_of_ble_eq_true rfl)⟩ wr_10_176 wr_p_96 hm365144 he365145 rfl (show 0 + 0 ≤ 0 by first | omega | decide) (show 0 + 0 ≤ 0 by first | omega | decide) (Nat.le_of_ble_eq_true rfl) (fun r365142 w365143 dc365139 ds365140 hp365141 => ?_) (fun _ _ _ _ _ z => z.elim)
                            obtain ⟨F365191, rfl, rfl, hT365192, hs365193, hdc, hds⟩ := hp365141
                            have he365194 : F365191 q269918 = .inr (18, [.ref q359279, .ref q359280, .int p359281, .int p359282]) := (hs365193 q269918 (rT0 htq269918 (by decide)) (rT1 htq269918 (by decide)) (rT2 htq269918 (by decide))).trans he363746
                            have he365195 : F365191 q359279 = .inr (4, [.int p360510, .ref q360512, .int p360511]) := (hs365193 q359279 (rT0 ht359283 (by decide)) (rT1 ht359283 (by decide)) (rT2 ht359283 (by decide))).trans he363747
                            have he365196 : F365191 q360512 = .inl (I (.object "java/lang/Object"), n360526, .inr (.inr (.inr (.inr f360527)))) := (hs365193 q360512 (rT0 r360518 (by decide)) (rT1 r360518 (by decide)) (rT2 r360518 (by decide))).trans he363748
                            have he365197 : F365191 q360529 = .inr (17, [.ref q360538, .ref q360539, .int p360540, .int p360541]) := (hs365193 q360529 (rT0 ht360534 (by decide)) (rT1 ht360534 (by decide)) (rT2 ht360534 (by decide))).trans he363749
                            have he365198 : F365191 q360538 = .inr (4, [.int p363649, .ref q363651, .int p363650]) := (hs365193 q360538 (rT0 ht360542 (by decide)) (rT1 ht360542 (by decide)) (rT2 ht360542 (by decide))).trans he363750
                            have he365199 : F365191 q363651 = .inl (I (.object "java/lang/Object"), n363665, .inr (.inr (.inr (.inr f363666)))) := (hs365193 q363651 (rT0 r363657 (by decide)) (rT1 r363657 (by decide)) (rT2 r363657 (by decide))).trans he363751
                            have he365200 : F365191 q363668 = .inr (20, [.int p363680, .int p363681, .int p363682, .int p363683, .int p363684, .int p363685, .int p363686]) := (hs365193 q363668 (rT0 ht363671 (by decide)) (rT1 ht363671 (by decide)) (rT2 ht363671 (by decide))).trans he363752
                            have hs365201 : rStr γ [] F269916 F365191 := rStr_tr hs363753 hs365193
                            change G _ _ _ _ _ _ _ _ _ _ _
                            refine G_widen (cs' := 0) (sl' := 0) (by omega) (by omega) ?_
                            obtain ⟨z365202, hz365202⟩ : ∃ z : Int32, z = g363629 + Int32.ofInt (-1) := ⟨_, rfl⟩
                            have ez365202 : z365202.toInt = g363629.toInt + (-1) := gI_inc hz365202 (by decide) bg363629' (by decide) (by decide)
                            have bz365202 : gB z365202 (-1) 999998 := ⟨by omega, by omega⟩
                            refine G_iinc (L' := [(5, .int z365202), (8, .int p363682), (7, .int o363759), (6, .ref q363668), (4, .ref q360529), (3, .int g359270), (0, .ref q269917), (1, .ref q269918), (2, .int p269919)]) z365202 3 dr_cX17_graph_284 rfl hz365202.symm (Nat.le_of_ble_eq_true rfl) rfl ?_
                            refine G_goto 109 dr_cX17_graph_287 (by decide +kernel) ?_
                            refine G_lv (L' := [(5, .int z365202), (4, .ref q360529), (3, .int g359270), (0, .ref q269917), (1, .ref q269918), (2, .int p269919)]) [0, 4, 5, 6, 7, 8] rfl ?_
                            exact ih109_363633 F365191 z365202 (gB_w bz365202 (by decide) (by decide)) hT365192 hs365201 (by omega) (by omega)
                          · have r365203 : 0 ≤ o363759.toInt := gj_nlt hc365137 (show Int32.toInt 0 = 0 by decide)
                            have bo363759' : gB o363759 0 1999 := ⟨by omega, by omega⟩
                            refine G_iload 0 dr_cX17_graph_180 rfl ?_
                            refine G_if_lt 204 dr_cX17_graph_182 (by decide +kernel) (fun hc365204 => ?_) (fun hc365204 => ?_)
                            · have r365205 : p363682.toInt < 0 := gj_lt hc365204 (show Int32.toInt 0 = 0 by decide)
                              have bp363682' : gB p363682 (-2147483648) (-1) := ⟨by omega, by omega⟩
                              refine G_iconst 0 dr_cX17_graph_204 (by decide +kernel) ?_
                              refine G_istore (L' := [(9, .int 0), (8, .int p363682), (7, .int o363759), (6, .ref q363668), (5, .int g363629), (4, .ref q360529), (3, .int g359270), (0, .ref q269917), (1, .ref q269918), (2, .int p269919)]) dr_cX17_graph_205 (Nat.le_of_ble_eq_true rfl) rfl ?_
                              refine G_iconst 0 dr_cX17_graph_207 (by decide +kernel) ?_
                              refine G_istore (L' := [(10, .int 0), (9, .int 0), (8, .int p363682), (7, .int o363759), (6, .ref q363668), (5, .int g363629), (4, .ref q360529), (3, .int g359270), (0, .ref q269917), (1, .ref q269918), (2, .int p269919)]) dr_cX17_graph_208 (Nat.le_of_ble_eq_true rfl) rfl ?_
                              have hlp210_365403 : ∀ (n210_365403 : Nat) (F365401 : Nat → va_E) (g365400 : Int32), gB g365400 0 32 → RS D I P269915 F365401 γ el → rStr γ [] F269916 F365401 → ((33 : Int) - g365400.toInt).toNat < n210_365403 → G (gV D I) l (gRm 5 111 0 0) (gMA (gV D I) (pt_269921_SpillForgeModel_graph D I γ el P269915 F269916 q269917 q269918 p269919) gNA 0 0) ky_269921_SpillForgeModel_graph 210 [(10, .int g365400), (9, .int 0), (8, .int p363682), (7, .int o363759), (6, .ref q363668), (5, .int g363629), (4, .ref q360529), (3, .int g359270), (0, .ref q269917), (1, .ref q269918), (2, .int p269919)] [] (va_pl P269915 F365401) 0 0 := by
                                intro n210_365403
                                induction n210_365403 with
                                | zero => intro F365401 g365400 bg365400 hT365402 hs365403 hm210_365403; exact absurd hm210_365403 (Nat.not_lt_zero _)
                                | succ n210_365403 ih210_365403 =>
                                  intro F365401 g365400 bg365400 hT365402 hs365403 hm210_365403
                                  have hs365405 : rStr γ [] F363743 F365401 := fun b h0 hb hw => (hs365403 b h0 hb hw).trans (hs363753 b h0 hb hw).symm
                                  have he365406 : F365401 q269918 = .inr (18, [.ref q359279, .ref q359280, .int p359281, .int p359282]) := (hs365405 q269918 (rT0 htq269918 (by decide)) (rT1 htq269918 (by decide)) (rT2 htq269918 (by decide))).trans he363746
                                  have he365407 : F365401 q359279 = .inr (4, [.int p360510, .ref q360512, .int p360511]) := (hs365405 q359279 (rT0 ht359283 (by decide)) (rT1 ht359283 (by decide)) (rT2 ht359283 (by decide))).trans he363747
                                  have he365408 : F365401 q360512 = .inl (I (.object "java/lang/Object"), n360526, .inr (.inr (.inr (.inr f360527)))) := (hs365405 q360512 (rT0 r360518 (by decide)) (rT1 r360518 (by decide)) (rT2 r360518 (by decide))).trans he363748
                                  have he365409 : F365401 q360529 = .inr (17, [.ref q360538, .ref q360539, .int p360540, .int p360541]) := (hs365405 q360529 (rT0 ht360534 (by decide)) (rT1 ht360534 (by decide)) (rT2 ht360534 (by decide))).trans he363749
                                  have he365410 : F365401 q360538 = .inr (4, [.int p363649, .ref q363651, .int p363650]) := (hs365405 q360538 (rT0 ht360542 (by decide)) (rT1 ht360542 (by decide)) (rT2 ht360542 (by decide))).trans he363750
                                  have he365411 : F365401 q363651 = .inl (I (.object "java/lang/Object"), n363665, .inr (.inr (.inr (.inr f363666)))) := (hs365405 q363651 (rT0 r363657 (by decide)) (rT1 r363657 (by decide)) (rT2 r363657 (by decide))).trans he363751
                                  have he365412 : F365401 q363668 = .inr (20, [.int p363680, .int p363681, .int p363682, .int p363683, .int p363684, .int p363685, .int p363686]) := (hs365405 q363668 (rT0 ht363671 (by decide)) (rT1 ht363671 (by decide)) (rT2 ht363671 (by decide))).trans he363752
                                  have hs365413 : rStr γ [] F269916 F365401 := rStr_tr hs363753 hs365405
                                  refine G_iload 0 dr_cX17_graph_210 rfl ?_
                                  refine G_bipush 32 dr_cX17_graph_212 (by decide +kernel) ?_
                                  refine G_icmp_ge 243 dr_cX17_graph_214 (by decide +kernel) (fun hc365414 => ?_) (fun hc365414 => ?_)
                                  · have r365415 : 32 ≤ g365400.toInt := gj_leL hc365414 (show Int32.toInt 32 = 32 by decide)
                                    have bg365400' : gB g365400 32 32 := ⟨by omega, by omega⟩
                                    refine G_iload 2 dr_cX17_graph_243 rfl ?_
                                    refine G_if_lt 265 dr_cX17_graph_245 (by decide +kernel) (fun _ => ?_) (fun hc => absurd (show False by have := gj_nlt hc (show Int32.toInt 0 = 0 by decide); omega) not_false)
                                    refine G_aload_n 8 dr_cX17_graph_265 rfl ?_
                                    have hm365416 : q269917 ∈ P269915 := RS_m hT365402 htq269917 (by decide)
                                    obtain ⟨q365418, q365419, p365420, p365421, p365422, p365423, p365424, p365425, p365426, p365427, p365428, p365429, p365430, p365431, p365432, p365433, p365434, he365417, hB365461, ht365435, ht365436, ht365437, ht365438, ht365439, ht365440, ht365441, ht365442, ht365443, ht365444, ht365445, ht365446, ht365447, ht365448, ht365449, ht365450, ht365451, ht365452, ht365453, ht365454, ht365455, ht365456, ht365457, ht365458, hB365462⟩ := show rk_10 γ (F365401 q269917) from RS_o hT365402 htq269917
                                    refine Gp_get 1 hm365416 he365417 dr_cX17_graph_266 (gk_X17 D I) (Nat.le_of_ble_eq_true rfl) wr_7_75 rfl ?_
                                    refine G_iload 3 dr_cX17_graph_269 rfl ?_
                                    have hm365463 : (γ 9 1) ∈ P269915 := RS_m hT365402 ht365438 (by decide)
                                    obtain ⟨f365465, he365464, hg365466⟩ := show rk_13 I γ (F365401 (γ 9 1)) from RS_o hT365402 ht365438
                                    obtain ⟨q365467, hx365469⟩ : ∃ x, x = γ 11 o363759.toInt.toNat := ⟨_, rfl⟩
                                    have ht365468 : rKd γ q365467 36 := by rw [hx365469]; exact (hg365466 _ (show o363759.toInt.toNat < 2000 by omega)).2.1
                                    refine Gp_aald 5 hm365463 he365464 dr_cX17_graph_271 rfl rfl (gB_in bo363759' (by decide) (by decide)) ?_
                                    rw [show f365465 o363759.toNatClampNeg = some q365467 from (hg365466 _ (show o363759.toInt.toNat < 2000 by omega)).1.trans (by rw [hx365469])]
                                    change G _ _ _ _ _ _ _ (.ref q365467 :: _) _ _ _
                                    refine G_iload 3 dr_cX17_graph_272 rfl ?_
                                    have hm365470 : q365467 ∈ P269915 := RS_m hT365402 ht365468 (by decide)
                                    obtain ⟨f365472, he365471, wf365472⟩ := show rk_36 I (F365401 q365467) from RS_o hT365402 ht365468
                                    refine Gw_callS (As := [.ref q365467, .int o363759]) (gV_ok D I) (cp_1873_SpillForgeModel_clear l hl0 D I P269915 F365401 q365467 o363759 f365472 hm365470 he365471 bo363759' wf365472) dr_cX17_graph_274 ⟨wr_10_185, wr_1_14, wr_10_187, by decide, rfl, (Nat.le_of_ble_eq_true rfl), (Nat.le_of_ble_eq_true rfl)⟩ wr_10_186 (show 0 + 0 ≤ 0 by first | omega | decide) (show 0 + 0 ≤ 0 by first | omega | decide) (Nat.le_of_ble_eq_true rfl) (fun r365476 w365477 dc365473 ds365474 hp365475 => ?_) (fun _ _ _ _ _ z => z.elim)
                                    obtain ⟨F365480, f365478, rfl, rfl, hfr365482, he365483, hdc, hds, x365479⟩ := hp365475
                                    have he365484 : F365480 q269918 = .inr (18, [.ref q359279, .ref q359280, .int p359281, .int p359282]) := (hfr365482 q269918 hm359277 (nm_c (rn_oa he365406 he365471) nm_n)).trans he365406
                                    have he365485 : F365480 q359279 = .inr (4, [.int p360510, .ref q360512, .int p360511]) := (hfr365482 q359279 hm360508 (nm_c (rn_oa he365407 he365471) nm_n)).trans he365407
                                    have he365486 : F365480 q360512 = .inl (I (.object "java/lang/Object"), n360526, .inr (.inr (.inr (.inr f360527)))) := (hfr365482 q360512 hm360528 (nm_c (rn_ref_long he365408 he365471) nm_n)).trans he365408
                                    have he365487 : F365480 q360529 = .inr (17, [.ref q360538, .ref q360539, .int p360540, .int p360541]) := (hfr365482 q360529 hm360536 (nm_c (rn_oa he365409 he365471) nm_n)).trans he365409
                                    have he365488 : F365480 q360538 = .inr (4, [.int p363649, .ref q363651, .int p363650]) := (hfr365482 q360538 hm363647 (nm_c (rn_oa he365410 he365471) nm_n)).trans he365410
                                    have he365489 : F365480 q363651 = .inl (I (.object "java/lang/Object"), n363665, .inr (.inr (.inr (.inr f363666)))) := (hfr365482 q363651 hm363667 (nm_c (rn_ref_long he365411 he365471) nm_n)).trans he365411
                                    have he365490 : F365480 q363668 = .inr (20, [.int p363680, .int p363681, .int p363682, .int p363683, .int p363684, .int p363685, .int p363686]) := (hfr365482 q363668 hm363678 (nm_c (rn_oa he365412 he365471) nm_n)).trans he365412
                                    have he365491 : F365480 q269917 = .inr (22, [.ref (γ 9 0), .ref (γ 9 1), .ref (γ 9 2), .ref (γ 9 3), .ref (γ 9 4), .ref (γ 9 5), .ref (γ 9 6), .ref (γ 9 7), .ref (γ 9 8), .int p365420, .int p365421, .int p365422, .int p365423, .int p365424, .int p365425, .ref (γ 9 15), .ref (γ 9 16), .ref (γ 9 17), .ref (γ 9 18), .ref (γ 9 19), .ref (γ 9 20), .ref (γ 9 21), .ref (γ 9 22), .int p365426, .int p365427, .int p365428, .int p365429, .int p365430, .ref q365418, .ref (γ 9 29), .int p365431, .ref (γ 9 31), .int p365432, .int p365433, .int p365434, .ref q365419]) := (hfr365482 q269917 hm365416 (nm_c (rn_oa he365417 he365471) nm_n)).trans he365417
                                    have he365492 : F365480 (γ 9 1) = .inl (I (.array .long), 2000, .inr (.inr (.inr (.inr f365465)))) := (hfr365482 (γ 9 1) hm365463 (nm_c (rn_ref_long he365464 he365471) nm_n)).trans he365464
                                    have hfr365493 : rFr [q365467] P269915 F365401 F365480 := rFr_call (rSub_rf (P := P269915)) (rFr_rf (W := []) (P := P269915) (F := F365401)) hfr365482 (fun b hb hn => ⟨nm_n, (nm_c (fun e => hn (e ▸ List.mem_cons_self)) nm_n)⟩)
                                    change G _ _ _ _ _ _ _ _ _ _ _
                                    refine G_widen (cs' := 0) (sl' := 0) (by omega) (by omega) ?_
                                    have hT365494 : RS D I P269915 F365480 γ el := RS_fr hT365402 hfr365493 ht365468 (by decide) ⟨f365478, he365483, x365479⟩
                                    have hs365495 : rStr γ [] F269916 F365480 := rStr_fr hT365402 hs365403 hfr365493 ht365468 (by decide)
                                    refine G_aload_n 8 dr_cX17_graph_277 rfl ?_
                                    refine G_aload 4 dr_cX17_graph_278 rfl ?_
                                    refine G_iload_n 10 dr_cX17_graph_280 rfl ?_
                                    refine Gw_callV (As := [.ref q363668, .int p269919]) (gV_ok D I) (ct_3919_SpillForgeModel_back l hl0 D I γ el P269915 F365480 q269917 q363668 p269919 hT365494 htq269917 ht363671 (gB_w bp269919' (by decide) (by decide))) dr_cX17_graph_281 ⟨wr_10_174, wr_1_14, wr_10_177, by decide, rfl, (Nat.le_of_ble_eq_true rfl), (Nat.le_of_ble_eq_true rfl)⟩ wr_10_176 wr_p_96 hm365416 he365491 rfl (show 0 + 0 ≤ 0 by first | omega | decide) (show 0 + 0 ≤ 0 by first | omega | decide) (Nat.le_of_ble_eq_true rfl) (fun r365499 w365500 dc365496 ds365497 hp365498 => ?_) (fun _ _ _ _ _ z => z.elim)
                                    obtain ⟨F365501, rfl, rfl, hT365502, hs365503, hdc, hds⟩ := hp365498
                                    have he365504 : F365501 q269918 = .inr (18, [.ref q359279, .ref q359280, .int p359281, .int p359282]) := (hs365503 q269918 (rT0 htq269918 (by decide)) (rT1 htq269918 (by decide)) (rT2 htq269918 (by decide))).trans he365484
                                    have he365505 : F365501 q359279 = .inr (4, [.int p360510, .ref q360512, .int p360511]) := (hs365503 q359279 (rT0 ht359283 (by decide)) (rT1 ht359283 (by decide)) (rT2 ht359283 (by decide))).trans he365485
                                    have he365506 : F365501 q360512 = .inl (I (.object "java/lang/Object"), n360526, .inr (.inr (.inr (.inr f360527)))) := (hs365503 q360512 (rT0 r360518 (by decide)) (rT1 r360518 (by decide)) (rT2 r360518 (by decide))).trans he365486
                                    have he365507 : F365501 q360529 = .inr (17, [.ref q360538, .ref q360539, .int p360540, .int p360541]) := (hs365503 q360529 (rT0 ht360534 (by decide)) (rT1 ht360534 (by decide)) (rT2 ht360534 (by decide))).trans he365487
                                    have he365508 : F365501 q360538 = .inr (4, [.int p363649, .ref q363651, .int p363650]) := (hs365503 q360538 (rT0 ht360542 (by decide)) (rT1 ht360542 (by decide)) (rT2 ht360542 (by decide))).trans he365488
                                    have he365509 : F365501 q363651 = .inl (I (.object "java/lang/Object"), n363665, .inr (.inr (.inr (.inr f363666)))) := (hs365503 q363651 (rT0 r363657 (by decide)) (rT1 r363657 (by decide)) (rT2 r363657 (by decide))).trans he365489
                                    have he365510 : F365501 q363668 = .inr (20, [.int p363680, .int p363681, .int p363682, .int p363683, .int p363684, .int p363685, .int p363686]) := (hs365503 q363668 (rT0 ht363671 (by decide)) (rT1 ht363671 (by decide)) (rT2 ht363671 (by decide))).trans he365490
                                    have hs365511 : rStr γ [] F269916 F365501 := rStr_tr hs365495 hs365503
                                    change G _ _ _ _ _ _ _ _ _ _ _
                                    refine G_widen (cs' := 0) (sl' := 0) (by omega) (by omega) ?_
                                    obtain ⟨z365512, hz365512⟩ : ∃ z : Int32, z = g363629 + Int32.ofInt (-1) := ⟨_, rfl⟩
                                    have ez365512 : z365512.toInt = g363629.toInt + (-1) := gI_inc hz365512 (by decide) bg363629' (by decide) (by decide)
                                    have bz365512 : gB z365512 (-1) 999998 := ⟨by omega, by omega⟩
                                    refine G_iinc (L' := [(5, .int z365512), (10, .int g365400), (9, .int 0), (8, .int p363682), (7, .int o363759), (6, .ref q363668), (4, .ref q360529), (3, .int g359270), (0, .ref q269917), (1, .ref q269918), (2, .int p269919)]) z365512 5 dr_cX17_graph_284 rfl hz365512.symm (Nat.le_of_ble_eq_true rfl) rfl ?_
                                    refine G_goto 109 dr_cX17_graph_287 (by decide +kernel) ?_
                                    refine G_lv (L' := [(5, .int z365512), (4, .ref q360529), (3, .int g359270), (0, .ref q269917), (1, .ref q269918), (2, .int p269919)]) [0, 6, 7, 8, 9, 10] rfl ?_
                                    exact ih109_363633 F365501 z365512 (gB_w bz365512 (by decide) (by decide)) hT365502 hs365511 (by omega) (by omega)
                                  · have r365513 : g365400.toInt < 32 := gj_nleL hc365414 (show Int32.toInt 32 = 32 by decide)
                                    have bg365400' : gB g365400 0 31 := ⟨by omega, by omega⟩
                                    refine G_aload_n 8 dr_cX17_graph_217 rfl ?_
                                    have hm365514 : q269917 ∈ P269915 := RS_m hT365402 htq269917 (by decide)
                                    obtain ⟨q365516, q365517, p365518, p365519, p365520, p365521, p365522, p365523, p365524, p365525, p365526, p365527, p365528, p365529, p365530, p365531, p365532, he365515, hB365559, ht365533, ht365534, ht365535, ht365536, ht365537, ht365538, ht365539, ht365540, ht365541, ht365542, ht365543, ht365544, ht365545, ht365546, ht365547, ht365548, ht365549, ht365550, ht365551, ht365552, ht365553, ht365554, ht365555, ht365556, hB365560⟩ := show rk_10 γ (F365401 q269917) from RS_o hT365402 htq269917
                                    refine Gp_get 1 hm365514 he365515 dr_cX17_graph_218 (gk_X17 D I) (Nat.le_of_ble_eq_true rfl) wr_7_75 rfl ?_
                                    refine G_iload 3 dr_cX17_graph_221 rfl ?_
                                    have hm365561 : (γ 9 1) ∈ P269915 := RS_m hT365402 ht365536 (by decide)
                                    obtain ⟨f365563, he365562, hg365564⟩ := show rk_13 I γ (F365401 (γ 9 1)) from RS_o hT365402 ht365536
                                    obtain ⟨q365565, hx365567⟩ : ∃ x, x = γ 11 o363759.toInt.toNat := ⟨_, rfl⟩
                                    have ht365566 : rKd γ q365565 36 := by rw [hx365567]; exact (hg365564 _ (show o363759.toInt.toNat < 2000 by omega)).2.1
                                    refine Gp_aald 5 hm365561 he365562 dr_cX17_graph_223 rfl rfl (gB_in bo363759' (by decide) (by decide)) ?_
                                    rw [show f365563 o363759.toNatClampNeg = some q365565 from (hg365564 _ (show o363759.toInt.toNat < 2000 by omega)).1.trans (by rw [hx365567])]
                                    change G _ _ _ _ _ _ _ (.ref q365565 :: _) _ _ _
                                    refine G_iload 0 dr_cX17_graph_224 rfl ?_
                                    refine G_dup2_11 dr_cX17_graph_226 rfl rfl ?_
                                    have hm365568 : q365565 ∈ P269915 := RS_m hT365402 ht365566 (by decide)
                                    obtain ⟨f365570, he365569, wf365570⟩ := show rk_36 I (F365401 q365565) from RS_o hT365402 ht365566
                                    refine Gp_lald 2 hm365568 he365569 dr_cX17_graph_227 rfl (gB_in bg365400' (by decide) (by decide)) (G_namL fun u365571 hu365571 => ?_)
                                    have qu365571 : lb_Q u365571 (2000 - 64 * g365400.toInt) := lb_Wld hu365571 wf365570 (by omega) (by omega) (lb_Mod0 (by omega) (by omega))
                                    refine G_aload_n 8 dr_cX17_graph_228 rfl ?_
                                    refine Gp_get 2 hm365514 he365515 dr_cX17_graph_229 (gk_X17 D I) (Nat.le_of_ble_eq_true rfl) wr_7_76 rfl ?_
                                    refine G_iload 0 dr_cX17_graph_232 rfl ?_
                                    have hm365572 : (γ 9 2) ∈ P269915 := RS_m hT365402 ht365537 (by decide)
                                    obtain ⟨f365574, he365573, wf365574⟩ := show rk_35 I (F365401 (γ 9 2)) from RS_o hT365402 ht365537
                                    refine Gp_lald 2 hm365572 he365573 dr_cX17_graph_234 rfl (gB_in bg365400' (by decide) (by decide)) (G_namL fun u365575 hu365575 => ?_)
                                    have qu365575 : lb_Q u365575 (2000 - 64 * g365400.toInt) := lb_Wld hu365575 wf365574 (by omega) (by omega) (lb_Mod0 (by omega) (by omega))
                                    refine G_lor dr_cX17_graph_235 (G_namL fun u365576 hu365576 => ?_)
                                    have qu365576 : lb_Q u365576 (2000 - 64 * g365400.toInt) := lb_Qor hu365576 qu365571 qu365575
                                    refine Gp_last 2 hm365568 he365569 dr_cX17_graph_236 rfl (gB_in bg365400' (by decide) (by decide)) (fun F365577 e365578 n365579 => ?_)
                                    obtain ⟨f365580, hf365580⟩ : ∃ z, z = vp_updL f365570 g365400.toNatClampNeg u365576 := ⟨_, rfl⟩
                                    rw [← hf365580] at e365578
                                    have he365581 : F365577 q269918 = .inr (18, [.ref q359279, .ref q359280, .int p359281, .int p359282]) := (n365579 q269918 (rn_oa he365406 he365569)).trans he365406
                                    have he365582 : F365577 q359279 = .inr (4, [.int p360510, .ref q360512, .int p360511]) := (n365579 q359279 (rn_oa he365407 he365569)).trans he365407
                                    have he365583 : F365577 q360512 = .inl (I (.object "java/lang/Object"), n360526, .inr (.inr (.inr (.inr f360527)))) := (n365579 q360512 (rn_ref_long he365408 he365569)).trans he365408
                                    have he365584 : F365577 q360529 = .inr (17, [.ref q360538, .ref q360539, .int p360540, .int p360541]) := (n365579 q360529 (rn_oa he365409 he365569)).trans he365409
                                    have he365585 : F365577 q360538 = .inr (4, [.int p363649, .ref q363651, .int p363650]) := (n365579 q360538 (rn_oa he365410 he365569)).trans he365410
                                    have he365586 : F365577 q363651 = .inl (I (.object "java/lang/Object"), n363665, .inr (.inr (.inr (.inr f363666)))) := (n365579 q363651 (rn_ref_long he365411 he365569)).trans he365411
                                    have he365587 : F365577 q363668 = .inr (20, [.int p363680, .int p363681, .int p363682, .int p363683, .int p363684, .int p363685, .int p363686]) := (n365579 q363668 (rn_oa he365412 he365569)).trans he365412
                                    have he365588 : F365577 q269917 = .inr (22, [.ref (γ 9 0), .ref (γ 9 1), .ref (γ 9 2), .ref (γ 9 3), .ref (γ 9 4), .ref (γ 9 5), .ref (γ 9 6), .ref (γ 9 7), .ref (γ 9 8), .int p365518, .int p365519, .int p365520, .int p365521, .int p365522, .int p365523, .ref (γ 9 15), .ref (γ 9 16), .ref (γ 9 17), .ref (γ 9 18), .ref (γ 9 19), .ref (γ 9 20), .ref (γ 9 21), .ref (γ 9 22), .int p365524, .int p365525, .int p365526, .int p365527, .int p365528, .ref q365516, .ref (γ 9 29), .int p365529, .ref (γ 9 31), .int p365530, .int p365531, .int p365532, .ref q365517]) := (n365579 q269917 (rn_oa he365515 he365569)).trans he365515
                                    have he365589 : F365577 (γ 9 1) = .inl (I (.array .long), 2000, .inr (.inr (.inr (.inr f365563)))) := (n365579 (γ 9 1) (rn_ref_long he365562 he365569)).trans he365562
                                    have he365590 : F365577 (γ 9 2) = .inl (I .long, 32, .inr (.inl f365574)) := (n365579 (γ 9 2) (rn_ty ht365537 ht365566 (by decide))).trans he365573
                                    have he365591 : F365577 q365565 = .inl (I .long, 32, .inr (.inl f365580)) := e365578
                                    have hs365592 : rStr γ [] F269916 F365577 := rStr_put hs365403 n365579 ht365566 (by decide)
                                    have wf365580 : lb_W f365580 (32) (32) (2000) := lb_Wst hf365580 wf365570 (by omega) (lb_Mod0 (by omega) (by omega)) qu365576
                                    obtain ⟨z365593, hz365593⟩ : ∃ z : Int32, z = g365400 + Int32.ofInt 1 := ⟨_, rfl⟩
                                    have ez365593 : z365593.toInt = g365400.toInt + 1 := gI_inc hz365593 (by decide) bg365400' (by decide) (by decide)
                                    have bz365593 : gB z365593 1 32 := ⟨by omega, by omega⟩
                                    refine G_iinc (L' := [(10, .int z365593), (9, .int 0), (8, .int p363682), (7, .int o363759), (6, .ref q363668), (5, .int g363629), (4, .ref q360529), (3, .int g359270), (0, .ref q269917), (1, .ref q269918), (2, .int p269919)]) z365593 0 dr_cX17_graph_237 rfl hz365593.symm (Nat.le_of_ble_eq_true rfl) rfl ?_
                                    refine G_goto 210 dr_cX17_graph_240 (by decide +kernel) ?_
                                    have hT365594 : RS D I P269915 F365577 γ el := RS_set hT365402 n365579 ht365566 (by decide) ⟨f365580, he365591, wf365580⟩
                                    exact ih210_365403 F365577 z365593 (gB_w bz365593 (by decide) (by decide)) hT365594 hs365592 (by have qa0 : Int32.toInt 0 = 0 := (by decide); omega)
                              exact hlp210_365403 (((33 : Int) - 0).toNat + 1) F363743 0 (gB_w (gBl (show Int32.toInt 0 = 0 by decide)) (by decide) (by decide)) hT363744 hs363753 (Nat.lt_succ_self _)
                            · have r365595 : 0 ≤ p363682.toInt := gj_nlt hc365204 (show Int32.toInt 0 = 0 by decide)
                              have bp363682' : gB p363682 0 2147483647 := ⟨by omega, by omega⟩
                              refine G_aload_n 6 dr_cX17_graph_185 rfl ?_
                              have hm365596 : q269917 ∈ P269915 := RS_m hT363744 htq269917 (by decide)
                              obtain ⟨q365598, q365599, p365600, p365601, p365602, p365603, p365604, p365605, p365606, p365607, p365608, p365609, p365610, p365611, p365612, p365613, p365614, he365597, hB365641, ht365615, ht365616, ht365617, ht365618, ht365619, ht365620, ht365621, ht365622, ht365623, ht365624, ht365625, ht365626, ht365627, ht365628, ht365629, ht365630, ht365631, ht365632, ht365633, ht365634, ht365635, ht365636, ht365637, ht365638, hB365642⟩ := show rk_10 γ (F363743 q269917) from RS_o hT363744 htq269917
                              refine Gp_get 1 hm365596 he365597 dr_cX17_graph_186 (gk_X17 D I) (Nat.le_of_ble_eq_true rfl) wr_7_75 rfl ?_
                              refine G_iload 1 dr_cX17_graph_189 rfl ?_
                              have hm365643 : (γ 9 1) ∈ P269915 := RS_m hT363744 ht365618 (by decide)
                              obtain ⟨f365645, he365644, hg365646⟩ := show rk_13 I γ (F363743 (γ 9 1)) from RS_o hT363744 ht365618
                              obtain ⟨q365647, hx365649⟩ : ∃ x, x = γ 11 o363759.toInt.toNat := ⟨_, rfl⟩
                              have ht365648 : rKd γ q365647 36 := by rw [hx365649]; exact (hg365646 _ (show o363759.toInt.toNat < 2000 by omega)).2.1
                              refine Gp_aald 5 hm365643 he365644 dr_cX17_graph_191 rfl rfl (gB_in bo363759' (by decide) (by decide)) ?_
                              rw [show f365645 o363759.toNatClampNeg = some q365647 from (hg365646 _ (show o363759.toInt.toNat < 2000 by omega)).1.trans (by rw [hx365649])]
                              change G _ _ _ _ _ _ _ (.ref q365647 :: _) _ _ _
                              refine G_iload 0 dr_cX17_graph_192 rfl ?_
                              have hm365650 : q365647 ∈ P269915 := RS_m hT363744 ht365648 (by decide)
                              obtain ⟨f365652, he365651, wf365652⟩ := show rk_36 I (F363743 q365647) from RS_o hT363744 ht365648
                              refine Gw_callS (As := [.ref q365647, .int p363682]) (gV_ok D I) (cp_1838_SpillForgeModel_has l hl0 D I P269915 F363743 q365647 p363682 f365652 hm365650 he365651 ⟨by omega, by omega⟩) dr_cX17_graph_194 ⟨wr_10_203, wr_1_14, wr_10_205, by decide, rfl, (Nat.le_of_ble_eq_true rfl), (Nat.le_of_ble_eq_true rfl)⟩ wr_10_204 (show 0 + 0 ≤ 0 by first | omega | decide) (show 0 + 0 ≤ 0 by first | omega | decide) (Nat.le_of_ble_eq_true rfl) (fun r365656 w365657 dc365653 ds365654 hp365655 => ?_) (fun _ _ _ _ _ z => z.elim)
                              rcases hp365655 with ⟨z365658, z365659, rfl, rfl, hdc, hds, r365660, r365661, r365662, r365663⟩ | ⟨z365664, z365665, rfl, rfl, hdc, hds, r365666, r365667, r365668, r365669⟩
                              · change G _ _ _ _ _ _ _ (.int 0 :: _) _ _ _
                                refine G_widen (cs' := 0) (sl' := 0) (by omega) (by omega) ?_
                                refine G_if_eq 204 dr_cX17_graph_197 (by decide +kernel) (fun _ => ?_) (fun hc => absurd hc (by decide))
                                refine G_iconst 0 dr_cX17_graph_204 (by decide +kernel) ?_
                                refine G_istore (L' := [(9, .int 0), (8, .int p363682), (7, .int o363759), (6, .ref q363668), (5, .int g363629), (4, .ref q360529), (3, .int g359270), (0, .ref q269917), (1, .ref q269918), (2, .int p269919)]) dr_cX17_graph_205 (Nat.le_of_ble_eq_true rfl) rfl ?_
                                refine G_iconst 0 dr_cX17_graph_207 (by decide +kernel) ?_
                                refine G_istore (L' := [(10, .int 0), (9, .int 0), (8, .int p363682), (7, .int o363759), (6, .ref q363668), (5, .int g363629), (4, .ref q360529), (3, .int g359270), (0, .ref q269917), (1, .ref q269918), (2, .int p269919)]) dr_cX17_graph_208 (Nat.le_of_ble_eq_true rfl) rfl ?_
                                have hlp210_365897 : ∀ (n210_365897 : Nat) (F365895 : Nat → va_E) (g365894 : Int32), gB g365894 0 32 → RS D I P269915 F365895 γ el → rStr γ [] F269916 F365895 → ((33 : Int) - g365894.toInt).toNat < n210_365897 → G (gV D I) l (gRm 5 111 0 0) (gMA (gV D I) (pt_269921_SpillForgeModel_graph D I γ el P269915 F269916 q269917 q269918 p269919) gNA 0 0) ky_269921_SpillForgeModel_graph 210 [(10, .int g365894), (9, .int 0), (8, .int p363682), (7, .int o363759), (6, .ref q363668), (5, .int g363629), (4, .ref q360529), (3, .int g359270), (0, .ref q269917), (1, .ref q269918), (2, .int p269919)] [] (va_pl P269915 F365895) 0 0 := by
                                  intro n210_365897
                                  induction n210_365897 with
                                  | zero => intro F365895 g365894 bg365894 hT365896 hs365897 hm210_365897; exact absurd hm210_365897 (Nat.not_lt_zero _)
                                  | succ n210_365897 ih210_365897 =>
                                    intro F365895 g365894 bg365894 hT365896 hs365897 hm210_365897
                                    have hs365899 : rStr γ [] F363743 F365895 := fun b h0 hb hw => (hs365897 b h0 hb hw).trans (hs363753 b h0 hb hw).symm
                                    have he365900 : F365895 q269918 = .inr (18, [.ref q359279, .ref q359280, .int p359281, .int p359282]) := (hs365899 q269918 (rT0 htq269918 (by decide)) (rT1 htq269918 (by decide)) (rT2 htq269918 (by decide))).trans he363746
                                    have he365901 : F365895 q359279 = .inr (4, [.int p360510, .ref q360512, .int p360511]) := (hs365899 q359279 (rT0 ht359283 (by decide)) (rT1 ht359283 (by decide)) (rT2 ht359283 (by decide))).trans he363747
                                    have he365902 : F365895 q360512 = .inl (I (.object "java/lang/Object"), n360526, .inr (.inr (.inr (.inr f360527)))) := (hs365899 q360512 (rT0 r360518 (by decide)) (rT1 r360518 (by decide)) (rT2 r360518 (by decide))).trans he363748
                                    have he365903 : F365895 q360529 = .inr (17, [.ref q360538, .ref q360539, .int p360540, .int p360541]) := (hs365899 q360529 (rT0 ht360534 (by decide)) (rT1 ht360534 (by decide)) (rT2 ht360534 (by decide))).trans he363749
                                    have he365904 : F365895 q360538 = .inr (4, [.int p363649, .ref q363651, .int p363650]) := (hs365899 q360538 (rT0 ht360542 (by decide)) (rT1 ht360542 (by decide)) (rT2 ht360542 (by decide))).trans he363750
                                    have he365905 : F365895 q363651 = .inl (I (.object "java/lang/Object"), n363665, .inr (.inr (.inr (.inr f363666)))) := (hs365899 q363651 (rT0 r363657 (by decide)) (rT1 r363657 (by decide)) (rT2 r363657 (by decide))).trans he363751
                                    have he365906 : F365895 q363668 = .inr (20, [.int p363680, .int p363681, .int p363682, .int p363683, .int p363684, .int p363685, .int p363686]) := (hs365899 q363668 (rT0 ht363671 (by decide)) (rT1 ht363671 (by decide)) (rT2 ht363671 (by decide))).trans he363752
                                    have hs365907 : rStr γ [] F269916 F365895 := rStr_tr hs363753 hs365899
                                    refine G_iload 0 dr_cX17_graph_210 rfl ?_
                                    refine G_bipush 32 dr_cX17_graph_212 (by decide +kernel) ?_
                                    refine G_icmp_ge 243 dr_cX17_graph_214 (by decide +kernel) (fun hc365908 => ?_) (fun hc365908 => ?_)
                                    · have r365909 : 32 ≤ g365894.toInt := gj_leL hc365908 (show Int32.toInt 32 = 32 by decide)
                                      have bg365894' : gB g365894 32 32 := ⟨by omega, by omega⟩
                                      refine G_iload 2 dr_cX17_graph_243 rfl ?_
                                      refine G_if_lt 265 dr_cX17_graph_245 (by decide +kernel) (fun hc => absurd (show False by have := gj_lt hc (show Int32.toInt 0 = 0 by decide); omega) not_false) (fun _ => ?_)
                                      refine G_iload 1 dr_cX17_graph_248 rfl ?_
                                      refine G_if_ne 265 dr_cX17_graph_250 (by decide +kernel) (fun hc => absurd hc (by decide)) (fun _ => ?_)
                                      refine G_aload_n 8 dr_cX17_graph_253 rfl ?_
                                      have hm365910 : q269917 ∈ P269915 := RS_m hT365896 htq269917 (by decide)
                                      obtain ⟨q365912, q365913, p365914, p365915, p365916, p365917, p365918, p365919, p365920, p365921, p365922, p365923, p365924, p365925, p365926, p365927, p365928, he365911, hB365955, ht365929, ht365930, ht365931, ht365932, ht365933, ht365934, ht365935, ht365936, ht365937, ht365938, ht365939, ht365940, ht365941, ht365942, ht365943, ht365944, ht365945, ht365946, ht365947, ht365948, ht365949, ht365950, ht365951, ht365952, hB365956⟩ := show rk_10 γ (F365895 q269917) from RS_o hT365896 htq269917
                                      refine Gp_get 1 hm365910 he365911 dr_cX17_graph_254 (gk_X17 D I) (Nat.le_of_ble_eq_true rfl) wr_7_75 rfl ?_
                                      refine G_iload 3 dr_cX17_graph_257 rfl ?_
                                      have hm365957 : (γ 9 1) ∈ P269915 := RS_m hT365896 ht365932 (by decide)
                                      obtain ⟨f365959, he365958, hg365960⟩ := show rk_13 I γ (F365895 (γ 9 1)) from RS_o hT365896 ht365932
                                      obtain ⟨q365961, hx365963⟩ : ∃ x, x = γ 11 o363759.toInt.toNat := ⟨_, rfl⟩
                                      have ht365962 : rKd γ q365961 36 := by rw [hx365963]; exact (hg365960 _ (show o363759.toInt.toNat < 2000 by omega)).2.1
                                      refine Gp_aald 5 hm365957 he365958 dr_cX17_graph_259 rfl rfl (gB_in bo363759' (by decide) (by decide)) ?_
                                      rw [show f365959 o363759.toNatClampNeg = some q365961 from (hg365960 _ (show o363759.toInt.toNat < 2000 by omega)).1.trans (by rw [hx365963])]
                                      change G _ _ _ _ _ _ _ (.ref q365961 :: _) _ _ _
                                      refine G_iload 2 dr_cX17_graph_260 rfl ?_
                                      have hm365964 : q365961 ∈ P269915 := RS_m hT365896 ht365962 (by decide)
                                      obtain ⟨f365966, he365965, wf365966⟩ := show rk_36 I (F365895 q365961) from RS_o hT365896 ht365962
                                      refine Gw_callS (As := [.ref q365961, .int p363682]) (gV_ok D I) (cp_1873_SpillForgeModel_clear l hl0 D I P269915 F365895 q365961 p363682 f365966 hm365964 he365965 ⟨by omega, by omega⟩ wf365966) dr_cX17_graph_262 ⟨wr_10_185, wr_1_14, wr_10_187, by decide, rfl, (Nat.le_of_ble_eq_true rfl), (Nat.le_of_ble_eq_true rfl)⟩ wr_10_186 (show 0 + 0 ≤ 0 by first | omega | decide) (show 0 + 0 ≤ 0 by first | omega | decide) (Nat.le_of_ble_eq_true rfl) (fun r365970 w365971 dc365967 ds365968 hp365969 => ?_) (fun _ _ _ _ _ z => z.elim)
                                      obtain ⟨F365974, f365972, rfl, rfl, hfr365976, he365977, hdc, hds, x365973⟩ := hp365969
                                      have he365978 : F365974 q269918 = .inr (18, [.ref q359279, .ref q359280, .int p359281, .int p359282]) := (hfr365976 q269918 hm359277 (nm_c (rn_oa he365900 he365965) nm_n)).trans he365900
                                      have he365979 : F365974 q359279 = .inr (4, [.int p360510, .ref q360512, .int p360511]) := (hfr365976 q359279 hm360508 (nm_c (rn_oa he365901 he365965) nm_n)).trans he365901
                                      have he365980 : F365974 q360512 = .inl (I (.object "java/lang/Object"), n360526, .inr (.inr (.inr (.inr f360527)))) := (hfr365976 q360512 hm360528 (nm_c (rn_ref_long he365902 he365965) nm_n)).trans he365902
                                      have he365981 : F365974 q360529 = .inr (17, [.ref q360538, .ref q360539, .int p360540, .int p360541]) := (hfr365976 q360529 hm360536 (nm_c (rn_oa he365903 he365965) nm_n)).trans he365903
                                      have he365982 : F365974 q360538 = .inr (4, [.int p363649, .ref q363651, .int p363650]) := (hfr365976 q360538 hm363647 (nm_c (rn_oa he365904 he365965) nm_n)).trans he365904
                                      have he365983 : F365974 q363651 = .inl (I (.object "java/lang/Object"), n363665, .inr (.inr (.inr (.inr f363666)))) := (hfr365976 q363651 hm363667 (nm_c (rn_ref_long he365905 he365965) nm_n)).trans he365905
                                      have he365984 : F365974 q363668 = .inr (20, [.int p363680, .int p363681, .int p363682, .int p363683, .int p363684, .int p363685, .int p363686]) := (hfr365976 q363668 hm363678 (nm_c (rn_oa he365906 he365965) nm_n)).trans he365906
                                      have he365985 : F365974 q269917 = .inr (22, [.ref (γ 9 0), .ref (γ 9 1), .ref (γ 9 2), .ref (γ 9 3), .ref (γ 9 4), .ref (γ 9 5), .ref (γ 9 6), .ref (γ 9 7), .ref (γ 9 8), .int p365914, .int p365915, .int p365916, .int p365917, .int p365918, .int p365919, .ref (γ 9 15), .ref (γ 9 16), .ref (γ 9 17), .ref (γ 9 18), .ref (γ 9 19), .ref (γ 9 20), .ref (γ 9 21), .ref (γ 9 22), .int p365920, .int p365921, .int p365922, .int p365923, .int p365924, .ref q365912, .ref (γ 9 29), .int p365925, .ref (γ 9 31), .int p365926, .int p365927, .int p365928, .ref q365913]) := (hfr365976 q269917 hm365910 (nm_c (rn_oa he365911 he365965) nm_n)).trans he365911
                                      have he365986 : F365974 (γ 9 1) = .inl (I (.array .long), 2000, .inr (.inr (.inr (.inr f365959)))) := (hfr365976 (γ 9 1) hm365957 (nm_c (rn_ref_long he365958 he365965) nm_n)).trans he365958
                                      have hfr365987 : rFr [q365961] P269915 F365895 F365974 := rFr_call (rSub_rf (P := P269915)) (rFr_rf (W := []) (P := P269915) (F := F365895)) hfr365976 (fun b hb hn => ⟨nm_n, (nm_c (fun e => hn (e ▸ List.mem_cons_self)) nm_n)⟩)
                                      change G _ _ _ _ _ _ _ _ _ _ _
                                      refine G_widen (cs' := 0) (sl' := 0) (by omega) (by omega) ?_
                                      have hT365988 : RS D I P269915 F365974 γ el := RS_fr hT365896 hfr365987 ht365962 (by decide) ⟨f365972, he365977, x365973⟩
                                      have hs365989 : rStr γ [] F269916 F365974 := rStr_fr hT365896 hs365897 hfr365987 ht365962 (by decide)
                                      refine G_aload_n 8 dr_cX17_graph_265 rfl ?_
                                      refine Gp_get 1 hm365910 he365985 dr_cX17_graph_266 (gk_X17 D I) (Nat.le_of_ble_eq_true rfl) wr_7_75 rfl ?_
                                      refine G_iload 3 dr_cX17_graph_269 rfl ?_
                                      obtain ⟨q365990, hx365992⟩ : ∃ x, x = γ 11 o363759.toInt.toNat := ⟨_, rfl⟩
                                      have ht365991 : rKd γ q365990 36 := by rw [hx365992]; exact (hg365960 _ (show o363759.toInt.toNat < 2000 by omega)).2.1
                                      refine Gp_aald 5 hm365957 he365986 dr_cX17_graph_271 rfl rfl (gB_in bo363759' (by decide) (by decide)) ?_
                                      rw [show f365959 o363759.toNatClampNeg = some q365990 from (hg365960 _ (show o363759.toInt.toNat < 2000 by omega)).1.trans (by rw [hx365992])]
                                      change G _ _ _ _ _ _ _ (.ref q365990 :: _) _ _ _
                                      refine G_iload 3 dr_cX17_graph_272 rfl ?_
                                      have hm365993 : q365990 ∈ P269915 := RS_m hT365988 ht365991 (by decide)
                                      obtain ⟨f365995, he365994, wf365995⟩ := show rk_36 I (F365974 q365990) from RS_o hT365988 ht365991
                                      refine Gw_callS (As := [.ref q365990, .int o363759]) (gV_ok D I) (cp_1873_SpillForgeModel_clear l hl0 D I P269915 F365974 q365990 o363759 f365995 hm365993 he365994 bo363759' wf365995) dr_cX17_graph_274 ⟨wr_10_185, wr_1_14, wr_10_187, by decide, rfl, (Nat.le_of_ble_eq_true rfl), (Nat.le_of_ble_eq_true rfl)⟩ wr_10_186 (show 0 + 0 ≤ 0 by first | omega | decide) (show 0 + 0 ≤ 0 by first | omega | decide) (Nat.le_of_ble_eq_true rfl) (fun r365999 w366000 dc365996 ds365997 hp365998 => ?_) (fun _ _ _ _ _ z => z.elim)
                                      obtain ⟨F366003, f366001, rfl, rfl, hfr366005, he366006, hdc, hds, x366002⟩ := hp365998
                                      have he366007 : F366003 q269918 = .inr (18, [.ref q359279, .ref q359280, .int p359281, .int p359282]) := (hfr366005 q269918 hm359277 (nm_c (rn_oa he365978 he365994) nm_n)).trans he365978
                                      have he366008 : F366003 q359279 = .inr (4, [.int p360510, .ref q360512, .int p360511]) := (hfr366005 q359279 hm360508 (nm_c (rn_oa he365979 he365994) nm_n)).trans he365979
                                      have he366009 : F366003 q360512 = .inl (I (.object "java/lang/Object"), n360526, .inr (.inr (.inr (.inr f360527)))) := (hfr366005 q360512 hm360528 (nm_c (rn_ref_long he365980 he365994) nm_n)).trans he365980
                                      have he366010 : F366003 q360529 = .inr (17, [.ref q360538, .ref q360539, .int p360540, .int p360541]) := (hfr366005 q360529 hm360536 (nm_c (rn_oa he365981 he365994) nm_n)).trans he365981
                                      have he366011 : F366003 q360538 = .inr (4, [.int p363649, .ref q363651, .int p363650]) := (hfr366005 q360538 hm363647 (nm_c (rn_oa he365982 he365994) nm_n)).trans he365982
                                      have he366012 : F366003 q363651 = .inl (I (.object "java/lang/Object"), n363665, .inr (.inr (.inr (.inr f363666)))) := (hfr366005 q363651 hm363667 (nm_c (rn_ref_long he365983 he365994) nm_n)).trans he365983
                                      have he366013 : F366003 q363668 = .inr (20, [.int p363680, .int p363681, .int p363682, .int p363683, .int p363684, .int p363685, .int p363686]) := (hfr366005 q363668 hm363678 (nm_c (rn_oa he365984 he365994) nm_n)).trans he365984
                                      have he366014 : F366003 q269917 = .inr (22, [.ref (γ 9 0), .ref (γ 9 1), .ref (γ 9 2), .ref (γ 9 3), .ref (γ 9 4), .ref (γ 9 5), .ref (γ 9 6), .ref (γ 9 7), .ref (γ 9 8), .int p365914, .int p365915, .int p365916, .int p365917, .int p365918, .int p365919, .ref (γ 9 15), .ref (γ 9 16), .ref (γ 9 17), .ref (γ 9 18), .ref (γ 9 19), .ref (γ 9 20), .ref (γ 9 21), .ref (γ 9 22), .int p365920, .int p365921, .int p365922, .int p365923, .int p365924, .ref q365912, .ref (γ 9 29), .int p365925, .ref (γ 9 31), .int p365926, .int p365927, .int p365928, .ref q365913]) := (hfr366005 q269917 hm365910 (nm_c (rn_oa he365985 he365994) nm_n)).trans he365985
                                      have he366015 : F366003 (γ 9 1) = .inl (I (.array .long), 2000, .inr (.inr (.inr (.inr f365959)))) := (hfr366005 (γ 9 1) hm365957 (nm_c (rn_ref_long he365986 he365994) nm_n)).trans he365986
                                      have hfr366016 : rFr [q365990] P269915 F365974 F366003 := rFr_call (rSub_rf (P := P269915)) (rFr_rf (W := []) (P := P269915) (F := F365974)) hfr366005 (fun b hb hn => ⟨nm_n, (nm_c (fun e => hn (e ▸ List.mem_cons_self)) nm_n)⟩)
                                      change G _ _ _ _ _ _ _ _ _ _ _
                                      refine G_widen (cs' := 0) (sl' := 0) (by omega) (by omega) ?_
                                      have hT366017 : RS D I P269915 F366003 γ el := RS_fr hT365988 hfr366016 ht365991 (by decide) ⟨f366001, he366006, x366002⟩
                                      have hs366018 : rStr γ [] F269916 F366003 := rStr_fr hT365988 hs365989 hfr366016 ht365991 (by decide)
                                      refine G_aload_n 8 dr_cX17_graph_277 rfl ?_
                                      refine G_aload 4 dr_cX17_graph_278 rfl ?_
                                      refine G_iload_n 10 dr_cX17_graph_280 rfl ?_
                                      refine Gw_callV (As := [.ref q363668, .int p269919]) (gV_ok D I) (ct_3919_SpillForgeModel_back l hl0 D I γ el P269915 F366003 q269917 q363668 p269919 hT366017 htq269917 ht363671 (gB_w bp269919' (by decide) (by decide))) dr_cX17_graph_281 ⟨wr_10_174, wr_1_14, wr_10_177, by decide, rfl, (Nat.le_of_ble_eq_true rfl), (Nat.le_of_ble_eq_true rfl)⟩ wr_10_176 wr_p_96 hm365910 he366014 rfl (show 0 + 0 ≤ 0 by first | omega | decide) (show 0 + 0 ≤ 0 by first | omega | decide) (Nat.le_of_ble_eq_true rfl) (fun r366022 w366023 dc366019 ds366020 hp366021 => ?_) (fun _ _ _ _ _ z => z.elim)
                                      obtain ⟨F366024, rfl, rfl, hT366025, hs366026, hdc, hds⟩ := hp366021
                                      have he366027 : F366024 q269918 = .inr (18, [.ref q359279, .ref q359280, .int p359281, .int p359282]) := (hs366026 q269918 (rT0 htq269918 (by decide)) (rT1 htq269918 (by decide)) (rT2 htq269918 (by decide))).trans he366007
                                      have he366028 : F366024 q359279 = .inr (4, [.int p360510, .ref q360512, .int p360511]) := (hs366026 q359279 (rT0 ht359283 (by decide)) (rT1 ht359283 (by decide)) (rT2 ht359283 (by decide))).trans he366008
                                      have he366029 : F366024 q360512 = .inl (I (.object "java/lang/Object"), n360526, .inr (.inr (.inr (.inr f360527)))) := (hs366026 q360512 (rT0 r360518 (by decide)) (rT1 r360518 (by decide)) (rT2 r360518 (by decide))).trans he366009
                                      have he366030 : F366024 q360529 = .inr (17, [.ref q360538, .ref q360539, .int p360540, .int p360541]) := (hs366026 q360529 (rT0 ht360534 (by decide)) (rT1 ht360534 (by decide)) (rT2 ht360534 (by decide))).trans he366010
                                      have he366031 : F366024 q360538 = .inr (4, [.int p363649, .ref q363651, .int p363650]) := (hs366026 q360538 (rT0 ht360542 (by decide)) (rT1 ht360542 (by decide)) (rT2 ht360542 (by decide))).trans he366011
                                      have he366032 : F366024 q363651 = .inl (I (.object "java/lang/Object"), n363665, .inr (.inr (.inr (.inr f363666)))) := (hs366026 q363651 (rT0 r363657 (by decide)) (rT1 r363657 (by decide)) (rT2 r363657 (by decide))).trans he366012
                                      have he366033 : F366024 q363668 = .inr (20, [.int p363680, .int p363681, .int p363682, .int p363683, .int p363684, .int p363685, .int p363686]) := (hs366026 q363668 (rT0 ht363671 (by decide)) (rT1 ht363671 (by decide)) (rT2 ht363671 (by decide))).trans he366013
                                      have hs366034 : rStr γ [] F269916 F366024 := rStr_tr hs366018 hs366026
                                      change G _ _ _ _ _ _ _ _ _ _ _
                                      refine G_widen (cs' := 0) (sl' := 0) (by omega) (by omega) ?_
                                      obtain ⟨z366035, hz366035⟩ : ∃ z : Int32, z = g363629 + Int32.ofInt (-1) := ⟨_, rfl⟩
                                      have ez366035 : z366035.toInt = g363629.toInt + (-1) := gI_inc hz366035 (by decide) bg363629' (by decide) (by decide)
                                      have bz366035 : gB z366035 (-1) 999998 := ⟨by omega, by omega⟩
                                      refine G_iinc (L' := [(5, .int z366035), (10, .int g365894), (9, .int 0), (8, .int p363682), (7, .int o363759), (6, .ref q363668), (4, .ref q360529), (3, .int g359270), (0, .ref q269917), (1, .ref q269918), (2, .int p269919)]) z366035 5 dr_cX17_graph_284 rfl hz366035.symm (Nat.le_of_ble_eq_true rfl) rfl ?_
                                      refine G_goto 109 dr_cX17_graph_287 (by decide +kernel) ?_
                                      refine G_lv (L' := [(5, .int z366035), (4, .ref q360529), (3, .int g359270), (0, .ref q269917), (1, .ref q269918), (2, .int p269919)]) [0, 6, 7, 8, 9, 10] rfl ?_
                                      exact ih109_363633 F366024 z366035 (gB_w bz366035 (by decide) (by decide)) hT366025 hs366034 (by omega) (by omega)
                                    · have r366036 : g365894.toInt < 32 := gj_nleL hc365908 (show Int32.toInt 32 = 32 by decide)
                                      have bg365894' : gB g365894 0 31 := ⟨by omega, by omega⟩
                                      refine G_aload_n 8 dr_cX17_graph_217 rfl ?_
                                      have hm366037 : q269917 ∈ P269915 := RS_m hT365896 htq269917 (by decide)
                                      obtain ⟨q366039, q366040, p366041, p366042, p366043, p366044, p366045, p366046, p366047, p366048, p366049, p366050, p366051, p366052, p366053, p366054, p366055, he366038, hB366082, ht366056, ht366057, ht366058, ht366059, ht366060, ht366061, ht366062, ht366063, ht366064, ht366065, ht366066, ht366067, ht366068, ht366069, ht366070, ht366071, ht366072, ht366073, ht366074, ht366075, ht366076, ht366077, ht366078, ht366079, hB366083⟩ := show rk_10 γ (F365895 q269917) from RS_o hT365896 htq269917
                                      refine Gp_get 1 hm366037 he366038 dr_cX17_graph_218 (gk_X17 D I) (Nat.le_of_ble_eq_true rfl) wr_7_75 rfl ?_
                                      refine G_iload 3 dr_cX17_graph_221 rfl ?_
                                      have hm366084 : (γ 9 1) ∈ P269915 := RS_m hT365896 ht366059 (by decide)
                                      obtain ⟨f366086, he366085, hg366087⟩ := show rk_13 I γ (F365895 (γ 9 1)) from RS_o hT365896 ht366059
                                      obtain ⟨q366088, hx366090⟩ : ∃ x, x = γ 11 o363759.toInt.toNat := ⟨_, rfl⟩
                                      have ht366089 : rKd γ q366088 36 := by rw [hx366090]; exact (hg366087 _ (show o363759.toInt.toNat < 2000 by omega)).2.1
                                      refine Gp_aald 5 hm366084 he366085 dr_cX17_graph_223 rfl rfl (gB_in bo363759' (by decide) (by decide)) ?_
                                      rw [show f366086 o363759.toNatClampNeg = some q366088 from (hg366087 _ (show o363759.toInt.toNat < 2000 by omega)).1.trans (by rw [hx366090])]
                                      change G _ _ _ _ _ _ _ (.ref q366088 :: _) _ _ _
                                      refine G_iload 0 dr_cX17_graph_224 rfl ?_
                                      refine G_dup2_11 dr_cX17_graph_226 rfl rfl ?_
                                      have hm366091 : q366088 ∈ P269915 := RS_m hT365896 ht366089 (by decide)
                                      obtain ⟨f366093, he366092, wf366093⟩ := show rk_36 I (F365895 q366088) from RS_o hT365896 ht366089
                                      refine Gp_lald 2 hm366091 he366092 dr_cX17_graph_227 rfl (gB_in bg365894' (by decide) (by decide)) (G_namL fun u366094 hu366094 => ?_)
                                      have qu366094 : lb_Q u366094 (2000 - 64 * g365894.toInt) := lb_Wld hu366094 wf366093 (by omega) (by omega) (lb_Mod0 (by omega) (by omega))
                                      refine G_aload_n 8 dr_cX17_graph_228 rfl ?_
                                      refine Gp_get 2 hm366037 he366038 dr_cX17_graph_229 (gk_X17 D I) (Nat.le_of_ble_eq_true rfl) wr_7_76 rfl ?_
                                      refine G_iload 0 dr_cX17_graph_232 rfl ?_
                                      have hm366095 : (γ 9 2) ∈ P269915 := RS_m hT365896 ht366060 (by decide)
                                      obtain ⟨f366097, he366096, wf366097⟩ := show rk_35 I (F365895 (γ 9 2)) from RS_o hT365896 ht366060
                                      refine Gp_lald 2 hm366095 he366096 dr_cX17_graph_234 rfl (gB_in bg365894' (by decide) (by decide)) (G_namL fun u366098 hu366098 => ?_)
                                      have qu366098 : lb_Q u366098 (2000 - 64 * g365894.toInt) := lb_Wld hu366098 wf366097 (by omega) (by omega) (lb_Mod0 (by omega) (by omega))
                                      refine G_lor dr_cX17_graph_235 (G_namL fun u366099 hu366099 => ?_)
                                      have qu366099 : lb_Q u366099 (2000 - 64 * g365894.toInt) := lb_Qor hu366099 qu366094 qu366098
                                      refine Gp_last 2 hm366091 he366092 dr_cX17_graph_236 rfl (gB_in bg365894' (by decide) (by decide)) (fun F366100 e366101 n366102 => ?_)
                                      obtain ⟨f366103, hf366103⟩ : ∃ z, z = vp_updL f366093 g365894.toNatClampNeg u366099 := ⟨_, rfl⟩
                                      rw [← hf366103] at e366101
                                      have he366104 : F366100 q269918 = .inr (18, [.ref q359279, .ref q359280, .int p359281, .int p359282]) := (n366102 q269918 (rn_oa he365900 he366092)).trans he365900
                                      have he366105 : F366100 q359279 = .inr (4, [.int p360510, .ref q360512, .int p360511]) := (n366102 q359279 (rn_oa he365901 he366092)).trans he365901
                                      have he366106 : F366100 q360512 = .inl (I (.object "java/lang/Object"), n360526, .inr (.inr (.inr (.inr f360527)))) := (n366102 q360512 (rn_ref_long he365902 he366092)).trans he365902
                                      have he366107 : F366100 q360529 = .inr (17, [.ref q360538, .ref q360539, .int p360540, .int p360541]) := (n366102 q360529 (rn_oa he365903 he366092)).trans he365903
                                      have he366108 : F366100 q360538 = .inr (4, [.int p363649, .ref q363651, .int p363650]) := (n366102 q360538 (rn_oa he365904 he366092)).trans he365904
                                      have he366109 : F366100 q363651 = .inl (I (.object "java/lang/Object"), n363665, .inr (.inr (.inr (.inr f363666)))) := (n366102 q363651 (rn_ref_long he365905 he366092)).trans he365905
                                      have he366110 : F366100 q363668 = .inr (20, [.int p363680, .int p363681, .int p363682, .int p363683, .int p363684, .int p363685, .int p363686]) := (n366102 q363668 (rn_oa he365906 he366092)).trans he365906
                                      have he366111 : F366100 q269917 = .inr (22, [.ref (γ 9 0), .ref (γ 9 1), .ref (γ 9 2), .ref (γ 9 3), .ref (γ 9 4), .ref (γ 9 5), .ref (γ 9 6), .ref (γ 9 7), .ref (γ 9 8), .int p366041, .int p366042, .int p366043, .int p366044, .int p366045, .int p366046, .ref (γ 9 15), .ref (γ 9 16), .ref (γ 9 17), .ref (γ 9 18), .ref (γ 9 19), .ref (γ 9 20), .ref (γ 9 21), .ref (γ 9 22), .int p366047, .int p366048, .int p366049, .int p366050, .int p366051, .ref q366039, .ref (γ 9 29), .int p366052, .ref (γ 9 31), .int p366053, .int p366054, .int p366055, .ref q366040]) := (n366102 q269917 (rn_oa he366038 he366092)).trans he366038
                                      have he366112 : F366100 (γ 9 1) = .inl (I (.array .long), 2000, .inr (.inr (.inr (.inr f366086)))) := (n366102 (γ 9 1) (rn_ref_long he366085 he366092)).trans he366085
                                      have he366113 : F366100 (γ 9 2) = .inl (I .long, 32, .inr (.inl f366097)) := (n366102 (γ 9 2) (rn_ty ht366060 ht366089 (by decide))).trans he366096
                                      have he366114 : F366100 q366088 = .inl (I .long, 32, .inr (.inl f366103)) := e366101
                                      have hs366115 : rStr γ [] F269916 F366100 := rStr_put hs365897 n366102 ht366089 (by decide)
                                      have wf366103 : lb_W f366103 (32) (32) (2000) := lb_Wst hf366103 wf366093 (by omega) (lb_Mod0 (by omega) (by omega)) qu366099
                                      obtain ⟨z366116, hz366116⟩ : ∃ z : Int32, z = g365894 + Int32.ofInt 1 := ⟨_, rfl⟩
                                      have ez366116 : z366116.toInt = g365894.toInt + 1 := gI_inc hz366116 (by decide) bg365894' (by decide) (by decide)
                                      have bz366116 : gB z366116 1 32 := ⟨by omega, by omega⟩
                                      refine G_iinc (L' := [(10, .int z366116), (9, .int 0), (8, .int p363682), (7, .int o363759), (6, .ref q363668), (5, .int g363629), (4, .ref q360529), (3, .int g359270), (0, .ref q269917), (1, .ref q269918), (2, .int p269919)]) z366116 0 dr_cX17_graph_237 rfl hz366116.symm (Nat.le_of_ble_eq_true rfl) rfl ?_
                                      refine G_goto 210 dr_cX17_graph_240 (by decide +kernel) ?_
                                      have hT366117 : RS D I P269915 F366100 γ el := RS_set hT365896 n366102 ht366089 (by decide) ⟨f366103, he366114, wf366103⟩
                                      exact ih210_365897 F366100 z366116 (gB_w bz366116 (by decide) (by decide)) hT366117 hs366115 (by have qa0 : Int32.toInt 0 = 0 := (by decide); omega)
                                exact hlp210_365897 (((33 : Int) - 0).toNat + 1) F363743 0 (gB_w (gBl (show Int32.toInt 0 = 0 by decide)) (by decide) (by decide)) hT363744 hs363753 (Nat.lt_succ_self _)
                              · change G _ _ _ _ _ _ _ (.int 1 :: _) _ _ _
                                refine G_widen (cs' := 0) (sl' := 0) (by omega) (by omega) ?_
                                refine G_if_eq 204 dr_cX17_graph_197 (by decide +kernel) (fun hc => absurd hc (by decide)) (fun _ => ?_)
                                refine G_iconst 1 dr_cX17_graph_200 (by decide +kernel) ?_
                                refine G_goto 205 dr_cX17_graph_201 (by decide +kernel) ?_
                                refine G_istore (L' := [(9, .int 1), (8, .int p363682), (7, .int o363759), (6, .ref q363668), (5, .int g363629), (4, .ref q360529), (3, .int g359270), (0, .ref q269917), (1, .ref q269918), (2, .int p269919)]) dr_cX17_graph_205 (Nat.le_of_ble_eq_true rfl) rfl ?_
                                refine G_iconst 0 dr_cX17_graph_207 (by decide +kernel) ?_
                                refine G_istore (L' := [(10, .int 0), (9, .int 1), (8, .int p363682), (7, .int o363759), (6, .ref q363668), (5, .int g363629), (4, .ref q360529), (3, .int g359270), (0, .ref q269917), (1, .ref q269918), (2, .int p269919)]) dr_cX17_graph_208 (Nat.le_of_ble_eq_true rfl) rfl ?_
                                have hlp210_366315 : ∀ (n210_366315 : Nat) (F366313 : Nat → va_E) (g366312 : Int32), gB g366312 0 32 → RS D I P269915 F366313 γ el → rStr γ [] F269916 F366313 → ((33 : Int) - g366312.toInt).toNat < n210_366315 → G (gV D I) l (gRm 5 111 0 0) (gMA (gV D I) (pt_269921_SpillForgeModel_graph D I γ el P269915 F269916 q269917 q269918 p269919) gNA 0 0) ky_269921_SpillForgeModel_graph 210 [(10, .int g366312), (9, .int 1), (8, .int p363682), (7, .int o363759), (6, .ref q363668), (5, .int g363629), (4, .ref q360529), (3, .int g359270), (0, .ref q269917), (1, .ref q269918), (2, .int p269919)] [] (va_pl P269915 F366313) 0 0 := by
                                  intro n210_366315
                                  induction n210_366315 with
                                  | zero => intro F366313 g366312 bg366312 hT366314 hs366315 hm210_366315; exact absurd hm210_366315 (Nat.not_lt_zero _)
                                  | succ n210_366315 ih210_366315 =>
                                    intro F366313 g366312 bg366312 hT366314 hs366315 hm210_366315
                                    have hs366317 : rStr γ [] F363743 F366313 := fun b h0 hb hw => (hs366315 b h0 hb hw).trans (hs363753 b h0 hb hw).symm
                                    have he366318 : F366313 q269918 = .inr (18, [.ref q359279, .ref q359280, .int p359281, .int p359282]) := (hs366317 q269918 (rT0 htq269918 (by decide)) (rT1 htq269918 (by decide)) (rT2 htq269918 (by decide))).trans he363746
                                    have he366319 : F366313 q359279 = .inr (4, [.int p360510, .ref q360512, .int p360511]) := (hs366317 q359279 (rT0 ht359283 (by decide)) (rT1 ht359283 (by decide)) (rT2 ht359283 (by decide))).trans he363747
                                    have he366320 : F366313 q360512 = .inl (I (.object "java/lang/Object"), n360526, .inr (.inr (.inr (.inr f360527)))) := (hs366317 q360512 (rT0 r360518 (by decide)) (rT1 r360518 (by decide)) (rT2 r360518 (by decide))).trans he363748
                                    have he366321 : F366313 q360529 = .inr (17, [.ref q360538, .ref q360539, .int p360540, .int p360541]) := (hs366317 q360529 (rT0 ht360534 (by decide)) (rT1 ht360534 (by decide)) (rT2 ht360534 (by decide))).trans he363749
                                    have he366322 : F366313 q360538 = .inr (4, [.int p363649, .ref q363651, .int p363650]) := (hs366317 q360538 (rT0 ht360542 (by decide)) (rT1 ht360542 (by decide)) (rT2 ht360542 (by decide))).trans he363750
                                    have he366323 : F366313 q363651 = .inl (I (.object "java/lang/Object"), n363665, .inr (.inr (.inr (.inr f363666)))) := (hs366317 q363651 (rT0 r363657 (by decide)) (rT1 r363657 (by decide)) (rT2 r363657 (by decide))).trans he363751
                                    have he366324 : F366313 q363668 = .inr (20, [.int p363680, .int p363681, .int p363682, .int p363683, .int p363684, .int p363685, .int p363686]) := (hs366317 q363668 (rT0 ht363671 (by decide)) (rT1 ht363671 (by decide)) (rT2 ht363671 (by decide))).trans he363752
                                    have hs366325 : rStr γ [] F269916 F366313 := rStr_tr hs363753 hs366317
                                    refine G_iload 0 dr_cX17_graph_210 rfl ?_
                                    refine G_bipush 32 dr_cX17_graph_212 (by decide +kernel) ?_
                                    refine G_icmp_ge 243 dr_cX17_graph_214 (by decide +kernel) (fun hc366326 => ?_) (fun hc366326 => ?_)
                                    · have r366327 : 32 ≤ g366312.toInt := gj_leL hc366326 (show Int32.toInt 32 = 32 by decide)
                                      have bg366312' : gB g366312 32 32 := ⟨by omega, by omega⟩
                                      refine G_iload 2 dr_cX17_graph_243 rfl ?_
                                      refine G_if_lt 265 dr_cX17_graph_245 (by decide +kernel) (fun hc => absurd (show False by have := gj_lt hc (show Int32.toInt 0 = 0 by decide); omega) not_false) (fun _ => ?_)
                                      refine G_iload 1 dr_cX17_graph_248 rfl ?_
                                      refine G_if_ne 265 dr_cX17_graph_250 (by decide +kernel) (fun _ => ?_) (fun hc => absurd hc (by decide))
                                      refine G_aload_n 8 dr_cX17_graph_265 rfl ?_
                                      have hm366328 : q269917 ∈ P269915 := RS_m hT366314 htq269917 (by decide)
                                      obtain ⟨q366330, q366331, p366332, p366333, p366334, p366335, p366336, p366337, p366338, p366339, p366340, p366341, p366342, p366343, p366344, p366345, p366346, he366329, hB366373, ht366347, ht366348, ht366349, ht366350, ht366351, ht366352, ht366353, ht366354, ht366355, ht366356, ht366357, ht366358, ht366359, ht366360, ht366361, ht366362, ht366363, ht366364, ht366365, ht366366, ht366367, ht366368, ht366369, ht366370, hB366374⟩ := show rk_10 γ (F366313 q269917) from RS_o hT366314 htq269917
                                      refine Gp_get 1 hm366328 he366329 dr_cX17_graph_266 (gk_X17 D I) (Nat.le_of_ble_eq_true rfl) wr_7_75 rfl ?_
                                      refine G_iload 3 dr_cX17_graph_269 rfl ?_
                                      have hm366375 : (γ 9 1) ∈ P269915 := RS_m hT366314 ht366350 (by decide)
                                      obtain ⟨f366377, he366376, hg366378⟩ := show rk_13 I γ (F366313 (γ 9 1)) from RS_o hT366314 ht366350
                                      obtain ⟨q366379, hx366381⟩ : ∃ x, x = γ 11 o363759.toInt.toNat := ⟨_, rfl⟩
                                      have ht366380 : rKd γ q366379 36 := by rw [hx366381]; exact (hg366378 _ (show o363759.toInt.toNat < 2000 by omega)).2.1
                                      refine Gp_aald 5 hm366375 he366376 dr_cX17_graph_271 rfl rfl (gB_in bo363759' (by decide) (by decide)) ?_
                                      rw [show f366377 o363759.toNatClampNeg = some q366379 from (hg366378 _ (show o363759.toInt.toNat < 2000 by omega)).1.trans (by rw [hx366381])]
                                      change G _ _ _ _ _ _ _ (.ref q366379 :: _) _ _ _
                                      refine G_iload 3 dr_cX17_graph_272 rfl ?_
                                      have hm366382 : q366379 ∈ P269915 := RS_m hT366314 ht366380 (by decide)
                                      obtain ⟨f366384, he366383, wf366384⟩ := show rk_36 I (F366313 q366379) from RS_o hT366314 ht366380
                                      refine Gw_callS (As := [.ref q366379, .int o363759]) (gV_ok D I) (cp_1873_SpillForgeModel_clear l hl0 D I P269915 F366313 q366379 o363759 f366384 hm366382 he366383 bo363759' wf366384) dr_cX17_graph_274 ⟨wr_10_185, wr_1_14, wr_10_187, by decide, rfl, (Nat.le_of_ble_eq_true rfl), (Nat.le_of_ble_eq_true rfl)⟩ wr_10_186 (show 0 + 0 ≤ 0 by first | omega | decide) (show 0 + 0 ≤ 0 by first | omega | decide) (Nat.le_of_ble_eq_true rfl) (fun r366388 w366389 dc366385 ds366386 hp366387 => ?_) (fun _ _ _ _ _ z => z.elim)
                                      obtain ⟨F366392, f366390, rfl, rfl, hfr366394, he366395, hdc, hds, x366391⟩ := hp366387
                                      have he366396 : F366392 q269918 = .inr (18, [.ref q359279, .ref q359280, .int p359281, .int p359282]) := (hfr366394 q269918 hm359277 (nm_c (rn_oa he366318 he366383) nm_n)).trans he366318
                                      have he366397 : F366392 q359279 = .inr (4, [.int p360510, .ref q360512, .int p360511]) := (hfr366394 q359279 hm360508 (nm_c (rn_oa he366319 he366383) nm_n)).trans he366319
                                      have he366398 : F366392 q360512 = .inl (I (.object "java/lang/Object"), n360526, .inr (.inr (.inr (.inr f360527)))) := (hfr366394 q360512 hm360528 (nm_c (rn_ref_long he366320 he366383) nm_n)).trans he366320
                                      have he366399 : F366392 q360529 = .inr (17, [.ref q360538, .ref q360539, .int p360540, .int p360541]) := (hfr366394 q360529 hm360536 (nm_c (rn_oa he366321 he366383) nm_n)).trans he366321
                                      have he366400 : F366392 q360538 = .inr (4, [.int p363649, .ref q363651, .int p363650]) := (hfr366394 q360538 hm363647 (nm_c (rn_oa he366322 he366383) nm_n)).trans he366322
                                      have he366401 : F366392 q363651 = .inl (I (.object "java/lang/Object"), n363665, .inr (.inr (.inr (.inr f363666)))) := (hfr366394 q363651 hm363667 (nm_c (rn_ref_long he366323 he366383) nm_n)).trans he366323
                                      have he366402 : F366392 q363668 = .inr (20, [.int p363680, .int p363681, .int p363682, .int p363683, .int p363684, .int p363685, .int p363686]) := (hfr366394 q363668 hm363678 (nm_c (rn_oa he366324 he366383) nm_n)).trans he366324
                                      have he366403 : F366392 q269917 = .inr (22, [.ref (γ 9 0), .ref (γ 9 1), .ref (γ 9 2), .ref (γ 9 3), .ref (γ 9 4), .ref (γ 9 5), .ref (γ 9 6), .ref (γ 9 7), .ref (γ 9 8), .int p366332, .int p366333, .int p366334, .int p366335, .int p366336, .int p366337, .ref (γ 9 15), .ref (γ 9 16), .ref (γ 9 17), .ref (γ 9 18), .ref (γ 9 19), .ref (γ 9 20), .ref (γ 9 21), .ref (γ 9 22), .int p366338, .int p366339, .int p366340, .int p366341, .int p366342, .ref q366330, .ref (γ 9 29), .int p366343, .ref (γ 9 31), .int p366344, .int p366345, .int p366346, .ref q366331]) := (hfr366394 q269917 hm366328 (nm_c (rn_oa he366329 he366383) nm_n)).trans he366329
                                      have he366404 : F366392 (γ 9 1) = .inl (I (.array .long), 2000, .inr (.inr (.inr (.inr f366377)))) := (hfr366394 (γ 9 1) hm366375 (nm_c (rn_ref_long he366376 he366383) nm_n)).trans he366376
                                      have hfr366405 : rFr [q366379] P269915 F366313 F366392 := rFr_call (rSub_rf (P := P269915)) (rFr_rf (W := []) (P := P269915) (F := F366313)) hfr366394 (fun b hb hn => ⟨nm_n, (nm_c (fun e => hn (e ▸ List.mem_cons_self)) nm_n)⟩)
                                      change G _ _ _ _ _ _ _ _ _ _ _
                                      refine G_widen (cs' := 0) (sl' := 0) (by omega) (by omega) ?_
                                      have hT366406 : RS D I P269915 F366392 γ el := RS_fr hT366314 hfr366405 ht366380 (by decide) ⟨f366390, he366395, x366391⟩
                                      have hs366407 : rStr γ [] F269916 F366392 := rStr_fr hT366314 hs366315 hfr366405 ht366380 (by decide)
                                      refine G_aload_n 8 dr_cX17_graph_277 rfl ?_
                                      refine G_aload 4 dr_cX17_graph_278 rfl ?_
                                      refine G_iload_n 10 dr_cX17_graph_280 rfl ?_
                                      refine Gw_callV (As := [.ref q363668, .int p269919]) (gV_ok D I) (ct_3919_SpillForgeModel_back l hl0 D I γ el P269915 F366392 q269917 q363668 p269919 hT366406 htq269917 ht363671 (gB_w bp269919' (by decide) (by decide))) dr_cX17_graph_281 ⟨wr_10_174, wr_1_14, wr_10_177, by decide, rfl, (Nat.le_of_ble_eq_true rfl), (Nat.le_of_ble_eq_true rfl)⟩ wr_10_176 wr_p_96 hm366328 he366403 rfl (show 0 + 0 ≤ 0 by first | omega | decide) (show 0 + 0 ≤ 0 by first | omega | decide) (Nat.le_of_ble_eq_true rfl) (fun r366411 w366412 dc366408 ds366409 hp366410 => ?_) (fun _ _ _ _ _ z => z.elim)
                                      obtain ⟨F366413, rfl, rfl, hT366414, hs366415, hdc, hds⟩ := hp366410
                                      have he366416 : F366413 q269918 = .inr (18, [.ref q359279, .ref q359280, .int p359281, .int p359282]) := (hs366415 q269918 (rT0 htq269918 (by decide)) (rT1 htq269918 (by decide)) (rT2 htq269918 (by decide))).trans he366396
                                      have he366417 : F366413 q359279 = .inr (4, [.int p360510, .ref q360512, .int p360511]) := (hs366415 q359279 (rT0 ht359283 (by decide)) (rT1 ht359283 (by decide)) (rT2 ht359283 (by decide))).trans he366397
                                      have he366418 : F366413 q360512 = .inl (I (.object "java/lang/Object"), n360526, .inr (.inr (.inr (.inr f360527)))) := (hs366415 q360512 (rT0 r360518 (by decide)) (rT1 r360518 (by decide)) (rT2 r360518 (by decide))).trans he366398
                                      have he366419 : F366413 q360529 = .inr (17, [.ref q360538, .ref q360539, .int p360540, .int p360541]) := (hs366415 q360529 (rT0 ht360534 (by decide)) (rT1 ht360534 (by decide)) (rT2 ht360534 (by decide))).trans he366399
                                      have he366420 : F366413 q360538 = .inr (4, [.int p363649, .ref q363651, .int p363650]) := (hs366415 q360538 (rT0 ht360542 (by decide)) (rT1 ht360542 (by decide)) (rT2 ht360542 (by decide))).trans he366400
                                      have he366421 : F366413 q363651 = .inl (I (.object "java/lang/Object"), n363665, .inr (.inr (.inr (.inr f363666)))) := (hs366415 q363651 (rT0 r363657 (by decide)) (rT1 r363657 (by decide)) (rT2 r363657 (by decide))).trans he366401
                                      have he366422 : F366413 q363668 = .inr (20, [.int p363680, .int p363681, .int p363682, .int p363683, .int p363684, .int p363685, .int p363686]) := (hs366415 q363668 (rT0 ht363671 (by decide)) (rT1 ht363671 (by decide)) (rT2 ht363671 (by decide))).trans he366402
                                      have hs366423 : rStr γ [] F269916 F366413 := rStr_tr hs366407 hs366415
                                      change G _ _ _ _ _ _ _ _ _ _ _
                                      refine G_widen (cs' := 0) (sl' := 0) (by omega) (by omega) ?_
                                      obtain ⟨z366424, hz366424⟩ : ∃ z : Int32, z = g363629 + Int32.ofInt (-1) := ⟨_, rfl⟩
                                      have ez366424 : z366424.toInt = g363629.toInt + (-1) := gI_inc hz366424 (by decide) bg363629' (by decide) (by decide)
                                      have bz366424 : gB z366424 (-1) 999998 := ⟨by omega, by omega⟩
                                      refine G_iinc (L' := [(5, .int z366424), (10, .int g366312), (9, .int 1), (8, .int p363682), (7, .int o363759), (6, .ref q363668), (4, .ref q360529), (3, .int g359270), (0, .ref q269917), (1, .ref q269918), (2, .int p269919)]) z366424 5 dr_cX17_graph_284 rfl hz366424.symm (Nat.le_of_ble_eq_true rfl) rfl ?_
                                      refine G_goto 109 dr_cX17_graph_287 (by decide +kernel) ?_
                                      refine G_lv (L' := [(5, .int z366424), (4, .ref q360529), (3, .int g359270), (0, .ref q269917), (1, .ref q269918), (2, .int p269919)]) [0, 6, 7, 8, 9, 10] rfl ?_
                                      exact ih109_363633 F366413 z366424 (gB_w bz366424 (by decide) (by decide)) hT366414 hs366423 (by omega) (by omega)
                                    · have r366425 : g366312.toInt < 32 := gj_nleL hc366326 (show Int32.toInt 32 = 32 by decide)
                                      have bg366312' : gB g366312 0 31 := ⟨by omega, by omega⟩
                                      refine G_aload_n 8 dr_cX17_graph_217 rfl ?_
                                      have hm366426 : q269917 ∈ P269915 := RS_m hT366314 htq269917 (by decide)
                                      obtain ⟨q366428, q366429, p366430, p366431, p366432, p366433, p366434, p366435, p366436, p366437, p366438, p366439, p366440, p366441, p366442, p366443, p366444, he366427, hB366471, ht366445, ht366446, ht366447, ht366448, ht366449, ht366450, ht366451, ht366452, ht366453, ht366454, ht366455, ht366456, ht366457, ht366458, ht366459, ht366460, ht366461, ht366462, ht366463, ht366464, ht366465, ht366466, ht366467, ht366468, hB366472⟩ := show rk_10 γ (F366313 q269917) from RS_o hT366314 htq269917
                                      refine Gp_get 1 hm366426 he366427 dr_cX17_graph_218 (gk_X17 D I) (Nat.le_of_ble_eq_true rfl) wr_7_75 rfl ?_
                                      refine G_iload 3 dr_cX17_graph_221 rfl ?_
                                      have hm366473 : (γ 9 1) ∈ P269915 := RS_m hT366314 ht366448 (by decide)
                                      obtain ⟨f366475, he366474, hg366476⟩ := show rk_13 I γ (F366313 (γ 9 1)) from RS_o hT366314 ht366448
                                      obtain ⟨q366477, hx366479⟩ : ∃ x, x = γ 11 o363759.toInt.toNat := ⟨_, rfl⟩
                                      have ht366478 : rKd γ q366477 36 := by rw [hx366479]; exact (hg366476 _ (show o363759.toInt.toNat < 2000 by omega)).2.1
                                      refine Gp_aald 5 hm366473 he366474 dr_cX17_graph_223 rfl rfl (gB_in bo363759' (by decide) (by decide)) ?_
                                      rw [show f366475 o363759.toNatClampNeg = some q366477 from (hg366476 _ (show o363759.toInt.toNat < 2000 by omega)).1.trans (by rw [hx366479])]
                                      change G _ _ _ _ _ _ _ (.ref q366477 :: _) _ _ _
                                      refine G_iload 0 dr_cX17_graph_224 rfl ?_
                                      refine G_dup2_11 dr_cX17_graph_226 rfl rfl ?_
                                      have hm366480 : q366477 ∈ P269915 := RS_m hT366314 ht366478 (by decide)
                                      obtain ⟨f366482, he366481, wf366482⟩ := show rk_36 I (F366313 q366477) from RS_o hT366314 ht366478
                                      refine Gp_lald 2 hm366480 he366481 dr_cX17_graph_227 rfl (gB_in bg366312' (by decide) (by decide)) (G_namL fun u366483 hu366483 => ?_)
                                      have qu366483 : lb_Q u366483 (2000 - 64 * g366312.toInt) := lb_Wld hu366483 wf366482 (by omega) (by omega) (lb_Mod0 (by omega) (by omega))
                                      refine G_aload_n 8 dr_cX17_graph_228 rfl ?_
                                      refine Gp_get 2 hm366426 he366427 dr_cX17_graph_229 (gk_X17 D I) (Nat.le_of_ble_eq_true rfl) wr_7_76 rfl ?_
                                      refine G_iload 0 dr_cX17_graph_232 rfl ?_
                                      have hm366484 : (γ 9 2) ∈ P269915 := RS_m hT366314 ht366449 (by decide)
                                      obtain ⟨f366486, he366485, wf366486⟩ := show rk_35 I (F366313 (γ 9 2)) from RS_o hT366314 ht366449
                                      refine Gp_lald 2 hm366484 he366485 dr_cX17_graph_234 rfl (gB_in bg366312' (by decide) (by decide)) (G_namL fun u366487 hu366487 => ?_)
                                      have qu366487 : lb_Q u366487 (2000 - 64 * g366312.toInt) := lb_Wld hu366487 wf366486 (by omega) (by omega) (lb_Mod0 (by omega) (by omega))
                                      refine G_lor dr_cX17_graph_235 (G_namL fun u366488 hu366488 => ?_)
                                      have qu366488 : lb_Q u366488 (2000 - 64 * g366312.toInt) := lb_Qor hu366488 qu366483 qu366487
                                      refine Gp_last 2 hm366480 he366481 dr_cX17_graph_236 rfl (gB_in bg366312' (by decide) (by decide)) (fun F366489 e366490 n366491 => ?_)
                                      obtain ⟨f366492, hf366492⟩ : ∃ z, z = vp_updL f366482 g366312.toNatClampNeg u366488 := ⟨_, rfl⟩
                                      rw [← hf366492] at e366490
                                      have he366493 : F366489 q269918 = .inr (18, [.ref q359279, .ref q359280, .int p359281, .int p359282]) := (n366491 q269918 (rn_oa he366318 he366481)).trans he366318
                                      have he366494 : F366489 q359279 = .inr (4, [.int p360510, .ref q360512, .int p360511]) := (n366491 q359279 (rn_oa he366319 he366481)).trans he366319
                                      have he366495 : F366489 q360512 = .inl (I (.object "java/lang/Object"), n360526, .inr (.inr (.inr (.inr f360527)))) := (n366491 q360512 (rn_ref_long he366320 he366481)).trans he366320
                                      have he366496 : F366489 q360529 = .inr (17, [.ref q360538, .ref q360539, .int p360540, .int p360541]) := (n366491 q360529 (rn_oa he366321 he366481)).trans he366321
                                      have he366497 : F366489 q360538 = .inr (4, [.int p363649, .ref q363651, .int p363650]) := (n366491 q360538 (rn_oa he366322 he366481)).trans he366322
                                      have he366498 : F366489 q363651 = .inl (I (.object "java/lang/Object"), n363665, .inr (.inr (.inr (.inr f363666)))) := (n366491 q363651 (rn_ref_long he366323 he366481)).trans he366323
                                      have he366499 : F366489 q363668 = .inr (20, [.int p363680, .int p363681, .int p363682, .int p363683, .int p363684, .int p363685, .int p363686]) := (n366491 q363668 (rn_oa he366324 he366481)).trans he366324
                                      have he366500 : F366489 q269917 = .inr (22, [.ref (γ 9 0), .ref (γ 9 1), .ref (γ 9 2), .ref (γ 9 3), .ref (γ 9 4), .ref (γ 9 5), .ref (γ 9 6), .ref (γ 9 7), .ref (γ 9 8), .int p366430, .int p366431, .int p366432, .int p366433, .int p366434, .int p366435, .ref (γ 9 15), .ref (γ 9 16), .ref (γ 9 17), .ref (γ 9 18), .ref (γ 9 19), .ref (γ 9 20), .ref (γ 9 21), .ref (γ 9 22), .int p366436, .int p366437, .int p366438, .int p366439, .int p366440, .ref q366428, .ref (γ 9 29), .int p366441, .ref (γ 9 31), .int p366442, .int p366443, .int p366444, .ref q366429]) := (n366491 q269917 (rn_oa he366427 he366481)).trans he366427
                                      have he366501 : F366489 (γ 9 1) = .inl (I (.array .long), 2000, .inr (.inr (.inr (.inr f366475)))) := (n366491 (γ 9 1) (rn_ref_long he366474 he366481)).trans he366474
                                      have he366502 : F366489 (γ 9 2) = .inl (I .long, 32, .inr (.inl f366486)) := (n366491 (γ 9 2) (rn_ty ht366449 ht366478 (by decide))).trans he366485
                                      have he366503 : F366489 q366477 = .inl (I .long, 32, .inr (.inl f366492)) := e366490
                                      have hs366504 : rStr γ [] F269916 F366489 := rStr_put hs366315 n366491 ht366478 (by decide)
                                      have wf366492 : lb_W f366492 (32) (32) (2000) := lb_Wst hf366492 wf366482 (by omega) (lb_Mod0 (by omega) (by omega)) qu366488
                                      obtain ⟨z366505, hz366505⟩ : ∃ z : Int32, z = g366312 + Int32.ofInt 1 := ⟨_, rfl⟩
                                      have ez366505 : z366505.toInt = g366312.toInt + 1 := gI_inc hz366505 (by decide) bg366312' (by decide) (by decide)
                                      have bz366505 : gB z366505 1 32 := ⟨by omega, by omega⟩
                                      refine G_iinc (L' := [(10, .int z366505), (9, .int 1), (8, .int p363682), (7, .int o363759), (6, .ref q363668), (5, .int g363629), (4, .ref q360529), (3, .int g359270), (0, .ref q269917), (1, .ref q269918), (2, .int p269919)]) z366505 0 dr_cX17_graph_237 rfl hz366505.symm (Nat.le_of_ble_eq_true rfl) rfl ?_
                                      refine G_goto 210 dr_cX17_graph_240 (by decide +kernel) ?_
                                      have hT366506 : RS D I P269915 F366489 γ el := RS_set hT366314 n366491 ht366478 (by decide) ⟨f366492, he366503, wf366492⟩
                                      exact ih210_366315 F366489 z366505 (gB_w bz366505 (by decide) (by decide)) hT366506 hs366504 (by have qa0 : Int32.toInt 1 = 1 := (by decide); omega)
                                exact hlp210_366315 (((33 : Int) - 0).toNat + 1) F363743 0 (gB_w (gBl (show Int32.toInt 0 = 0 by decide)) (by decide) (by decide)) hT363744 hs363753 (Nat.lt_succ_self _)
              exact hlp109_363633 (((z360752.toInt : Int) - (-2)).toNat + 1) F360728 z360752 bz360752 hT360729 hs360735 (by omega) (Nat.lt_succ_self _)
        exact hlp56_359273 (((1000001 : Int) - 0).toNat + 1) F352026 0 (gB_w (gBl (show Int32.toInt 0 = 0 by decide)) (by decide) (by decide)) hT352027 hs352028 (Nat.lt_succ_self _)
      · have r366507 : g352025.toInt < 2000 := gj_nleL hc352032 (show Int32.toInt 2000 = 2000 by decide)
        have bg352025' : gB g352025 0 1999 := ⟨by omega, by omega⟩
        refine G_aload_n 1 dr_cX17_graph_15 rfl ?_
        have hm366508 : q269917 ∈ P269915 := RS_m hT352027 htq269917 (by decide)
        obtain ⟨q366510, q366511, p366512, p366513, p366514, p366515, p366516, p366517, p366518, p366519, p366520, p366521, p366522, p366523, p366524, p366525, p366526, he366509, hB366553, ht366527, ht366528, ht366529, ht366530, ht366531, ht366532, ht366533, ht366534, ht366535, ht366536, ht366537, ht366538, ht366539, ht366540, ht366541, ht366542, ht366543, ht366544, ht366545, ht366546, ht366547, ht366548, ht366549, ht366550, hB366554⟩ := show rk_10 γ (F352026 q269917) from RS_o hT352027 htq269917
        refine Gp_get 3 hm366508 he366509 dr_cX17_graph_16 (gk_X17 D I) (Nat.le_of_ble_eq_true rfl) wr_7_77 rfl ?_
        refine G_iload_n 0 dr_cX17_graph_19 rfl ?_
        refine G_iconst 0 dr_cX17_graph_20 (by decide +kernel) ?_
        have hm366555 : (γ 9 3) ∈ P269915 := RS_m hT352027 ht366532 (by decide)
        obtain ⟨f366557, he366556, bf366557⟩ := show rk_14 I (F352026 (γ 9 3)) from RS_o hT352027 ht366532
        refine Gp_zast 3 hm366555 he366556 dr_cX17_graph_21 rfl (gB_in bg352025' (by decide) (by decide)) (fun F366558 e366559 n366560 => ?_)
        obtain ⟨f366561, hf366561⟩ : ∃ z, z = upd f366557 g352025.toNatClampNeg (vp_nar .boolean 0) := ⟨_, rfl⟩
        rw [← hf366561] at e366559
        have he366562 : F366558 q269917 = .inr (22, [.ref (γ 9 0), .ref (γ 9 1), .ref (γ 9 2), .ref (γ 9 3), .ref (γ 9 4), .ref (γ 9 5), .ref (γ 9 6), .ref (γ 9 7), .ref (γ 9 8), .int p366512, .int p366513, .int p366514, .int p366515, .int p366516, .int p366517, .ref (γ 9 15), .ref (γ 9 16), .ref (γ 9 17), .ref (γ 9 18), .ref (γ 9 19), .ref (γ 9 20), .ref (γ 9 21), .ref (γ 9 22), .int p366518, .int p366519, .int p366520, .int p366521, .int p366522, .ref q366510, .ref (γ 9 29), .int p366523, .ref (γ 9 31), .int p366524, .int p366525, .int p366526, .ref q366511]) := (n366560 q269917 (rn_oa he366509 he366556)).trans he366509
        have he366563 : F366558 (γ 9 3) = .inl (I .boolean, 2000, .inl f366561) := e366559
        have hs366564 : rStr γ [] F269916 F366558 := rStr_put hs352028 n366560 ht366532 (by decide)
        have bf366561 : gF f366561 0 1 := gF_upd hf366561 bf366557 (gB_w (gBl (show Int32.toInt 0 = 0 by decide)) (by decide) (by decide))
        refine G_iconst 0 dr_cX17_graph_22 (by decide +kernel) ?_
        refine G_istore (L' := [(4, .int 0), (3, .int g352025), (0, .ref q269917), (1, .ref q269918), (2, .int p269919)]) dr_cX17_graph_23 (Nat.le_of_ble_eq_true rfl) rfl ?_
        have hT366565 : RS D I P269915 F366558 γ el := RS_set hT352027 n366560 ht366532 (by decide) ⟨f366561, he366563, bf366561⟩
        have hlp25_366646 : ∀ (n25_366646 : Nat) (F366644 : Nat → va_E) (g366643 : Int32), gB g366643 0 32 → RS D I P269915 F366644 γ el → rStr γ [] F269916 F366644 → ((33 : Int) - g366643.toInt).toNat < n25_366646 → G (gV D I) l (gRm 5 111 0 0) (gMA (gV D I) (pt_269921_SpillForgeModel_graph D I γ el P269915 F269916 q269917 q269918 p269919) gNA 0 0) ky_269921_SpillForgeModel_graph 25 [(4, .int g366643), (3, .int g352025), (0, .ref q269917), (1, .ref q269918), (2, .int p269919)] [] (va_pl P269915 F366644) 0 0 := by
          intro n25_366646
          induction n25_366646 with
          | zero => intro F366644 g366643 bg366643 hT366645 hs366646 hm25_366646; exact absurd hm25_366646 (Nat.not_lt_zero _)
          | succ n25_366646 ih25_366646 =>
            intro F366644 g366643 bg366643 hT366645 hs366646 hm25_366646
            have hs366648 : rStr γ [] F366558 F366644 := fun b h0 hb hw => (hs366646 b h0 hb hw).trans (hs366564 b h0 hb hw).symm
            have hs366649 : rStr γ [] F269916 F366644 := rStr_tr hs366564 hs366648
            refine G_iload 0 dr_cX17_graph_25 rfl ?_
            refine G_bipush 32 dr_cX17_graph_27 (by decide +kernel) ?_
            refine G_icmp_ge 48 dr_cX17_graph_29 (by decide +kernel) (fun hc366650 => ?_) (fun hc366650 => ?_)
            · have r366651 : 32 ≤ g366643.toInt := gj_leL hc366650 (show Int32.toInt 32 = 32 by decide)
              have bg366643' : gB g366643 32 32 := ⟨by omega, by omega⟩
              obtain ⟨z366652, hz366652⟩ : ∃ z : Int32, z = g352025 + Int32.ofInt 1 := ⟨_, rfl⟩
              have ez366652 : z366652.toInt = g352025.toInt + 1 := gI_inc hz366652 (by decide) bg352025' (by decide) (by decide)
              have bz366652 : gB z366652 1 2000 := ⟨by omega, by omega⟩
              refine G_iinc (L' := [(3, .int z366652), (4, .int g366643), (0, .ref q269917), (1, .ref q269918), (2, .int p269919)]) z366652 1 dr_cX17_graph_48 rfl hz366652.symm (Nat.le_of_ble_eq_true rfl) rfl ?_
              refine G_goto 8 dr_cX17_graph_51 (by decide +kernel) ?_
              refine G_lv (L' := [(3, .int z366652), (0, .ref q269917), (1, .ref q269918), (2, .int p269919)]) [0, 2, 3, 4] rfl ?_
              exact ih8_352028 F366644 z366652 (gB_w bz366652 (by decide) (by decide)) hT366645 hs366646 (by omega)
            · have r366653 : g366643.toInt < 32 := gj_nleL hc366650 (show Int32.toInt 32 = 32 by decide)
              have bg366643' : gB g366643 0 31 := ⟨by omega, by omega⟩
              refine G_aload_n 2 dr_cX17_graph_32 rfl ?_
              have hm366654 : q269917 ∈ P269915 := RS_m hT366645 htq269917 (by decide)
              obtain ⟨q366656, q366657, p366658, p366659, p366660, p366661, p366662, p366663, p366664, p366665, p366666, p366667, p366668, p366669, p366670, p366671, p366672, he366655, hB366699, ht366673, ht366674, ht366675, ht366676, ht366677, ht366678, ht366679, ht366680, ht366681, ht366682, ht366683, ht366684, ht366685, ht366686, ht366687, ht366688, ht366689, ht366690, ht366691, ht366692, ht366693, ht366694, ht366695, ht366696, hB366700⟩ := show rk_10 γ (F366644 q269917) from RS_o hT366645 htq269917
              refine Gp_get 1 hm366654 he366655 dr_cX17_graph_33 (gk_X17 D I) (Nat.le_of_ble_eq_true rfl) wr_7_75 rfl ?_
              refine G_iload_n 1 dr_cX17_graph_36 rfl ?_
              have hm366701 : (γ 9 1) ∈ P269915 := RS_m hT366645 ht366676 (by decide)
              obtain ⟨f366703, he366702, hg366704⟩ := show rk_13 I γ (F366644 (γ 9 1)) from RS_o hT366645 ht366676
              obtain ⟨q366705, hx366707⟩ : ∃ x, x = γ 11 g352025.toInt.toNat := ⟨_, rfl⟩
              have ht366706 : rKd γ q366705 36 := by rw [hx366707]; exact (hg366704 _ (show g352025.toInt.toNat < 2000 by omega)).2.1
              refine Gp_aald 5 hm366701 he366702 dr_cX17_graph_37 rfl rfl (gB_in bg352025' (by decide) (by decide)) ?_
              rw [show f366703 g352025.toNatClampNeg = some q366705 from (hg366704 _ (show g352025.toInt.toNat < 2000 by omega)).1.trans (by rw [hx366707])]
              change G _ _ _ _ _ _ _ (.ref q366705 :: _) _ _ _
              refine G_iload 0 dr_cX17_graph_38 rfl ?_
              refine G_lconst 0 dr_cX17_graph_40 rfl ?_
              have hm366708 : q366705 ∈ P269915 := RS_m hT366645 ht366706 (by decide)
              obtain ⟨f366710, he366709, wf366710⟩ := show rk_36 I (F366644 q366705) from RS_o hT366645 ht366706
              refine Gp_last 2 hm366708 he366709 dr_cX17_graph_41 rfl (gB_in bg366643' (by decide) (by decide)) (fun F366711 e366712 n366713 => ?_)
              obtain ⟨f366714, hf366714⟩ : ∃ z, z = vp_updL f366710 g366643.toNatClampNeg 0 := ⟨_, rfl⟩
              rw [← hf366714] at e366712
              have he366715 : F366711 q269917 = .inr (22, [.ref (γ 9 0), .ref (γ 9 1), .ref (γ 9 2), .ref (γ 9 3), .ref (γ 9 4), .ref (γ 9 5), .ref (γ 9 6), .ref (γ 9 7), .ref (γ 9 8), .int p366658, .int p366659, .int p366660, .int p366661, .int p366662, .int p366663, .ref (γ 9 15), .ref (γ 9 16), .ref (γ 9 17), .ref (γ 9 18), .ref (γ 9 19), .ref (γ 9 20), .ref (γ 9 21), .ref (γ 9 22), .int p366664, .int p366665, .int p366666, .int p366667, .int p366668, .ref q366656, .ref (γ 9 29), .int p366669, .ref (γ 9 31), .int p366670, .int p366671, .int p366672, .ref q366657]) := (n366713 q269917 (rn_oa he366655 he366709)).trans he366655
              have he366716 : F366711 (γ 9 1) = .inl (I (.array .long), 2000, .inr (.inr (.inr (.inr f366703)))) := (n366713 (γ 9 1) (rn_ref_long he366702 he366709)).trans he366702
              have he366717 : F366711 q366705 = .inl (I .long, 32, .inr (.inl f366714)) := e366712
              have hs366718 : rStr γ [] F269916 F366711 := rStr_put hs366646 n366713 ht366706 (by decide)
              have wf366714 : lb_W f366714 (32) (32) (2000) := lb_Wst hf366714 wf366710 (by omega) (lb_Mod0 (by omega) (by omega)) lb_Q0
              obtain ⟨z366719, hz366719⟩ : ∃ z : Int32, z = g366643 + Int32.ofInt 1 := ⟨_, rfl⟩
              have ez366719 : z366719.toInt = g366643.toInt + 1 := gI_inc hz366719 (by decide) bg366643' (by decide) (by decide)
              have bz366719 : gB z366719 1 32 := ⟨by omega, by omega⟩
              refine G_iinc (L' := [(4, .int z366719), (3, .int g352025), (0, .ref q269917), (1, .ref q269918), (2, .int p269919)]) z366719 0 dr_cX17_graph_42 rfl hz366719.symm (Nat.le_of_ble_eq_true rfl) rfl ?_
              refine G_goto 25 dr_cX17_graph_45 (by decide +kernel) ?_
              have hT366720 : RS D I P269915 F366711 γ el := RS_set hT366645 n366713 ht366706 (by decide) ⟨f366714, he366717, wf366714⟩
              exact ih25_366646 F366711 z366719 (gB_w bz366719 (by decide) (by decide)) hT366720 hs366718 (by omega)
        exact hlp25_366646 (((33 : Int) - 0).toNat + 1) F366558 0 (gB_w (gBl (show Int32.toInt 0 = 0 by decide)) (by decide) (by decide)) hT366565 hs366564 (Nat.lt_succ_self _)
  exact hlp8_352028 (((2001 : Int) - 0).toNat + 1) F269974 0 (gB_w (gBl (show Int32.toInt 0 = 0 by decide)) (by decide) (by decide)) hT269975 hs269977 (Nat.lt_succ_self _)
