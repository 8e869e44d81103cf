theorem dr_cX17_graph_0 : decode cX17_graph 0 = .ok (.aload_n 0, 1) := by decide +kernel
theorem dr_cX17_graph_1 : decode cX17_graph 1 = .ok (.aload_n 1, 1) := by decide +kernel
theorem dr_cX17_graph_2 : decode cX17_graph 2 = .ok (.iload_n 2, 1) := by decide +kernel
theorem dr_cX17_graph_3 : decode cX17_graph 3 = .ok (.invokevirtual 127, 3) := by decide +kernel
theorem wr_10_156 : (Jvm.Cond.methodLink "SpillForgeModel" (127 : Nat) ({ cls := "SpillForgeModel", name := "findLive", desc := "(LSpillForgeModel$Code;Z)V" } : Jvm.MethodName)) ∈ gw := gw_10 156 rfl rfl
theorem wr_10_159 : (Jvm.Cond.code ({ cls := "SpillForgeModel", name := "findLive", desc := "(LSpillForgeModel$Code;Z)V" } : Jvm.MethodName) prog_14_method_9_code (7 : Nat) (Option.none : Option Jvm.ClassFile.FieldType)) ∈ gw := gw_10 159 rfl rfl
theorem wr_10_158 : (Jvm.Cond.instanceMethod ({ cls := "SpillForgeModel", name := "findLive", desc := "(LSpillForgeModel$Code;Z)V" } : Jvm.MethodName)) ∈ gw := gw_10 158 rfl rfl
theorem wr_p_94 : Cond.selects "SpillForgeModel" ⟨"SpillForgeModel", "findLive", "(LSpillForgeModel$Code;Z)V"⟩ ⟨"SpillForgeModel", "findLive", "(LSpillForgeModel$Code;Z)V"⟩ ∈ gw := gw_p _ 94 rfl rfl rfl
theorem dr_cX17_graph_6 : decode cX17_graph 6 = .ok (.iconst 0, 1) := by decide +kernel
theorem dr_cX17_graph_7 : decode cX17_graph 7 = .ok (.istore_n 3, 1) := by decide +kernel
theorem dr_cX17_graph_8 : decode cX17_graph 8 = .ok (.iload_n 3, 1) := by decide +kernel
theorem dr_cX17_graph_9 : decode cX17_graph 9 = .ok (.sipush 2000, 3) := by decide +kernel
theorem dr_cX17_graph_12 : decode cX17_graph 12 = .ok (.if_icmp .ge 42, 3) := by decide +kernel
theorem dr_cX17_graph_54 : decode cX17_graph 54 = .ok (.iconst 0, 1) := by decide +kernel
theorem dr_cX17_graph_55 : decode cX17_graph 55 = .ok (.istore_n 3, 1) := by decide +kernel
theorem dr_cX17_graph_56 : decode cX17_graph 56 = .ok (.iload_n 3, 1) := by decide +kernel
theorem dr_cX17_graph_57 : decode cX17_graph 57 = .ok (.aload_n 1, 1) := by decide +kernel
theorem dr_cX17_graph_58 : decode cX17_graph 58 = .ok (.invokevirtual 96, 3) := by decide +kernel
theorem dr_cX17_graph_61 : decode cX17_graph 61 = .ok (.if_icmp .ge 235, 3) := by decide +kernel
theorem dr_cX17_graph_296 : decode cX17_graph 296 = .ok (.iconst 0, 1) := by decide +kernel
theorem dr_cX17_graph_297 : decode cX17_graph 297 = .ok (.istore_n 3, 1) := by decide +kernel
theorem dr_cX17_graph_298 : decode cX17_graph 298 = .ok (.iload_n 3, 1) := by decide +kernel
theorem dr_cX17_graph_299 : decode cX17_graph 299 = .ok (.sipush 2000, 3) := by decide +kernel
theorem dr_cX17_graph_302 : decode cX17_graph 302 = .ok (.if_icmp .ge 87, 3) := by decide +kernel
theorem dr_cX17_graph_389 : decode cX17_graph 389 = .ok (.return_, 1) := by decide +kernel
theorem dr_cX17_graph_305 : decode cX17_graph 305 = .ok (.aload_n 0, 1) := by decide +kernel
theorem dr_cX17_graph_306 : decode cX17_graph 306 = .ok (.getfield 131, 3) := by decide +kernel
theorem dr_cX17_graph_309 : decode cX17_graph 309 = .ok (.iload_n 3, 1) := by decide +kernel
theorem dr_cX17_graph_310 : decode cX17_graph 310 = .ok (.baload, 1) := by decide +kernel
theorem dr_cX17_graph_311 : decode cX17_graph 311 = .ok (.ifCond .ne 6, 3) := by decide +kernel
theorem dr_cX17_graph_317 : decode cX17_graph 317 = .ok (.iconst 0, 1) := by decide +kernel
theorem dr_cX17_graph_318 : decode cX17_graph 318 = .ok (.istore 4, 2) := by decide +kernel
theorem dr_cX17_graph_320 : decode cX17_graph 320 = .ok (.iload 4, 2) := by decide +kernel
theorem dr_cX17_graph_322 : decode cX17_graph 322 = .ok (.bipush 32, 2) := by decide +kernel
theorem dr_cX17_graph_324 : decode cX17_graph 324 = .ok (.if_icmp .ge 59, 3) := by decide +kernel
theorem dr_cX17_graph_383 : decode cX17_graph 383 = .ok (.iinc 3 1, 3) := by decide +kernel
theorem dr_cX17_graph_386 : decode cX17_graph 386 = .ok (.goto (-88), 3) := by decide +kernel
theorem dr_cX17_graph_327 : decode cX17_graph 327 = .ok (.aload_n 0, 1) := by decide +kernel
theorem dr_cX17_graph_328 : decode cX17_graph 328 = .ok (.getfield 135, 3) := by decide +kernel
theorem dr_cX17_graph_331 : decode cX17_graph 331 = .ok (.iload_n 3, 1) := by decide +kernel
theorem dr_cX17_graph_332 : decode cX17_graph 332 = .ok (.aaload, 1) := by decide +kernel
theorem dr_cX17_graph_333 : decode cX17_graph 333 = .ok (.iload 4, 2) := by decide +kernel
theorem dr_cX17_graph_335 : decode cX17_graph 335 = .ok (.laload, 1) := by decide +kernel
theorem dr_cX17_graph_336 : decode cX17_graph 336 = .ok (.lstore 5, 2) := by decide +kernel
theorem dr_cX17_graph_338 : decode cX17_graph 338 = .ok (.lload 5, 2) := by decide +kernel
theorem dr_cX17_graph_340 : decode cX17_graph 340 = .ok (.lconst 0, 1) := by decide +kernel
theorem dr_cX17_graph_341 : decode cX17_graph 341 = .ok (.lcmp, 1) := by decide +kernel
theorem dr_cX17_graph_342 : decode cX17_graph 342 = .ok (.ifCond .eq 35, 3) := by decide +kernel
theorem dr_cX17_graph_377 : decode cX17_graph 377 = .ok (.iinc 4 1, 3) := by decide +kernel
theorem dr_cX17_graph_380 : decode cX17_graph 380 = .ok (.goto (-60), 3) := by decide +kernel
theorem dr_cX17_graph_345 : decode cX17_graph 345 = .ok (.aload_n 0, 1) := by decide +kernel
theorem dr_cX17_graph_346 : decode cX17_graph 346 = .ok (.getfield 135, 3) := by decide +kernel
theorem dr_cX17_graph_349 : decode cX17_graph 349 = .ok (.bipush 64, 2) := by decide +kernel
theorem dr_cX17_graph_351 : decode cX17_graph 351 = .ok (.iload 4, 2) := by decide +kernel
theorem dr_cX17_graph_353 : decode cX17_graph 353 = .ok (.imul, 1) := by decide +kernel
theorem dr_cX17_graph_354 : decode cX17_graph 354 = .ok (.lload 5, 2) := by decide +kernel
theorem dr_cX17_graph_356 : decode cX17_graph 356 = .ok (.invokestatic 149, 3) := by decide +kernel
theorem wr_11_1 : (Jvm.Cond.methodLink "SpillForgeModel" (149 : Nat) ({ cls := "java/lang/Long", name := "numberOfTrailingZeros", desc := "(J)I" } : Jvm.MethodName)) ∈ gw := gw_11 1 rfl rfl
theorem wr_11_3 : (Jvm.Cond.code ({ cls := "java/lang/Long", name := "numberOfTrailingZeros", desc := "(J)I" } : Jvm.MethodName) prog_31_method_49_code (3 : Nat) (Option.some Jvm.ClassFile.FieldType.int)) ∈ gw := gw_11 3 rfl rfl
theorem wr_11_2 : (Jvm.Cond.static ({ cls := "java/lang/Long", name := "numberOfTrailingZeros", desc := "(J)I" } : Jvm.MethodName)) ∈ gw := gw_11 2 rfl rfl
theorem dr_cX17_graph_359 : decode cX17_graph 359 = .ok (.iadd, 1) := by decide +kernel
theorem dr_cX17_graph_360 : decode cX17_graph 360 = .ok (.aaload, 1) := by decide +kernel
theorem dr_cX17_graph_361 : decode cX17_graph 361 = .ok (.iload_n 3, 1) := by decide +kernel
theorem dr_cX17_graph_362 : decode cX17_graph 362 = .ok (.invokestatic 67, 3) := by decide +kernel
theorem dr_cX17_graph_365 : decode cX17_graph 365 = .ok (.lload 5, 2) := by decide +kernel
theorem dr_cX17_graph_367 : decode cX17_graph 367 = .ok (.lload 5, 2) := by decide +kernel
theorem dr_cX17_graph_369 : decode cX17_graph 369 = .ok (.lconst 1, 1) := by decide +kernel
theorem dr_cX17_graph_370 : decode cX17_graph 370 = .ok (.lsub, 1) := by decide +kernel
theorem dr_cX17_graph_371 : decode cX17_graph 371 = .ok (.land, 1) := by decide +kernel
theorem dr_cX17_graph_372 : decode cX17_graph 372 = .ok (.lstore 5, 2) := by decide +kernel
theorem dr_cX17_graph_374 : decode cX17_graph 374 = .ok (.goto (-36), 3) := by decide +kernel
theorem dr_cX17_graph_314 : decode cX17_graph 314 = .ok (.goto 69, 3) := by decide +kernel
theorem dr_cX17_graph_64 : decode cX17_graph 64 = .ok (.aload_n 1, 1) := by decide +kernel
theorem dr_cX17_graph_65 : decode cX17_graph 65 = .ok (.iload_n 3, 1) := by decide +kernel
theorem dr_cX17_graph_66 : decode cX17_graph 66 = .ok (.invokevirtual 101, 3) := by decide +kernel
theorem dr_cX17_graph_69 : decode cX17_graph 69 = .ok (.astore 4, 2) := by decide +kernel
theorem dr_cX17_graph_71 : decode cX17_graph 71 = .ok (.aload_n 0, 1) := by decide +kernel
theorem dr_cX17_graph_72 : decode cX17_graph 72 = .ok (.aload 4, 2) := by decide +kernel
theorem dr_cX17_graph_74 : decode cX17_graph 74 = .ok (.invokevirtual 105, 3) := by decide +kernel
theorem dr_cX17_graph_77 : decode cX17_graph 77 = .ok (.aload_n 0, 1) := by decide +kernel
theorem dr_cX17_graph_78 : decode cX17_graph 78 = .ok (.aload 4, 2) := by decide +kernel
theorem dr_cX17_graph_80 : decode cX17_graph 80 = .ok (.getfield 109, 3) := by decide +kernel
theorem dr_cX17_graph_83 : decode cX17_graph 83 = .ok (.iload_n 2, 1) := by decide +kernel
theorem dr_cX17_graph_84 : decode cX17_graph 84 = .ok (.invokevirtual 138, 3) := by decide +kernel
theorem wr_10_237 : (Jvm.Cond.methodLink "SpillForgeModel" (138 : Nat) ({ cls := "SpillForgeModel", name := "stand", desc := "(LSpillForgeModel$Row;Z)V" } : Jvm.MethodName)) ∈ gw := gw_10 237 rfl rfl
theorem wr_11_0 : (Jvm.Cond.code ({ cls := "SpillForgeModel", name := "stand", desc := "(LSpillForgeModel$Row;Z)V" } : Jvm.MethodName) prog_14_method_11_code (4 : Nat) (Option.none : Option Jvm.ClassFile.FieldType)) ∈ gw := gw_11 0 rfl rfl
theorem wr_10_239 : (Jvm.Cond.instanceMethod ({ cls := "SpillForgeModel", name := "stand", desc := "(LSpillForgeModel$Row;Z)V" } : Jvm.MethodName)) ∈ gw := gw_10 239 rfl rfl
theorem wr_p_100 : Cond.selects "SpillForgeModel" ⟨"SpillForgeModel", "stand", "(LSpillForgeModel$Row;Z)V"⟩ ⟨"SpillForgeModel", "stand", "(LSpillForgeModel$Row;Z)V"⟩ ∈ gw := gw_p _ 100 rfl rfl rfl
theorem dr_cX17_graph_87 : decode cX17_graph 87 = .ok (.aload_n 0, 1) := by decide +kernel
theorem dr_cX17_graph_88 : decode cX17_graph 88 = .ok (.aload 4, 2) := by decide +kernel
theorem dr_cX17_graph_90 : decode cX17_graph 90 = .ok (.getfield 109, 3) := by decide +kernel
theorem dr_cX17_graph_93 : decode cX17_graph 93 = .ok (.iload_n 2, 1) := by decide +kernel
theorem dr_cX17_graph_94 : decode cX17_graph 94 = .ok (.invokevirtual 113, 3) := by decide +kernel
theorem dr_cX17_graph_97 : decode cX17_graph 97 = .ok (.aload 4, 2) := by decide +kernel
theorem dr_cX17_graph_99 : decode cX17_graph 99 = .ok (.getfield 117, 3) := by decide +kernel
theorem dr_cX17_graph_102 : decode cX17_graph 102 = .ok (.invokevirtual 121, 3) := by decide +kernel
theorem dr_cX17_graph_105 : decode cX17_graph 105 = .ok (.iconst 1, 1) := by decide +kernel
theorem dr_cX17_graph_106 : decode cX17_graph 106 = .ok (.isub, 1) := by decide +kernel
theorem dr_cX17_graph_107 : decode cX17_graph 107 = .ok (.istore 5, 2) := by decide +kernel
theorem dr_cX17_graph_109 : decode cX17_graph 109 = .ok (.iload 5, 2) := by decide +kernel
theorem dr_cX17_graph_111 : decode cX17_graph 111 = .ok (.ifCond .lt 179, 3) := by decide +kernel
theorem dr_cX17_graph_290 : decode cX17_graph 290 = .ok (.iinc 3 1, 3) := by decide +kernel
theorem dr_cX17_graph_293 : decode cX17_graph 293 = .ok (.goto (-237), 3) := by decide +kernel
theorem dr_cX17_graph_114 : decode cX17_graph 114 = .ok (.aload 4, 2) := by decide +kernel
theorem dr_cX17_graph_116 : decode cX17_graph 116 = .ok (.getfield 117, 3) := by decide +kernel
theorem dr_cX17_graph_119 : decode cX17_graph 119 = .ok (.iload 5, 2) := by decide +kernel
theorem dr_cX17_graph_121 : decode cX17_graph 121 = .ok (.invokevirtual 124, 3) := by decide +kernel
theorem dr_cX17_graph_124 : decode cX17_graph 124 = .ok (.checkcast 40, 3) := by decide +kernel
theorem dr_cX17_graph_127 : decode cX17_graph 127 = .ok (.astore 6, 2) := by decide +kernel
theorem dr_cX17_graph_129 : decode cX17_graph 129 = .ok (.aload_n 0, 1) := by decide +kernel
theorem dr_cX17_graph_130 : decode cX17_graph 130 = .ok (.aload 6, 2) := by decide +kernel
theorem dr_cX17_graph_132 : decode cX17_graph 132 = .ok (.iload_n 2, 1) := by decide +kernel
theorem dr_cX17_graph_133 : decode cX17_graph 133 = .ok (.invokevirtual 138, 3) := by decide +kernel
theorem dr_cX17_graph_136 : decode cX17_graph 136 = .ok (.aload 6, 2) := by decide +kernel
theorem dr_cX17_graph_138 : decode cX17_graph 138 = .ok (.iload_n 2, 1) := by decide +kernel
theorem dr_cX17_graph_139 : decode cX17_graph 139 = .ok (.invokestatic 55, 3) := by decide +kernel
theorem dr_cX17_graph_142 : decode cX17_graph 142 = .ok (.istore 7, 2) := by decide +kernel
theorem dr_cX17_graph_144 : decode cX17_graph 144 = .ok (.iload_n 2, 1) := by decide +kernel
theorem dr_cX17_graph_145 : decode cX17_graph 145 = .ok (.ifCond .ne 27, 3) := by decide +kernel
theorem dr_cX17_graph_172 : decode cX17_graph 172 = .ok (.iconst (-1), 1) := by decide +kernel
theorem dr_cX17_graph_173 : decode cX17_graph 173 = .ok (.istore 8, 2) := by decide +kernel
theorem dr_cX17_graph_175 : decode cX17_graph 175 = .ok (.iload 7, 2) := by decide +kernel
theorem dr_cX17_graph_177 : decode cX17_graph 177 = .ok (.ifCond .lt 100, 3) := by decide +kernel
theorem dr_cX17_graph_277 : decode cX17_graph 277 = .ok (.aload_n 0, 1) := by decide +kernel
theorem dr_cX17_graph_278 : decode cX17_graph 278 = .ok (.aload 6, 2) := by decide +kernel
theorem dr_cX17_graph_280 : decode cX17_graph 280 = .ok (.iload_n 2, 1) := by decide +kernel
theorem dr_cX17_graph_281 : decode cX17_graph 281 = .ok (.invokevirtual 113, 3) := by decide +kernel
theorem dr_cX17_graph_284 : decode cX17_graph 284 = .ok (.iinc 5 (-1), 3) := by decide +kernel
theorem dr_cX17_graph_287 : decode cX17_graph 287 = .ok (.goto (-178), 3) := by decide +kernel
theorem dr_cX17_graph_180 : decode cX17_graph 180 = .ok (.iload 8, 2) := by decide +kernel
theorem dr_cX17_graph_182 : decode cX17_graph 182 = .ok (.ifCond .lt 22, 3) := by decide +kernel
theorem dr_cX17_graph_204 : decode cX17_graph 204 = .ok (.iconst 0, 1) := by decide +kernel
theorem dr_cX17_graph_205 : decode cX17_graph 205 = .ok (.istore 9, 2) := by decide +kernel
theorem dr_cX17_graph_207 : decode cX17_graph 207 = .ok (.iconst 0, 1) := by decide +kernel
theorem dr_cX17_graph_208 : decode cX17_graph 208 = .ok (.istore 10, 2) := by decide +kernel
theorem dr_cX17_graph_210 : decode cX17_graph 210 = .ok (.iload 10, 2) := by decide +kernel
theorem dr_cX17_graph_212 : decode cX17_graph 212 = .ok (.bipush 32, 2) := by decide +kernel
theorem dr_cX17_graph_214 : decode cX17_graph 214 = .ok (.if_icmp .ge 29, 3) := by decide +kernel
theorem dr_cX17_graph_243 : decode cX17_graph 243 = .ok (.iload 8, 2) := by decide +kernel
theorem dr_cX17_graph_245 : decode cX17_graph 245 = .ok (.ifCond .lt 20, 3) := by decide +kernel
theorem dr_cX17_graph_265 : decode cX17_graph 265 = .ok (.aload_n 0, 1) := by decide +kernel
theorem dr_cX17_graph_266 : decode cX17_graph 266 = .ok (.getfield 135, 3) := by decide +kernel
theorem dr_cX17_graph_269 : decode cX17_graph 269 = .ok (.iload 7, 2) := by decide +kernel
theorem dr_cX17_graph_271 : decode cX17_graph 271 = .ok (.aaload, 1) := by decide +kernel
theorem dr_cX17_graph_272 : decode cX17_graph 272 = .ok (.iload 7, 2) := by decide +kernel
theorem dr_cX17_graph_274 : decode cX17_graph 274 = .ok (.invokestatic 63, 3) := by decide +kernel
theorem dr_cX17_graph_217 : decode cX17_graph 217 = .ok (.aload_n 0, 1) := by decide +kernel
theorem dr_cX17_graph_218 : decode cX17_graph 218 = .ok (.getfield 135, 3) := by decide +kernel
theorem dr_cX17_graph_221 : decode cX17_graph 221 = .ok (.iload 7, 2) := by decide +kernel
theorem dr_cX17_graph_223 : decode cX17_graph 223 = .ok (.aaload, 1) := by decide +kernel
theorem dr_cX17_graph_224 : decode cX17_graph 224 = .ok (.iload 10, 2) := by decide +kernel
theorem dr_cX17_graph_226 : decode cX17_graph 226 = .ok (.dup2, 1) := by decide +kernel
theorem dr_cX17_graph_227 : decode cX17_graph 227 = .ok (.laload, 1) := by decide +kernel
theorem dr_cX17_graph_228 : decode cX17_graph 228 = .ok (.aload_n 0, 1) := by decide +kernel
theorem dr_cX17_graph_229 : decode cX17_graph 229 = .ok (.getfield 59, 3) := by decide +kernel
theorem dr_cX17_graph_232 : decode cX17_graph 232 = .ok (.iload 10, 2) := by decide +kernel
theorem dr_cX17_graph_234 : decode cX17_graph 234 = .ok (.laload, 1) := by decide +kernel
theorem dr_cX17_graph_235 : decode cX17_graph 235 = .ok (.lor, 1) := by decide +kernel
theorem dr_cX17_graph_236 : decode cX17_graph 236 = .ok (.lastore, 1) := by decide +kernel
theorem dr_cX17_graph_237 : decode cX17_graph 237 = .ok (.iinc 10 1, 3) := by decide +kernel
theorem dr_cX17_graph_240 : decode cX17_graph 240 = .ok (.goto (-30), 3) := by decide +kernel
theorem dr_cX17_graph_148 : decode cX17_graph 148 = .ok (.aload 6, 2) := by decide +kernel
theorem dr_cX17_graph_150 : decode cX17_graph 150 = .ok (.getfield 39, 3) := by decide +kernel
theorem dr_cX17_graph_153 : decode cX17_graph 153 = .ok (.ifCond .ne 19, 3) := by decide +kernel
theorem dr_cX17_graph_156 : decode cX17_graph 156 = .ok (.aload 6, 2) := by decide +kernel
theorem dr_cX17_graph_158 : decode cX17_graph 158 = .ok (.getfield 141, 3) := by decide +kernel
theorem dr_cX17_graph_161 : decode cX17_graph 161 = .ok (.ifCond .eq 11, 3) := by decide +kernel
theorem dr_cX17_graph_164 : decode cX17_graph 164 = .ok (.aload 6, 2) := by decide +kernel
theorem dr_cX17_graph_166 : decode cX17_graph 166 = .ok (.getfield 73, 3) := by decide +kernel
theorem dr_cX17_graph_169 : decode cX17_graph 169 = .ok (.goto 4, 3) := by decide +kernel
theorem dr_cX17_graph_185 : decode cX17_graph 185 = .ok (.aload_n 0, 1) := by decide +kernel
theorem dr_cX17_graph_186 : decode cX17_graph 186 = .ok (.getfield 135, 3) := by decide +kernel
theorem dr_cX17_graph_189 : decode cX17_graph 189 = .ok (.iload 7, 2) := by decide +kernel
theorem dr_cX17_graph_191 : decode cX17_graph 191 = .ok (.aaload, 1) := by decide +kernel
theorem dr_cX17_graph_192 : decode cX17_graph 192 = .ok (.iload 8, 2) := by decide +kernel
theorem dr_cX17_graph_194 : decode cX17_graph 194 = .ok (.invokestatic 145, 3) := by decide +kernel
theorem dr_cX17_graph_197 : decode cX17_graph 197 = .ok (.ifCond .eq 7, 3) := by decide +kernel
theorem dr_cX17_graph_248 : decode cX17_graph 248 = .ok (.iload 9, 2) := by decide +kernel
theorem dr_cX17_graph_250 : decode cX17_graph 250 = .ok (.ifCond .ne 15, 3) := by decide +kernel
theorem dr_cX17_graph_253 : decode cX17_graph 253 = .ok (.aload_n 0, 1) := by decide +kernel
theorem dr_cX17_graph_254 : decode cX17_graph 254 = .ok (.getfield 135, 3) := by decide +kernel
theorem dr_cX17_graph_257 : decode cX17_graph 257 = .ok (.iload 7, 2) := by decide +kernel
theorem dr_cX17_graph_259 : decode cX17_graph 259 = .ok (.aaload, 1) := by decide +kernel
theorem dr_cX17_graph_260 : decode cX17_graph 260 = .ok (.iload 8, 2) := by decide +kernel
theorem dr_cX17_graph_262 : decode cX17_graph 262 = .ok (.invokestatic 63, 3) := by decide +kernel
theorem dr_cX17_graph_200 : decode cX17_graph 200 = .ok (.iconst 1, 1) := by decide +kernel
theorem dr_cX17_graph_201 : decode cX17_graph 201 = .ok (.goto 4, 3) := by decide +kernel
theorem dr_cX17_graph_15 : decode cX17_graph 15 = .ok (.aload_n 0, 1) := by decide +kernel
theorem dr_cX17_graph_16 : decode cX17_graph 16 = .ok (.getfield 131, 3) := by decide +kernel
theorem dr_cX17_graph_19 : decode cX17_graph 19 = .ok (.iload_n 3, 1) := by decide +kernel
theorem dr_cX17_graph_20 : decode cX17_graph 20 = .ok (.iconst 0, 1) := by decide +kernel
theorem dr_cX17_graph_21 : decode cX17_graph 21 = .ok (.bastore, 1) := by decide +kernel
theorem dr_cX17_graph_22 : decode cX17_graph 22 = .ok (.iconst 0, 1) := by decide +kernel
theorem dr_cX17_graph_23 : decode cX17_graph 23 = .ok (.istore 4, 2) := by decide +kernel
theorem dr_cX17_graph_25 : decode cX17_graph 25 = .ok (.iload 4, 2) := by decide +kernel
theorem dr_cX17_graph_27 : decode cX17_graph 27 = .ok (.bipush 32, 2) := by decide +kernel
theorem dr_cX17_graph_29 : decode cX17_graph 29 = .ok (.if_icmp .ge 19, 3) := by decide +kernel
theorem dr_cX17_graph_48 : decode cX17_graph 48 = .ok (.iinc 3 1, 3) := by decide +kernel
theorem dr_cX17_graph_51 : decode cX17_graph 51 = .ok (.goto (-43), 3) := by decide +kernel
theorem dr_cX17_graph_32 : decode cX17_graph 32 = .ok (.aload_n 0, 1) := by decide +kernel
theorem dr_cX17_graph_33 : decode cX17_graph 33 = .ok (.getfield 135, 3) := by decide +kernel
theorem dr_cX17_graph_36 : decode cX17_graph 36 = .ok (.iload_n 3, 1) := by decide +kernel
theorem dr_cX17_graph_37 : decode cX17_graph 37 = .ok (.aaload, 1) := by decide +kernel
theorem dr_cX17_graph_38 : decode cX17_graph 38 = .ok (.iload 4, 2) := by decide +kernel
theorem dr_cX17_graph_40 : decode cX17_graph 40 = .ok (.lconst 0, 1) := by decide +kernel
theorem dr_cX17_graph_41 : decode cX17_graph 41 = .ok (.lastore, 1) := by decide +kernel
theorem dr_cX17_graph_42 : decode cX17_graph 42 = .ok (.iinc 4 1, 3) := by decide +kernel
theorem dr_cX17_graph_45 : decode cX17_graph 45 = .ok (.goto (-20), 3) := by decide +kernel
abbrev ky_275878_SpillForgeModel_back : gKey := (cX17_back, 4, "SpillForgeModel", none, [], "back", fun _ _ => True)
def pt_275878_SpillForgeModel_back (D : va_G) (I : FieldType → ClassId) (γ el : Nat → Nat → Nat) (P275873 : List Nat) (F275874 : Nat → va_E) (q275875 : Nat) (q275876 : Nat) (p275877 : Int32) : Option Value → va_W → Nat → Nat → Prop := fun r w dc ds => ∃ (F276335 : Nat → va_E), r = none ∧ w = va_pl P275873 F276335 ∧ RS D I P275873 F276335 γ el ∧ rStr γ [] F275874 F276335 ∧ dc ≤ 0 ∧ ds ≤ 0 ∧ (F276335 q275875 = F275874 q275875) ∧ (F276335 (γ 9 3) = F275874 (γ 9 3))
set_option maxRecDepth 100000 in
set_option maxHeartbeats 4000000 in
theorem ct_275878_SpillForgeModel_back (l : Launch) (hl0 : l.stackTraces = false) (D : va_G) (I : FieldType → ClassId) (γ el : Nat → Nat → Nat) (P275873 : List Nat) (F275874 : Nat → va_E) (q275875 : Nat) (q275876 : Nat) (p275877 : Int32) (hT : RS D I P275873 F275874 γ el) (htq275875 : rKd γ q275875 10) (htq275876 : rKd γ q275876 1) (bp275877 : gB p275877 0 1) : CtA (gV D I) l yX17_back cX17_back 4 none 2 41 0 0 [.ref q275875, .ref q275876, .int p275877] (va_pl P275873 F275874) (pt_275878_SpillForgeModel_back D I γ el P275873 F275874 q275875 q275876 p275877) gNA := by
  refine CtA_of hl0 (by decide) (Nat.le_of_ble_eq_true rfl) ?_
  refine G_aload_n 1 dr_cX17_back_0 rfl ?_
  refine G_iload_n 2 dr_cX17_back_1 rfl ?_
  have hm275879 : q275876 ∈ P275873 := RS_m hT htq275876 (by decide)
  obtain ⟨p275881, p275882, p275883, p275884, p275885, p275886, p275887, he275880, bp275881, bp275882, bp275885, bp275886, bp275887, r275888, r275889, r275890, r275891⟩ := show rk_1 γ q275876 (F275874 q275876) from RS_o hT htq275876
  have bp275883 := gB_any p275883
  have bp275884 := gB_any p275884
  refine Gw_callS (As := [.ref q275876, .int p275877]) (gV_ok D I) (cp_1778_SpillForgeModel_setOf l hl0 D I P275873 F275874 q275876 p275877 p275881 p275882 p275883 p275884 p275885 p275886 p275887 hm275879 he275880 bp275877 bp275881 bp275882 bp275885 bp275886 bp275887) dr_cX17_back_2 ⟨wr_10_178, wr_1_14, wr_10_180, by decide, rfl, (Nat.le_of_ble_eq_true rfl), (Nat.le_of_ble_eq_true rfl)⟩ wr_10_179 (show 0 + 0 ≤ 0 by first | omega | decide) (show 0 + 0 ≤ 0 by first | omega | decide) (Nat.le_of_ble_eq_true rfl) (fun r275895 w275896 dc275892 ds275893 hp275894 => ?_) (fun _ _ _ _ _ z => z.elim)
  obtain ⟨o275897, rfl, rfl, hdc, hds, bo275897⟩ := hp275894
  change G _ _ _ _ _ _ _ (.int o275897 :: _) _ _ _
  refine G_widen (cs' := 0) (sl' := 0) (by omega) (by omega) ?_
  refine G_istore_n (L' := [(3, .int o275897), (0, .ref q275875), (1, .ref q275876), (2, .int p275877)]) dr_cX17_back_5 (Nat.le_of_ble_eq_true rfl) rfl ?_
  refine G_iload_n 0 dr_cX17_back_6 rfl ?_
  refine G_if_lt 18 dr_cX17_back_7 (by decide +kernel) (fun hc275898 => ?_) (fun hc275898 => ?_)
  · have r275899 : o275897.toInt < 0 := gj_lt hc275898 (show Int32.toInt 0 = 0 by decide)
    have bo275897' : gB o275897 (-1) (-1) := ⟨by omega, by omega⟩
    refine G_iload_n 3 dr_cX17_back_18 rfl ?_
    refine G_if_eq 43 dr_cX17_back_19 (by decide +kernel) (fun hc275900 => ?_) (fun hc275900 => ?_)
    · have r275901 : p275877.toInt = 0 := gj_eq hc275900 (show Int32.toInt 0 = 0 by decide)
      have bp275877' : gB p275877 0 0 := gB_t0 r275901
      refine G_aload_n 2 dr_cX17_back_43 rfl ?_
      refine Gw_callV (As := []) (gV_ok D I) (cp_1669_Row_usesA l hl0 D I P275873 F275874 q275876 p275881 p275882 p275883 p275884 p275885 p275886 p275887 hm275879 he275880 bp275881 bp275882 bp275885 bp275886 bp275887) dr_cX17_back_44 ⟨wr_10_192, wr_1_39, wr_10_195, by decide, rfl, (Nat.le_of_ble_eq_true rfl), (Nat.le_of_ble_eq_true rfl)⟩ wr_10_193 wr_10_194 hm275879 he275880 rfl (show 0 + 0 ≤ 0 by first | omega | decide) (show 0 + 0 ≤ 0 by first | omega | decide) (Nat.le_of_ble_eq_true rfl) (fun r275905 w275906 dc275902 ds275903 hp275904 => ?_) (fun _ _ _ _ _ z => z.elim)
      obtain ⟨o275907, rfl, rfl, hdc, hds, bo275907, x275908⟩ := hp275904
      change G _ _ _ _ _ _ _ (.int o275907 :: _) _ _ _
      refine G_widen (cs' := 0) (sl' := 0) (by omega) (by omega) ?_
      refine G_if_eq 61 dr_cX17_back_47 (by decide +kernel) (fun hc275909 => ?_) (fun hc275909 => ?_)
      · have r275910 : o275907.toInt = 0 := gj_eq hc275909 (show Int32.toInt 0 = 0 by decide)
        have bo275907' : gB o275907 0 0 := gB_t0 r275910
        refine G_aload_n 2 dr_cX17_back_61 rfl ?_
        refine Gw_callV (As := []) (gV_ok D I) (cp_1693_Row_usesB l hl0 D I P275873 F275874 q275876 p275881 p275882 p275883 p275884 p275885 p275886 p275887 hm275879 he275880 bp275881 bp275882 bp275885 bp275886 bp275887) dr_cX17_back_62 ⟨wr_10_196, wr_1_39, wr_10_199, by decide, rfl, (Nat.le_of_ble_eq_true rfl), (Nat.le_of_ble_eq_true rfl)⟩ wr_10_197 wr_10_198 hm275879 he275880 rfl (show 0 + 0 ≤ 0 by first | omega | decide) (show 0 + 0 ≤ 0 by first | omega | decide) (Nat.le_of_ble_eq_true rfl) (fun r275914 w275915 dc275911 ds275912 hp275913 => ?_) (fun _ _ _ _ _ z => z.elim)
        obtain ⟨o275916, rfl, rfl, hdc, hds, bo275916, x275917⟩ := hp275913
        change G _ _ _ _ _ _ _ (.int o275916 :: _) _ _ _
        refine G_widen (cs' := 0) (sl' := 0) (by omega) (by omega) ?_
        refine G_if_eq 79 dr_cX17_back_65 (by decide +kernel) (fun hc275918 => ?_) (fun hc275918 => ?_)
        · have r275919 : o275916.toInt = 0 := gj_eq hc275918 (show Int32.toInt 0 = 0 by decide)
          have bo275916' : gB o275916 0 0 := gB_t0 r275919
          exact G_vretA dr_cX17_back_79 rfl (Nat.le_of_ble_eq_true rfl) (Nat.le_of_ble_eq_true rfl) ⟨F275874, rfl, rfl, hT, (rStr_rf (γ := γ) (W := []) (F := F275874)), (Nat.le_of_ble_eq_true rfl), (Nat.le_of_ble_eq_true rfl), rfl, rfl⟩
        · have r275920 : o275916.toInt ≠ 0 := gj_neq hc275918 (show Int32.toInt 0 = 0 by decide)
          have bo275916' : gB o275916 1 1 := gB_t1 bo275916 r275920
          refine G_aload_n 1 dr_cX17_back_68 rfl ?_
          have hm275921 : q275875 ∈ P275873 := RS_m hT htq275875 (by decide)
          refine rk10_e (show rk_10 γ (F275874 q275875) from RS_o hT htq275875) (fun q275923 q275924 p275925 p275926 p275927 p275928 p275929 p275930 p275931 p275932 p275933 p275934 p275935 p275936 p275937 p275938 p275939 he275922 hB275966 ht275940 ht275941 ht275942 ht275943 ht275944 ht275945 ht275946 ht275947 ht275948 ht275949 ht275950 ht275951 ht275952 ht275953 ht275954 ht275955 ht275956 ht275957 ht275958 ht275959 ht275960 ht275961 ht275962 ht275963 hB275967 => ?_)
          refine Gp_get 2 hm275921 he275922 dr_cX17_back_69 (gk_X17 D I) (Nat.le_of_ble_eq_true rfl) wr_7_76 rfl ?_
          refine G_aload_n 2 dr_cX17_back_72 rfl ?_
          refine Gp_get 3 hm275879 he275880 dr_cX17_back_73 (gk_X15 D I) (Nat.le_of_ble_eq_true rfl) wr_9_190 rfl ?_
          have hm275968 : (γ 9 2) ∈ P275873 := RS_m hT ht275944 (by decide)
          obtain ⟨f275970, he275969, wf275970⟩ := show rk_35 I (F275874 (γ 9 2)) from RS_o hT ht275944
          refine Gw_callS (As := [.ref (γ 9 2), .int p275884]) (gV_ok D I) (cp_1853_SpillForgeModel_set l hl0 D I P275873 F275874 (γ 9 2) p275884 f275970 hm275968 he275969 ⟨by omega, by omega⟩ wf275970) dr_cX17_back_76 ⟨wr_10_189, wr_1_14, wr_10_191, by decide, rfl, (Nat.le_of_ble_eq_true rfl), (Nat.le_of_ble_eq_true rfl)⟩ wr_10_190 (show 0 + 0 ≤ 0 by first | omega | decide) (show 0 + 0 ≤ 0 by first | omega | decide) (Nat.le_of_ble_eq_true rfl) (fun r275974 w275975 dc275971 ds275972 hp275973 => ?_) (fun _ _ _ _ _ z => z.elim)
          obtain ⟨F275978, f275976, rfl, rfl, hfr275980, he275981, hdc, hds, x275977⟩ := hp275973
          have he275982 : F275978 q275876 = .inr (20, [.int p275881, .int p275882, .int p275883, .int p275884, .int p275885, .int p275886, .int p275887]) := (hfr275980 q275876 hm275879 (nm_c (rn_oa he275880 he275969) nm_n)).trans he275880
          have he275983 : F275978 q275875 = .inr (22, [.ref (γ 9 0), .ref (γ 9 1), .ref (γ 9 2), .ref (γ 9 3), .ref (γ 9 4), .ref (γ 9 5), .ref (γ 9 6), .ref (γ 9 7), .ref (γ 9 8), .int p275925, .int p275926, .int p275927, .int p275928, .int p275929, .int p275930, .ref (γ 9 15), .ref (γ 9 16), .ref (γ 9 17), .ref (γ 9 18), .ref (γ 9 19), .ref (γ 9 20), .ref (γ 9 21), .ref (γ 9 22), .int p275931, .int p275932, .int p275933, .int p275934, .int p275935, .ref q275923, .ref (γ 9 29), .int p275936, .ref (γ 9 31), .int p275937, .int p275938, .int p275939, .ref q275924]) := (hfr275980 q275875 hm275921 (nm_c (rn_oa he275922 he275969) nm_n)).trans he275922
          have hfr275984 : rFr [(γ 9 2)] P275873 F275874 F275978 := rFr_call (rSub_rf (P := P275873)) (rFr_rf (W := []) (P := P275873) (F := F275874)) hfr275980 (fun b hb hn => ⟨nm_n, (nm_c (fun e => hn (e ▸ List.mem_cons_self)) nm_n)⟩)
          change G _ _ _ _ _ _ _ _ _ _ _
          refine G_widen (cs' := 0) (sl' := 0) (by omega) (by omega) ?_
          have hT275985 : RS D I P275873 F275978 γ el := RS_fr hT hfr275984 ht275944 (by decide) ⟨f275976, he275981, x275977⟩
          have hs275986 : rStr γ [] F275874 F275978 := rStr_fr hT (rStr_rf (γ := γ) (W := []) (F := F275874)) hfr275984 ht275944 (by decide)
          have kp275987 : F275978 q275875 = F275874 q275875 := hfr275984 q275875 (RS_m hT htq275875 (by decide)) (nm_c (rn_ty htq275875 ht275944 (by decide)) nm_n)
          have kp275988 : F275978 (γ 9 3) = F275874 (γ 9 3) := hfr275984 (γ 9 3) (RS_m hT ht275945 (by decide)) (nm_c (rn_ty ht275945 ht275944 (by decide)) nm_n)
          exact G_vretA dr_cX17_back_79 rfl (Nat.le_of_ble_eq_true rfl) (Nat.le_of_ble_eq_true rfl) ⟨F275978, rfl, rfl, hT275985, hs275986, (Nat.le_of_ble_eq_true rfl), (Nat.le_of_ble_eq_true rfl), kp275987, kp275988⟩
      · have r275989 : o275907.toInt ≠ 0 := gj_neq hc275909 (show Int32.toInt 0 = 0 by decide)
        have bo275907' : gB o275907 1 1 := gB_t1 bo275907 r275989
        refine G_aload_n 1 dr_cX17_back_50 rfl ?_
        have hm275990 : q275875 ∈ P275873 := RS_m hT htq275875 (by decide)
        refine rk10_e (show rk_10 γ (F275874 q275875) from RS_o hT htq275875) (fun q275992 q275993 p275994 p275995 p275996 p275997 p275998 p275999 p276000 p276001 p276002 p276003 p276004 p276005 p276006 p276007 p276008 he275991 hB276035 ht276009 ht276010 ht276011 ht276012 ht276013 ht276014 ht276015 ht276016 ht276017 ht276018 ht276019 ht276020 ht276021 ht276022 ht276023 ht276024 ht276025 ht276026 ht276027 ht276028 ht276029 ht276030 ht276031 ht276032 hB276036 => ?_)
        refine Gp_get 2 hm275990 he275991 dr_cX17_back_51 (gk_X17 D I) (Nat.le_of_ble_eq_true rfl) wr_7_76 rfl ?_
        refine G_aload_n 2 dr_cX17_back_54 rfl ?_
        refine Gp_get 2 hm275879 he275880 dr_cX17_back_55 (gk_X15 D I) (Nat.le_of_ble_eq_true rfl) wr_9_186 rfl ?_
        have hm276037 : (γ 9 2) ∈ P275873 := RS_m hT ht276013 (by decide)
        obtain ⟨f276039, he276038, wf276039⟩ := show rk_35 I (F275874 (γ 9 2)) from RS_o hT ht276013
        refine Gw_callS (As := [.ref (γ 9 2), .int p275883]) (gV_ok D I) (cp_1853_SpillForgeModel_set l hl0 D I P275873 F275874 (γ 9 2) p275883 f276039 hm276037 he276038 ⟨by omega, by omega⟩ wf276039) dr_cX17_back_58 ⟨wr_10_189, wr_1_14, wr_10_191, by decide, rfl, (Nat.le_of_ble_eq_true rfl), (Nat.le_of_ble_eq_true rfl)⟩ wr_10_190 (show 0 + 0 ≤ 0 by first | omega | decide) (show 0 + 0 ≤ 0 by first | omega | decide) (Nat.le_of_ble_eq_true rfl) (fun r276043 w276044 dc276040 ds276041 hp276042 => ?_) (fun _ _ _ _ _ z => z.elim)
        obtain ⟨F276047, f276045, rfl, rfl, hfr276049, he276050, hdc, hds, x276046⟩ := hp276042
        have he276051 : F276047 q275876 = .inr (20, [.int p275881, .int p275882, .int p275883, .int p275884, .int p275885, .int p275886, .int p275887]) := (hfr276049 q275876 hm275879 (nm_c (rn_oa he275880 he276038) nm_n)).trans he275880
        have he276052 : F276047 q275875 = .inr (22, [.ref (γ 9 0), .ref (γ 9 1), .ref (γ 9 2), .ref (γ 9 3), .ref (γ 9 4), .ref (γ 9 5), .ref (γ 9 6), .ref (γ 9 7), .ref (γ 9 8), .int p275994, .int p275995, .int p275996, .int p275997, .int p275998, .int p275999, .ref (γ 9 15), .ref (γ 9 16), .ref (γ 9 17), .ref (γ 9 18), .ref (γ 9 19), .ref (γ 9 20), .ref (γ 9 21), .ref (γ 9 22), .int p276000, .int p276001, .int p276002, .int p276003, .int p276004, .ref q275992, .ref (γ 9 29), .int p276005, .ref (γ 9 31), .int p276006, .int p276007, .int p276008, .ref q275993]) := (hfr276049 q275875 hm275990 (nm_c (rn_oa he275991 he276038) nm_n)).trans he275991
        have hfr276053 : rFr [(γ 9 2)] P275873 F275874 F276047 := rFr_call (rSub_rf (P := P275873)) (rFr_rf (W := []) (P := P275873) (F := F275874)) hfr276049 (fun b hb hn => ⟨nm_n, (nm_c (fun e => hn (e ▸ List.mem_cons_self)) nm_n)⟩)
        change G _ _ _ _ _ _ _ _ _ _ _
        refine G_widen (cs' := 0) (sl' := 0) (by omega) (by omega) ?_
        have hT276054 : RS D I P275873 F276047 γ el := RS_fr hT hfr276053 ht276013 (by decide) ⟨f276045, he276050, x276046⟩
        have hs276055 : rStr γ [] F275874 F276047 := rStr_fr hT (rStr_rf (γ := γ) (W := []) (F := F275874)) hfr276053 ht276013 (by decide)
        have kp276056 : F276047 q275875 = F275874 q275875 := hfr276053 q275875 (RS_m hT htq275875 (by decide)) (nm_c (rn_ty htq275875 ht276013 (by decide)) nm_n)
        have kp276057 : F276047 (γ 9 3) = F275874 (γ 9 3) := hfr276053 (γ 9 3) (RS_m hT ht276014 (by decide)) (nm_c (rn_ty ht276014 ht276013 (by decide)) nm_n)
        refine G_aload_n 2 dr_cX17_back_61 rfl ?_
        refine Gw_callV (As := []) (gV_ok D I) (cp_1693_Row_usesB l hl0 D I P275873 F276047 q275876 p275881 p275882 p275883 p275884 p275885 p275886 p275887 hm275879 he276051 bp275881 bp275882 bp275885 bp275886 bp275887) dr_cX17_back_62 ⟨wr_10_196, wr_1_39, wr_10_199, by decide, rfl, (Nat.le_of_ble_eq_true rfl), (Nat.le_of_ble_eq_true rfl)⟩ wr_10_197 wr_10_198 hm275879 he276051 rfl (show 0 + 0 ≤ 0 by first | omega | decide) (show 0 + 0 ≤ 0 by first | omega | decide) (Nat.le_of_ble_eq_true rfl) (fun r276061 w276062 dc276058 ds276059 hp276060 => ?_) (fun _ _ _ _ _ z => z.elim)
        obtain ⟨o276063, rfl, rfl, hdc, hds, bo276063, x276064⟩ := hp276060
        change G _ _ _ _ _ _ _ (.int o276063 :: _) _ _ _
        refine G_widen (cs' := 0) (sl' := 0) (by omega) (by omega) ?_
        refine G_if_eq 79 dr_cX17_back_65 (by decide +kernel) (fun hc276065 => ?_) (fun hc276065 => ?_)
        · have r276066 : o276063.toInt = 0 := gj_eq hc276065 (show Int32.toInt 0 = 0 by decide)
          have bo276063' : gB o276063 0 0 := gB_t0 r276066
          exact G_vretA dr_cX17_back_79 rfl (Nat.le_of_ble_eq_true rfl) (Nat.le_of_ble_eq_true rfl) ⟨F276047, rfl, rfl, hT276054, hs276055, (Nat.le_of_ble_eq_true rfl), (Nat.le_of_ble_eq_true rfl), kp276056, kp276057⟩
        · have r276067 : o276063.toInt ≠ 0 := gj_neq hc276065 (show Int32.toInt 0 = 0 by decide)
          have bo276063' : gB o276063 1 1 := gB_t1 bo276063 r276067
          refine G_aload_n 1 dr_cX17_back_68 rfl ?_
          refine Gp_get 2 hm275990 he276052 dr_cX17_back_69 (gk_X17 D I) (Nat.le_of_ble_eq_true rfl) wr_7_76 rfl ?_
          refine G_aload_n 2 dr_cX17_back_72 rfl ?_
          refine Gp_get 3 hm275879 he276051 dr_cX17_back_73 (gk_X15 D I) (Nat.le_of_ble_eq_true rfl) wr_9_190 rfl ?_
          refine Gw_callS (As := [.ref (γ 9 2), .int p275884]) (gV_ok D I) (cp_1853_SpillForgeModel_set l hl0 D I P275873 F276047 (γ 9 2) p275884 f276045 hm276037 he276050 ⟨by omega, by omega⟩ x276046) dr_cX17_back_76 ⟨wr_10_189, wr_1_14, wr_10_191, by decide, rfl, (Nat.le_of_ble_eq_true rfl), (Nat.le_of_ble_eq_true rfl)⟩ wr_10_190 (show 0 + 0 ≤ 0 by first | omega | decide) (show 0 + 0 ≤ 0 by first | omega | decide) (Nat.le_of_ble_eq_true rfl) (fun r276071 w276072 dc276068 ds276069 hp276070 => ?_) (fun _ _ _ _ _ z => z.elim)
          obtain ⟨F276075, f276073, rfl, rfl, hfr276077, he276078, hdc, hds, x276074⟩ := hp276070
          have he276079 : F276075 q275876 = .inr (20, [.int p275881, .int p275882, .int p275883, .int p275884, .int p275885, .int p275886, .int p275887]) := (hfr276077 q275876 hm275879 (nm_c (rn_oa he276051 he276050) nm_n)).trans he276051
          have he276080 : F276075 q275875 = .inr (22, [.ref (γ 9 0), .ref (γ 9 1), .ref (γ 9 2), .ref (γ 9 3), .ref (γ 9 4), .ref (γ 9 5), .ref (γ 9 6), .ref (γ 9 7), .ref (γ 9 8), .int p275994, .int p275995, .int p275996, .int p275997, .int p275998, .int p275999, .ref (γ 9 15), .ref (γ 9 16), .ref (γ 9 17), .ref (γ 9 18), .ref (γ 9 19), .ref (γ 9 20), .ref (γ 9 21), .ref (γ 9 22), .int p276000, .int p276001, .int p276002, .int p276003, .int p276004, .ref q275992, .ref (γ 9 29), .int p276005, .ref (γ 9 31), .int p276006, .int p276007, .int p276008, .ref q275993]) := (hfr276077 q275875 hm275990 (nm_c (rn_oa he276052 he276050) nm_n)).trans he276052
          have hfr276081 : rFr [(γ 9 2)] P275873 F276047 F276075 := rFr_call (rSub_rf (P := P275873)) (rFr_rf (W := []) (P := P275873) (F := F276047)) hfr276077 (fun b hb hn => ⟨nm_n, (nm_c (fun e => hn (e ▸ List.mem_cons_self)) nm_n)⟩)
          change G _ _ _ _ _ _ _ _ _ _ _
          refine G_widen (cs' := 0) (sl' := 0) (by omega) (by omega) ?_
          have hT276082 : RS D I P275873 F276075 γ el := RS_fr hT276054 hfr276081 ht276013 (by decide) ⟨f276073, he276078, x276074⟩
          have hs276083 : rStr γ [] F275874 F276075 := rStr_fr hT276054 hs276055 hfr276081 ht276013 (by decide)
          have kp276084 : F276075 q275875 = F275874 q275875 := (hfr276081 q275875 (RS_m hT276054 htq275875 (by decide)) (nm_c (rn_ty htq275875 ht276013 (by decide)) nm_n)).trans kp276056
          have kp276085 : F276075 (γ 9 3) = F275874 (γ 9 3) := (hfr276081 (γ 9 3) (RS_m hT276054 ht276014 (by decide)) (nm_c (rn_ty ht276014 ht276013 (by decide)) nm_n)).trans kp276057
          exact G_vretA dr_cX17_back_79 rfl (Nat.le_of_ble_eq_true rfl) (Nat.le_of_ble_eq_true rfl) ⟨F276075, rfl, rfl, hT276082, hs276083, (Nat.le_of_ble_eq_true rfl), (Nat.le_of_ble_eq_true rfl), kp276084, kp276085⟩
    · have r276086 : p275877.toInt ≠ 0 := gj_neq hc275900 (show Int32.toInt 0 = 0 by decide)
      have bp275877' : gB p275877 1 1 := gB_t1 bp275877 r276086
      refine G_aload_n 2 dr_cX17_back_22 rfl ?_
      refine Gp_get 0 hm275879 he275880 dr_cX17_back_23 (gk_X15 D I) (Nat.le_of_ble_eq_true rfl) wr_9_177 rfl ?_
      refine G_bipush 21 dr_cX17_back_26 (by decide +kernel) ?_
      refine G_icmp_ne 42 dr_cX17_back_28 (by decide +kernel) (fun hc276087 => ?_) (fun hc276087 => ?_)
      · have r276088 : p275881.toInt ≠ 21 := gj_neq hc276087 (show Int32.toInt 21 = 21 by decide)
        exact G_vretA dr_cX17_back_42 rfl (Nat.le_of_ble_eq_true rfl) (Nat.le_of_ble_eq_true rfl) ⟨F275874, rfl, rfl, hT, (rStr_rf (γ := γ) (W := []) (F := F275874)), (Nat.le_of_ble_eq_true rfl), (Nat.le_of_ble_eq_true rfl), rfl, rfl⟩
      · have r276089 : p275881.toInt = 21 := gj_eq hc276087 (show Int32.toInt 21 = 21 by decide)
        have bp275881' : gB p275881 21 21 := ⟨by omega, by omega⟩
        refine G_aload_n 1 dr_cX17_back_31 rfl ?_
        have hm276090 : q275875 ∈ P275873 := RS_m hT htq275875 (by decide)
        refine rk10_e (show rk_10 γ (F275874 q275875) from RS_o hT htq275875) (fun q276092 q276093 p276094 p276095 p276096 p276097 p276098 p276099 p276100 p276101 p276102 p276103 p276104 p276105 p276106 p276107 p276108 he276091 hB276135 ht276109 ht276110 ht276111 ht276112 ht276113 ht276114 ht276115 ht276116 ht276117 ht276118 ht276119 ht276120 ht276121 ht276122 ht276123 ht276124 ht276125 ht276126 ht276127 ht276128 ht276129 ht276130 ht276131 ht276132 hB276136 => ?_)
        refine Gp_get 2 hm276090 he276091 dr_cX17_back_32 (gk_X17 D I) (Nat.le_of_ble_eq_true rfl) wr_7_76 rfl ?_
        refine G_aload_n 2 dr_cX17_back_35 rfl ?_
        refine Gp_get 4 hm275879 he275880 dr_cX17_back_36 (gk_X15 D I) (Nat.le_of_ble_eq_true rfl) wr_9_193 rfl ?_
        have hm276137 : (γ 9 2) ∈ P275873 := RS_m hT ht276113 (by decide)
        obtain ⟨f276139, he276138, wf276139⟩ := show rk_35 I (F275874 (γ 9 2)) from RS_o hT ht276113
        refine Gw_callS (As := [.ref (γ 9 2), .int p275885]) (gV_ok D I) (cp_1853_SpillForgeModel_set l hl0 D I P275873 F275874 (γ 9 2) p275885 f276139 hm276137 he276138 bp275885 wf276139) dr_cX17_back_39 ⟨wr_10_189, wr_1_14, wr_10_191, by decide, rfl, (Nat.le_of_ble_eq_true rfl), (Nat.le_of_ble_eq_true rfl)⟩ wr_10_190 (show 0 + 0 ≤ 0 by first | omega | decide) (show 0 + 0 ≤ 0 by first | omega | decide) (Nat.le_of_ble_eq_true rfl) (fun r276143 w276144 dc276140 ds276141 hp276142 => ?_) (fun _ _ _ _ _ z => z.elim)
        obtain ⟨F276147, f276145, rfl, rfl, hfr276149, he276150, hdc, hds, x276146⟩ := hp276142
        have he276151 : F276147 q275876 = .inr (20, [.int p275881, .int p275882, .int p275883, .int p275884, .int p275885, .int p275886, .int p275887]) := (hfr276149 q275876 hm275879 (nm_c (rn_oa he275880 he276138) nm_n)).trans he275880
        have he276152 : F276147 q275875 = .inr (22, [.ref (γ 9 0), .ref (γ 9 1), .ref (γ 9 2), .ref (γ 9 3), .ref (γ 9 4), .ref (γ 9 5), .ref (γ 9 6), .ref (γ 9 7), .ref (γ 9 8), .int p276094, .int p276095, .int p276096, .int p276097, .int p276098, .int p276099, .ref (γ 9 15), .ref (γ 9 16), .ref (γ 9 17), .ref (γ 9 18), .ref (γ 9 19), .ref (γ 9 20), .ref (γ 9 21), .ref (γ 9 22), .int p276100, .int p276101, .int p276102, .int p276103, .int p276104, .ref q276092, .ref (γ 9 29), .int p276105, .ref (γ 9 31), .int p276106, .int p276107, .int p276108, .ref q276093]) := (hfr276149 q275875 hm276090 (nm_c (rn_oa he276091 he276138) nm_n)).trans he276091
        have hfr276153 : rFr [(γ 9 2)] P275873 F275874 F276147 := rFr_call (rSub_rf (P := P275873)) (rFr_rf (W := []) (P := P275873) (F := F275874)) hfr276149 (fun b hb hn => ⟨nm_n, (nm_c (fun e => hn (e ▸ List.mem_cons_self)) nm_n)⟩)
        change G _ _ _ _ _ _ _ _ _ _ _
        refine G_widen (cs' := 0) (sl' := 0) (by omega) (by omega) ?_
        have hT276154 : RS D I P275873 F276147 γ el := RS_fr hT hfr276153 ht276113 (by decide) ⟨f276145, he276150, x276146⟩
        have hs276155 : rStr γ [] F275874 F276147 := rStr_fr hT (rStr_rf (γ := γ) (W := []) (F := F275874)) hfr276153 ht276113 (by decide)
        have kp276156 : F276147 q275875 = F275874 q275875 := hfr276153 q275875 (RS_m hT htq275875 (by decide)) (nm_c (rn_ty htq275875 ht276113 (by decide)) nm_n)
        have kp276157 : F276147 (γ 9 3) = F275874 (γ 9 3) := hfr276153 (γ 9 3) (RS_m hT ht276114 (by decide)) (nm_c (rn_ty ht276114 ht276113 (by decide)) nm_n)
        exact G_vretA dr_cX17_back_42 rfl (Nat.le_of_ble_eq_true rfl) (Nat.le_of_ble_eq_true rfl) ⟨F276147, rfl, rfl, hT276154, hs276155, (Nat.le_of_ble_eq_true rfl), (Nat.le_of_ble_eq_true rfl), kp276156, kp276157⟩
  · have r276158 : 0 ≤ o275897.toInt := gj_nlt hc275898 (show Int32.toInt 0 = 0 by decide)
    have bo275897' : gB o275897 0 1999 := ⟨by omega, by omega⟩
    refine G_aload_n 1 dr_cX17_back_10 rfl ?_
    have hm276159 : q275875 ∈ P275873 := RS_m hT htq275875 (by decide)
    refine rk10_e (show rk_10 γ (F275874 q275875) from RS_o hT htq275875) (fun q276161 q276162 p276163 p276164 p276165 p276166 p276167 p276168 p276169 p276170 p276171 p276172 p276173 p276174 p276175 p276176 p276177 he276160 hB276204 ht276178 ht276179 ht276180 ht276181 ht276182 ht276183 ht276184 ht276185 ht276186 ht276187 ht276188 ht276189 ht276190 ht276191 ht276192 ht276193 ht276194 ht276195 ht276196 ht276197 ht276198 ht276199 ht276200 ht276201 hB276205 => ?_)
    refine Gp_get 2 hm276159 he276160 dr_cX17_back_11 (gk_X17 D I) (Nat.le_of_ble_eq_true rfl) wr_7_76 rfl ?_
    refine G_iload_n 0 dr_cX17_back_14 rfl ?_
    have hm276206 : (γ 9 2) ∈ P275873 := RS_m hT ht276182 (by decide)
    obtain ⟨f276208, he276207, wf276208⟩ := show rk_35 I (F275874 (γ 9 2)) from RS_o hT ht276182
    refine Gw_callS (As := [.ref (γ 9 2), .int o275897]) (gV_ok D I) (cp_1873_SpillForgeModel_clear l hl0 D I P275873 F275874 (γ 9 2) o275897 f276208 hm276206 he276207 bo275897' wf276208) dr_cX17_back_15 ⟨wr_10_185, wr_1_14, wr_10_187, by decide, rfl, (Nat.le_of_ble_eq_true rfl), (Nat.le_of_ble_eq_true rfl)⟩ wr_10_186 (show 0 + 0 ≤ 0 by first | omega | decide) (show 0 + 0 ≤ 0 by first | omega | decide) (Nat.le_of_ble_eq_true rfl) (fun r276212 w276213 dc276209 ds276210 hp276211 => ?_) (fun _ _ _ _ _ z => z.elim)
    obtain ⟨F276216, f276214, rfl, rfl, hfr276218, he276219, hdc, hds, x276215⟩ := hp276211
    have he276220 : F276216 q275876 = .inr (20, [.int p275881, .int p275882, .int p275883, .int p275884, .int p275885, .int p275886, .int p275887]) := (hfr276218 q275876 hm275879 (nm_c (rn_oa he275880 he276207) nm_n)).trans he275880
    have he276221 : F276216 q275875 = .inr (22, [.ref (γ 9 0), .ref (γ 9 1), .ref (γ 9 2), .ref (γ 9 3), .ref (γ 9 4), .ref (γ 9 5), .ref (γ 9 6), .ref (γ 9 7), .ref (γ 9 8), .int p276163, .int p276164, .int p276165, .int p276166, .int p276167, .int p276168, .ref (γ 9 15), .ref (γ 9 16), .ref (γ 9 17), .ref (γ 9 18), .ref (γ 9 19), .ref (γ 9 20), .ref (γ 9 21), .ref (γ 9 22), .int p276169, .int p276170, .int p276171, .int p276172, .int p276173, .ref q276161, .ref (γ 9 29), .int p276174, .ref (γ 9 31), .int p276175, .int p276176, .int p276177, .ref q276162]) := (hfr276218 q275875 hm276159 (nm_c (rn_oa he276160 he276207) nm_n)).trans he276160
    have hfr276222 : rFr [(γ 9 2)] P275873 F275874 F276216 := rFr_call (rSub_rf (P := P275873)) (rFr_rf (W := []) (P := P275873) (F := F275874)) hfr276218 (fun b hb hn => ⟨nm_n, (nm_c (fun e => hn (e ▸ List.mem_cons_self)) nm_n)⟩)
    change G _ _ _ _ _ _ _ _ _ _ _
    refine G_widen (cs' := 0) (sl' := 0) (by omega) (by omega) ?_
    have hT276223 : RS D I P275873 F276216 γ el := RS_fr hT hfr276222 ht276182 (by decide) ⟨f276214, he276219, x276215⟩
    have hs276224 : rStr γ [] F275874 F276216 := rStr_fr hT (rStr_rf (γ := γ) (W := []) (F := F275874)) hfr276222 ht276182 (by decide)
    have kp276225 : F276216 q275875 = F275874 q275875 := hfr276222 q275875 (RS_m hT htq275875 (by decide)) (nm_c (rn_ty htq275875 ht276182 (by decide)) nm_n)
    have kp276226 : F276216 (γ 9 3) = F275874 (γ 9 3) := hfr276222 (γ 9 3) (RS_m hT ht276183 (by decide)) (nm_c (rn_ty ht276183 ht276182 (by decide)) nm_n)
    refine G_iload_n 3 dr_cX17_back_18 rfl ?_
    refine G_if_eq 43 dr_cX17_back_19 (by decide +kernel) (fun hc276227 => ?_) (fun hc276227 => ?_)
    · have r276228 : p275877.toInt = 0 := gj_eq hc276227 (show Int32.toInt 0 = 0 by decide)
      have bp275877' : gB p275877 0 0 := gB_t0 r276228
      refine G_aload_n 2 dr_cX17_back_43 rfl ?_
      refine Gw_callV (As := []) (gV_ok D I) (cp_1669_Row_usesA l hl0 D I P275873 F276216 q275876 p275881 p275882 p275883 p275884 p275885 p275886 p275887 hm275879 he276220 bp275881 bp275882 bp275885 bp275886 bp275887) dr_cX17_back_44 ⟨wr_10_192, wr_1_39, wr_10_195, by decide, rfl, (Nat.le_of_ble_eq_true rfl), (Nat.le_of_ble_eq_true rfl)⟩ wr_10_193 wr_10_194 hm275879 he276220 rfl (show 0 + 0 ≤ 0 by first | omega | decide) (show 0 + 0 ≤ 0 by first | omega | decide) (Nat.le_of_ble_eq_true rfl) (fun r276232 w276233 dc276229 ds276230 hp276231 => ?_) (fun _ _ _ _ _ z => z.elim)
      obtain ⟨o276234, rfl, rfl, hdc, hds, bo276234, x276235⟩ := hp276231
      change G _ _ _ _ _ _ _ (.int o276234 :: _) _ _ _
      refine G_widen (cs' := 0) (sl' := 0) (by omega) (by omega) ?_
      refine G_if_eq 61 dr_cX17_back_47 (by decide +kernel) (fun hc276236 => ?_) (fun hc276236 => ?_)
      · have r276237 : o276234.toInt = 0 := gj_eq hc276236 (show Int32.toInt 0 = 0 by decide)
        have bo276234' : gB o276234 0 0 := gB_t0 r276237
        refine G_aload_n 2 dr_cX17_back_61 rfl ?_
        refine Gw_callV (As := []) (gV_ok D I) (cp_1693_Row_usesB l hl0 D I P275873 F276216 q275876 p275881 p275882 p275883 p275884 p275885 p275886 p275887 hm275879 he276220 bp275881 bp275882 bp275885 bp275886 bp275887) dr_cX17_back_62 ⟨wr_10_196, wr_1_39, wr_10_199, by decide, rfl, (Nat.le_of_ble_eq_true rfl), (Nat.le_of_ble_eq_true rfl)⟩ wr_10_197 wr_10_198 hm275879 he276220 rfl (show 0 + 0 ≤ 0 by first | omega | decide) (show 0 + 0 ≤ 0 by first | omega | decide) (Nat.le_of_ble_eq_true rfl) (fun r276241 w276242 dc276238 ds276239 hp276240 => ?_) (fun _ _ _ _ _ z => z.elim)
        obtain ⟨o276243, rfl, rfl, hdc, hds, bo276243, x276244⟩ := hp276240
        change G _ _ _ _ _ _ _ (.int o276243 :: _) _ _ _
        refine G_widen (cs' := 0) (sl' := 0) (by omega) (by omega) ?_
        refine G_if_eq 79 dr_cX17_back_65 (by decide +kernel) (fun hc276245 => ?_) (fun hc276245 => ?_)
        · have r276246 : o276243.toInt = 0 := gj_eq hc276245 (show Int32.toInt 0 = 0 by decide)
          have bo276243' : gB o276243 0 0 := gB_t0 r276246
          exact G_vretA dr_cX17_back_79 rfl (Nat.le_of_ble_eq_true rfl) (Nat.le_of_ble_eq_true rfl) ⟨F276216, rfl, rfl, hT276223, hs276224, (Nat.le_of_ble_eq_true rfl), (Nat.le_of_ble_eq_true rfl), kp276225, kp276226⟩
        · have r276247 : o276243.toInt ≠ 0 := gj_neq hc276245 (show Int32.toInt 0 = 0 by decide)
          have bo276243' : gB o276243 1 1 := gB_t1 bo276243 r276247
          refine G_aload_n 1 dr_cX17_back_68 rfl ?_
          refine Gp_get 2 hm276159 he276221 dr_cX17_back_69 (gk_X17 D I) (Nat.le_of_ble_eq_true rfl) wr_7_76 rfl ?_
          refine G_aload_n 2 dr_cX17_back_72 rfl ?_
          refine Gp_get 3 hm275879 he276220 dr_cX17_back_73 (gk_X15 D I) (Nat.le_of_ble_eq_true rfl) wr_9_190 rfl ?_
          refine Gw_callS (As := [.ref (γ 9 2), .int p275884]) (gV_ok D I) (cp_1853_SpillForgeModel_set l hl0 D I P275873 F276216 (γ 9 2) p275884 f276214 hm276206 he276219 ⟨by omega, by omega⟩ x276215) dr_cX17_back_76 ⟨wr_10_189, wr_1_14, wr_10_191, by decide, rfl, (Nat.le_of_ble_eq_true rfl), (Nat.le_of_ble_eq_true rfl)⟩ wr_10_190 (show 0 + 0 ≤ 0 by first | omega | decide) (show 0 + 0 ≤ 0 by first | omega | decide) (Nat.le_of_ble_eq_true rfl) (fun r276251 w276252 dc276248 ds276249 hp276250 => ?_) (fun _ _ _ _ _ z => z.elim)
          obtain ⟨F276255, f276253, rfl, rfl, hfr276257, he276258, hdc, hds, x276254⟩ := hp276250
          have he276259 : F276255 q275876 = .inr (20, [.int p275881, .int p275882, .int p275883, .int p275884, .int p275885, .int p275886, .int p275887]) := (hfr276257 q275876 hm275879 (nm_c (rn_oa he276220 he276219) nm_n)).trans he276220
          have he276260 : F276255 q275875 = .inr (22, [.ref (γ 9 0), .ref (γ 9 1), .ref (γ 9 2), .ref (γ 9 3), .ref (γ 9 4), .ref (γ 9 5), .ref (γ 9 6), .ref (γ 9 7), .ref (γ 9 8), .int p276163, .int p276164, .int p276165, .int p276166, .int p276167, .int p276168, .ref (γ 9 15), .ref (γ 9 16), .ref (γ 9 17), .ref (γ 9 18), .ref (γ 9 19), .ref (γ 9 20), .ref (γ 9 21), .ref (γ 9 22), .int p276169, .int p276170, .int p276171, .int p276172, .int p276173, .ref q276161, .ref (γ 9 29), .int p276174, .ref (γ 9 31), .int p276175, .int p276176, .int p276177, .ref q276162]) := (hfr276257 q275875 hm276159 (nm_c (rn_oa he276221 he276219) nm_n)).trans he276221
          have hfr276261 : rFr [(γ 9 2)] P275873 F276216 F276255 := rFr_call (rSub_rf (P := P275873)) (rFr_rf (W := []) (P := P275873) (F := F276216)) hfr276257 (fun b hb hn => ⟨nm_n, (nm_c (fun e => hn (e ▸ List.mem_cons_self)) nm_n)⟩)
          change G _ _ _ _ _ _ _ _ _ _ _
          refine G_widen (cs' := 0) (sl' := 0) (by omega) (by omega) ?_
          have hT276262 : RS D I P275873 F276255 γ el := RS_fr hT276223 hfr276261 ht276182 (by decide) ⟨f276253, he276258, x276254⟩
          have hs276263 : rStr γ [] F275874 F276255 := rStr_fr hT276223 hs276224 hfr276261 ht276182 (by decide)
          have kp276264 : F276255 q275875 = F275874 q275875 := (hfr276261 q275875 (RS_m hT276223 htq275875 (by decide)) (nm_c (rn_ty htq275875 ht276182 (by decide)) nm_n)).trans kp276225
          have kp276265 : F276255 (γ 9 3) = F275874 (γ 9 3) := (hfr276261 (γ 9 3) (RS_m hT276223 ht276183 (by decide)) (nm_c (rn_ty ht276183 ht276182 (by decide)) nm_n)).trans kp276226
          exact G_vretA dr_cX17_back_79 rfl (Nat.le_of_ble_eq_true rfl) (Nat.le_of_ble_eq_true rfl) ⟨F276255, rfl, rfl, hT276262, hs276263, (Nat.le_of_ble_eq_true rfl), (Nat.le_of_ble_eq_true rfl), kp276264, kp276265⟩
      · have r276266 : o276234.toInt ≠ 0 := gj_neq hc276236 (show Int32.toInt 0 = 0 by decide)
        have bo276234' : gB o276234 1 1 := gB_t1 bo276234 r276266
        refine G_aload_n 1 dr_cX17_back_50 rfl ?_
        refine Gp_get 2 hm276159 he276221 dr_cX17_back_51 (gk_X17 D I) (Nat.le_of_ble_eq_true rfl) wr_7_76 rfl ?_
        refine G_aload_n 2 dr_cX17_back_54 rfl ?_
        refine Gp_get 2 hm275879 he276220 dr_cX17_back_55 (gk_X15 D I) (Nat.le_of_ble_eq_true rfl) wr_9_186 rfl ?_
        refine Gw_callS (As := [.ref (γ 9 2), .int p275883]) (gV_ok D I) (cp_1853_SpillForgeModel_set l hl0 D I P275873 F276216 (γ 9 2) p275883 f276214 hm276206 he276219 ⟨by omega, by omega⟩ x276215) dr_cX17_back_58 ⟨wr_10_189, wr_1_14, wr_10_191, by decide, rfl, (Nat.le_of_ble_eq_true rfl), (Nat.le_of_ble_eq_true rfl)⟩ wr_10_190 (show 0 + 0 ≤ 0 by first | omega | decide) (show 0 + 0 ≤ 0 by first | omega | decide) (Nat.le_of_ble_eq_true rfl) (fun r276270 w276271 dc276267 ds276268 hp276269 => ?_) (fun _ _ _ _ _ z => z.elim)
        obtain ⟨F276274, f276272, rfl, rfl, hfr276276, he276277, hdc, hds, x276273⟩ := hp276269
        have he276278 : F276274 q275876 = .inr (20, [.int p275881, .int p275882, .int p275883, .int p275884, .int p275885, .int p275886, .int p275887]) := (hfr276276 q275876 hm275879 (nm_c (rn_oa he276220 he276219) nm_n)).trans he276220
        have he276279 : F276274 q275875 = .inr (22, [.ref (γ 9 0), .ref (γ 9 1), .ref (γ 9 2), .ref (γ 9 3), .ref (γ 9 4), .ref (γ 9 5), .ref (γ 9 6), .ref (γ 9 7), .ref (γ 9 8), .int p276163, .int p276164, .int p276165, .int p276166, .int p276167, .int p276168, .ref (γ 9 15), .ref (γ 9 16), .ref (γ 9 17), .ref (γ 9 18), .ref (γ 9 19), .ref (γ 9 20), .ref (γ 9 21), .ref (γ 9 22), .int p276169, .int p276170, .int p276171, .int p276172, .int p276173, .ref q276161, .ref (γ 9 29), .int p276174, .ref (γ 9 31), .int p276175, .int p276176, .int p276177, .ref q276162]) := (hfr276276 q275875 hm276159 (nm_c (rn_oa he276221 he276219) nm_n)).trans he276221
        have hfr276280 : rFr [(γ 9 2)] P275873 F276216 F276274 := rFr_call (rSub_rf (P := P275873)) (rFr_rf (W := []) (P := P275873) (F := F276216)) hfr276276 (fun b hb hn => ⟨nm_n, (nm_c (fun e => hn (e ▸ List.mem_cons_self)) nm_n)⟩)
        change G _ _ _ _ _ _ _ _ _ _ _
        refine G_widen (cs' := 0) (sl' := 0) (by omega) (by omega) ?_
        have hT276281 : RS D I P275873 F276274 γ el := RS_fr hT276223 hfr276280 ht276182 (by decide) ⟨f276272, he276277, x276273⟩
        have hs276282 : rStr γ [] F275874 F276274 := rStr_fr hT276223 hs276224 hfr276280 ht276182 (by decide)
        have kp276283 : F276274 q275875 = F275874 q275875 := (hfr276280 q275875 (RS_m hT276223 htq275875 (by decide)) (nm_c (rn_ty htq275875 ht276182 (by decide)) nm_n)).trans kp276225
        have kp276284 : F276274 (γ 9 3) = F275874 (γ 9 3) := (hfr276280 (γ 9 3) (RS_m hT276223 ht276183 (by decide)) (nm_c (rn_ty ht276183 ht276182 (by decide)) nm_n)).trans kp276226
        refine G_aload_n 2 dr_cX17_back_61 rfl ?_
        refine Gw_callV (As := []) (gV_ok D I) (cp_1693_Row_usesB l hl0 D I P275873 F276274 q275876 p275881 p275882 p275883 p275884 p275885 p275886 p275887 hm275879 he276278 bp275881 bp275882 bp275885 bp275886 bp275887) dr_cX17_back_62 ⟨wr_10_196, wr_1_39, wr_10_199, by decide, rfl, (Nat.le_of_ble_eq_true rfl), (Nat.le_of_ble_eq_true rfl)⟩ wr_10_197 wr_10_198 hm275879 he276278 rfl (show 0 + 0 ≤ 0 by first | omega | decide) (show 0 + 0 ≤ 0 by first | omega | decide) (Nat.le_of_ble_eq_true rfl) (fun r276288 w276289 dc276285 ds276286 hp276287 => ?_) (fun _ _ _ _ _ z => z.elim)
        obtain ⟨o276290, rfl, rfl, hdc, hds, bo276290, x276291⟩ := hp276287
        change G _ _ _ _ _ _ _ (.int o276290 :: _) _ _ _
        refine G_widen (cs' := 0) (sl' := 0) (by omega) (by omega) ?_
        refine G_if_eq 79 dr_cX17_back_65 (by decide +kernel) (fun hc276292 => ?_) (fun hc276292 => ?_)
        · have r276293 : o276290.toInt = 0 := gj_eq hc276292 (show Int32.toInt 0 = 0 by decide)
          have bo276290' : gB o276290 0 0 := gB_t0 r276293
          exact G_vretA dr_cX17_back_79 rfl (Nat.le_of_ble_eq_true rfl) (Nat.le_of_ble_eq_true rfl) ⟨F276274, rfl, rfl, hT276281, hs276282, (Nat.le_of_ble_eq_true rfl), (Nat.le_of_ble_eq_true rfl), kp276283, kp276284⟩
        · have r276294 : o276290.toInt ≠ 0 := gj_neq hc276292 (show Int32.toInt 0 = 0 by decide)
          have bo276290' : gB o276290 1 1 := gB_t1 bo276290 r276294
          refine G_aload_n 1 dr_cX17_back_68 rfl ?_
          refine Gp_get 2 hm276159 he276279 dr_cX17_back_69 (gk_X17 D I) (Nat.le_of_ble_eq_true rfl) wr_7_76 rfl ?_
          refine G_aload_n 2 dr_cX17_back_72 rfl ?_
          refine Gp_get 3 hm275879 he276278 dr_cX17_back_73 (gk_X15 D I) (Nat.le_of_ble_eq_true rfl) wr_9_190 rfl ?_
          refine Gw_callS (As := [.ref (γ 9 2), .int p275884]) (gV_ok D I) (cp_1853_SpillForgeModel_set l hl0 D I P275873 F276274 (γ 9 2) p275884 f276272 hm276206 he276277 ⟨by omega, by omega⟩ x276273) dr_cX17_back_76 ⟨wr_10_189, wr_1_14, wr_10_191, by decide, rfl, (Nat.le_of_ble_eq_true rfl), (Nat.le_of_ble_eq_true rfl)⟩ wr_10_190 (show 0 + 0 ≤ 0 by first | omega | decide) (show 0 + 0 ≤ 0 by first | omega | decide) (Nat.le_of_ble_eq_true rfl) (fun r276298 w276299 dc276295 ds276296 hp276297 => ?_) (fun _ _ _ _ _ z => z.elim)
          obtain ⟨F276302, f276300, rfl, rfl, hfr276304, he276305, hdc, hds, x276301⟩ := hp276297
          have he276306 : F276302 q275876 = .inr (20, [.int p275881, .int p275882, .int p275883, .int p275884, .int p275885, .int p275886, .int p275887]) := (hfr276304 q275876 hm275879 (nm_c (rn_oa he276278 he276277) nm_n)).trans he276278
          have he276307 : F276302 q275875 = .inr (22, [.ref (γ 9 0), .ref (γ 9 1), .ref (γ 9 2), .ref (γ 9 3), .ref (γ 9 4), .ref (γ 9 5), .ref (γ 9 6), .ref (γ 9 7), .ref (γ 9 8), .int p276163, .int p276164, .int p276165, .int p276166, .int p276167, .int p276168, .ref (γ 9 15), .ref (γ 9 16), .ref (γ 9 17), .ref (γ 9 18), .ref (γ 9 19), .ref (γ 9 20), .ref (γ 9 21), .ref (γ 9 22), .int p276169, .int p276170, .int p276171, .int p276172, .int p276173, .ref q276161, .ref (γ 9 29), .int p276174, .ref (γ 9 31), .int p276175, .int p276176, .int p276177, .ref q276162]) := (hfr276304 q275875 hm276159 (nm_c (rn_oa he276279 he276277) nm_n)).trans he276279
          have hfr276308 : rFr [(γ 9 2)] P275873 F276274 F276302 := rFr_call (rSub_rf (P := P275873)) (rFr_rf (W := []) (P := P275873) (F := F276274)) hfr276304 (fun b hb hn => ⟨nm_n, (nm_c (fun e => hn (e ▸ List.mem_cons_self)) nm_n)⟩)
          change G _ _ _ _ _ _ _ _ _ _ _
          refine G_widen (cs' := 0) (sl' := 0) (by omega) (by omega) ?_
          have hT276309 : RS D I P275873 F276302 γ el := RS_fr hT276281 hfr276308 ht276182 (by decide) ⟨f276300, he276305, x276301⟩
          have hs276310 : rStr γ [] F275874 F276302 := rStr_fr hT276281 hs276282 hfr276308 ht276182 (by decide)
          have kp276311 : F276302 q275875 = F275874 q275875 := (hfr276308 q275875 (RS_m hT276281 htq275875 (by decide)) (nm_c (rn_ty htq275875 ht276182 (by decide)) nm_n)).trans kp276283
          have kp276312 : F276302 (γ 9 3) = F275874 (γ 9 3) := (hfr276308 (γ 9 3) (RS_m hT276281 ht276183 (by decide)) (nm_c (rn_ty ht276183 ht276182 (by decide)) nm_n)).trans kp276284
          exact G_vretA dr_cX17_back_79 rfl (Nat.le_of_ble_eq_true rfl) (Nat.le_of_ble_eq_true rfl) ⟨F276302, rfl, rfl, hT276309, hs276310, (Nat.le_of_ble_eq_true rfl), (Nat.le_of_ble_eq_true rfl), kp276311, kp276312⟩
    · have r276313 : p275877.toInt ≠ 0 := gj_neq hc276227 (show Int32.toInt 0 = 0 by decide)
      have bp275877' : gB p275877 1 1 := gB_t1 bp275877 r276313
      refine G_aload_n 2 dr_cX17_back_22 rfl ?_
      refine Gp_get 0 hm275879 he276220 dr_cX17_back_23 (gk_X15 D I) (Nat.le_of_ble_eq_true rfl) wr_9_177 rfl ?_
      refine G_bipush 21 dr_cX17_back_26 (by decide +kernel) ?_
      refine G_icmp_ne 42 dr_cX17_back_28 (by decide +kernel) (fun hc276314 => ?_) (fun hc276314 => ?_)
      · have r276315 : p275881.toInt ≠ 21 := gj_neq hc276314 (show Int32.toInt 21 = 21 by decide)
        exact G_vretA dr_cX17_back_42 rfl (Nat.le_of_ble_eq_true rfl) (Nat.le_of_ble_eq_true rfl) ⟨F276216, rfl, rfl, hT276223, hs276224, (Nat.le_of_ble_eq_true rfl), (Nat.le_of_ble_eq_true rfl), kp276225, kp276226⟩
      · have r276316 : p275881.toInt = 21 := gj_eq hc276314 (show Int32.toInt 21 = 21 by decide)
        have bp275881' : gB p275881 21 21 := ⟨by omega, by omega⟩
        refine G_aload_n 1 dr_cX17_back_31 rfl ?_
        refine Gp_get 2 hm276159 he276221 dr_cX17_back_32 (gk_X17 D I) (Nat.le_of_ble_eq_true rfl) wr_7_76 rfl ?_
        refine G_aload_n 2 dr_cX17_back_35 rfl ?_
        refine Gp_get 4 hm275879 he276220 dr_cX17_back_36 (gk_X15 D I) (Nat.le_of_ble_eq_true rfl) wr_9_193 rfl ?_
        refine Gw_callS (As := [.ref (γ 9 2), .int p275885]) (gV_ok D I) (cp_1853_SpillForgeModel_set l hl0 D I P275873 F276216 (γ 9 2) p275885 f276214 hm276206 he276219 bp275885 x276215) dr_cX17_back_39 ⟨wr_10_189, wr_1_14, wr_10_191, by decide, rfl, (Nat.le_of_ble_eq_true rfl), (Nat.le_of_ble_eq_true rfl)⟩ wr_10_190 (show 0 + 0 ≤ 0 by first | omega | decide) (show 0 + 0 ≤ 0 by first | omega | decide) (Nat.le_of_ble_eq_true rfl) (fun r276320 w276321 dc276317 ds276318 hp276319 => ?_) (fun _ _ _ _ _ z => z.elim)
        obtain ⟨F276324, f276322, rfl, rfl, hfr276326, he276327, hdc, hds, x276323⟩ := hp276319
        have he276328 : F276324 q275876 = .inr (20, [.int p275881, .int p275882, .int p275883, .int p275884, .int p275885, .int p275886, .int p275887]) := (hfr276326 q275876 hm275879 (nm_c (rn_oa he276220 he276219) nm_n)).trans he276220
        have he276329 : F276324 q275875 = .inr (22, [.ref (γ 9 0), .ref (γ 9 1), .ref (γ 9 2), .ref (γ 9 3), .ref (γ 9 4), .ref (γ 9 5), .ref (γ 9 6), .ref (γ 9 7), .ref (γ 9 8), .int p276163, .int p276164, .int p276165, .int p276166, .int p276167, .int p276168, .ref (γ 9 15), .ref (γ 9 16), .ref (γ 9 17), .ref (γ 9 18), .ref (γ 9 19), .ref (γ 9 20), .ref (γ 9 21), .ref (γ 9 22), .int p276169, .int p276170, .int p276171, .int p276172, .int p276173, .ref q276161, .ref (γ 9 29), .int p276174, .ref (γ 9 31), .int p276175, .int p276176, .int p276177, .ref q276162]) := (hfr276326 q275875 hm276159 (nm_c (rn_oa he276221 he276219) nm_n)).trans he276221
        have hfr276330 : rFr [(γ 9 2)] P275873 F276216 F276324 := rFr_call (rSub_rf (P := P275873)) (rFr_rf (W := []) (P := P275873) (F := F276216)) hfr276326 (fun b hb hn => ⟨nm_n, (nm_c (fun e => hn (e ▸ List.mem_cons_self)) nm_n)⟩)
        change G _ _ _ _ _ _ _ _ _ _ _
        refine G_widen (cs' := 0) (sl' := 0) (by omega) (by omega) ?_
        have hT276331 : RS D I P275873 F276324 γ el := RS_fr hT276223 hfr276330 ht276182 (by decide) ⟨f276322, he276327, x276323⟩
        have hs276332 : rStr γ [] F275874 F276324 := rStr_fr hT276223 hs276224 hfr276330 ht276182 (by decide)
        have kp276333 : F276324 q275875 = F275874 q275875 := (hfr276330 q275875 (RS_m hT276223 htq275875 (by decide)) (nm_c (rn_ty htq275875 ht276182 (by decide)) nm_n)).trans kp276225
        have kp276334 : F276324 (γ 9 3) = F275874 (γ 9 3) := (hfr276330 (γ 9 3) (RS_m hT276223 ht276183 (by decide)) (nm_c (rn_ty ht276183 ht276182 (by decide)) nm_n)).trans kp276226
        exact G_vretA dr_cX17_back_42 rfl (Nat.le_of_ble_eq_true rfl) (Nat.le_of_ble_eq_true rfl) ⟨F276324, rfl, rfl, hT276331, hs276332, (Nat.le_of_ble_eq_true rfl), (Nat.le_of_ble_eq_true rfl), kp276333, kp276334⟩
abbrev ky_269178_SpillForgeModel_graph : gKey := (cX17_graph, 11, "SpillForgeModel", none, [], "graph", fun _ _ => True)
def pt_269178_SpillForgeModel_graph (D : va_G) (I : FieldType → ClassId) (γ el : Nat → Nat → Nat) (P269172 : List Nat) (F269173 : Nat → va_E) (q269174 : Nat) (q269175 : Nat) (p269176 : Int32) : Option Value → va_W → Nat → Nat → Prop := fun r w dc ds => ∃ (F326335 : Nat → va_E), r = none ∧ w = va_pl P269172 F326335 ∧ RS D I P269172 F326335 γ el ∧ rStr γ [] F269173 F326335 ∧ dc ≤ 0 ∧ ds ≤ 0 ∧ (gIp (p269176.toInt = 0) (rGr γ el F269173 q269175 (γ 6 (γ 1 q269175)) (cB (F326335 (γ 9 3))) (vA (γ 6 (γ 1 q269175))))) ∧ (F326335 q269174 = F269173 q269174)
set_option maxRecDepth 100000 in
set_option maxHeartbeats 4000000 in
theorem ct_269178_SpillForgeModel_graph (l : Launch) (hl0 : l.stackTraces = false) (D : va_G) (I : FieldType → ClassId) (γ el : Nat → Nat → Nat) (P269172 : List Nat) (F269173 : Nat → va_E) (q269174 : Nat) (q269175 : Nat) (p269176 : Int32) (hT : RS D I P269172 F269173 γ el) (htq269174 : rKd γ q269174 10) (htq269175 : rKd γ q269175 9) (bp269176 : gB p269176 0 1) (x269177 : 0 < γ 6 (γ 1 q269175)) : CtA (gV D I) l yX17_graph cX17_graph 11 none 5 111 0 0 [.ref q269174, .ref q269175, .int p269176] (va_pl P269172 F269173) (pt_269178_SpillForgeModel_graph D I γ el P269172 F269173 q269174 q269175 p269176) gNA := by
  refine CtA_of hl0 (by decide) (Nat.le_of_ble_eq_true rfl) ?_
  have hm269179 : q269174 ∈ P269172 := RS_m hT htq269174 (by decide)
  refine rk10_e (show rk_10 γ (F269173 q269174) from RS_o hT htq269174) (fun q269181 q269182 p269183 p269184 p269185 p269186 p269187 p269188 p269189 p269190 p269191 p269192 p269193 p269194 p269195 p269196 p269197 he269180 hB269224 ht269198 ht269199 ht269200 ht269201 ht269202 ht269203 ht269204 ht269205 ht269206 ht269207 ht269208 ht269209 ht269210 ht269211 ht269212 ht269213 ht269214 ht269215 ht269216 ht269217 ht269218 ht269219 ht269220 ht269221 hB269225 => ?_)
  refine G_aload_n 0 dr_cX17_graph_0 rfl ?_
  refine G_aload_n 1 dr_cX17_graph_1 rfl ?_
  refine G_iload_n 2 dr_cX17_graph_2 rfl ?_
  refine Gw_callV (As := [.ref q269175, .int p269176]) (gV_ok D I) (ct_217949_SpillForgeModel_findLive l hl0 D I γ el P269172 F269173 q269174 q269175 p269176 hT htq269174 htq269175 bp269176 (by omega)) dr_cX17_graph_3 ⟨wr_10_156, wr_1_14, wr_10_159, by decide, rfl, (Nat.le_of_ble_eq_true rfl), (Nat.le_of_ble_eq_true rfl)⟩ wr_10_158 wr_p_94 hm269179 he269180 rfl (show 0 + 0 ≤ 0 by first | omega | decide) (show 0 + 0 ≤ 0 by first | omega | decide) (Nat.le_of_ble_eq_true rfl) (fun r269229 w269230 dc269226 ds269227 hp269228 => ?_) (fun _ _ _ _ _ z => z.elim)
  obtain ⟨F269232, rfl, rfl, hT269233, hs269234, hdc, hds, x269231⟩ := hp269228
  have hs269235 : rStr γ [] F269173 F269232 := rStr_tr (rStr_rf (γ := γ) (W := []) (F := F269173)) hs269234
  have kp269236 : F269232 q269174 = F269173 q269174 := x269231
  have he269237 : F269232 q269174 = .inr (22, [.ref (γ 9 0), .ref (γ 9 1), .ref (γ 9 2), .ref (γ 9 3), .ref (γ 9 4), .ref (γ 9 5), .ref (γ 9 6), .ref (γ 9 7), .ref (γ 9 8), .int p269183, .int p269184, .int p269185, .int p269186, .int p269187, .int p269188, .ref (γ 9 15), .ref (γ 9 16), .ref (γ 9 17), .ref (γ 9 18), .ref (γ 9 19), .ref (γ 9 20), .ref (γ 9 21), .ref (γ 9 22), .int p269189, .int p269190, .int p269191, .int p269192, .int p269193, .ref q269181, .ref (γ 9 29), .int p269194, .ref (γ 9 31), .int p269195, .int p269196, .int p269197, .ref q269182]) := (x269231).trans he269180
  change G _ _ _ _ _ _ _ _ _ _ _
  refine G_widen (cs' := 0) (sl' := 0) (by omega) (by omega) ?_
  refine G_iconst 0 dr_cX17_graph_6 (by decide +kernel) ?_
  refine G_istore_n (L' := [(3, .int 0), (0, .ref q269174), (1, .ref q269175), (2, .int p269176)]) dr_cX17_graph_7 (Nat.le_of_ble_eq_true rfl) rfl ?_
  have hlp8_318128 : ∀ (n8_318128 : Nat) (F318124 : Nat → va_E) (g318123 : Int32), gB g318123 0 2000 → RS D I P269172 F318124 γ el → rStr γ [] F269173 F318124 → (∀ n : Nat, (n : Int) < g318123.toInt → ¬ rSd (cB (F318124 (γ 9 3))) n) → (F318124 q269174 = F269173 q269174) → ((2001 : Int) - g318123.toInt).toNat < n8_318128 → G (gV D I) l (gRm 5 111 0 0) (gMA (gV D I) (pt_269178_SpillForgeModel_graph D I γ el P269172 F269173 q269174 q269175 p269176) gNA 0 0) ky_269178_SpillForgeModel_graph 8 [(3, .int g318123), (0, .ref q269174), (1, .ref q269175), (2, .int p269176)] [] (va_pl P269172 F318124) 0 0 := by
    intro n8_318128
    induction n8_318128 with
    | zero => intro F318124 g318123 bg318123 hT318125 hs318126 x318127 x318128 hm8_318128; exact absurd hm8_318128 (Nat.not_lt_zero _)
    | succ n8_318128 ih8_318128 =>
      intro F318124 g318123 bg318123 hT318125 hs318126 x318127 x318128 hm8_318128
      have hs318130 : rStr γ [] F269232 F318124 := fun b h0 hb hw => (hs318126 b h0 hb hw).trans (hs269235 b h0 hb hw).symm
      have hs318131 : rStr γ [] F269173 F318124 := rStr_tr hs269235 hs318130
      have he318132 : F318124 q269174 = .inr (22, [.ref (γ 9 0), .ref (γ 9 1), .ref (γ 9 2), .ref (γ 9 3), .ref (γ 9 4), .ref (γ 9 5), .ref (γ 9 6), .ref (γ 9 7), .ref (γ 9 8), .int p269183, .int p269184, .int p269185, .int p269186, .int p269187, .int p269188, .ref (γ 9 15), .ref (γ 9 16), .ref (γ 9 17), .ref (γ 9 18), .ref (γ 9 19), .ref (γ 9 20), .ref (γ 9 21), .ref (γ 9 22), .int p269189, .int p269190, .int p269191, .int p269192, .int p269193, .ref q269181, .ref (γ 9 29), .int p269194, .ref (γ 9 31), .int p269195, .int p269196, .int p269197, .ref q269182]) := x318128.trans he269180
      have hm318133 : q269174 ∈ P269172 := RS_m hT318125 htq269174 (by decide)
      refine G_iload_n 0 dr_cX17_graph_8 rfl ?_
      refine G_sipush 2000 dr_cX17_graph_9 (by decide +kernel) ?_
      refine G_icmp_ge 54 dr_cX17_graph_12 (by decide +kernel) (fun hc318134 => ?_) (fun hc318134 => ?_)
      · have r318135 : 2000 ≤ g318123.toInt := gj_leL hc318134 (show Int32.toInt 2000 = 2000 by decide)
        have bg318123' : gB g318123 2000 2000 := ⟨by omega, by omega⟩
        refine G_iconst 0 dr_cX17_graph_54 (by decide +kernel) ?_
        refine G_istore_n (L' := [(3, .int 0), (0, .ref q269174), (1, .ref q269175), (2, .int p269176)]) dr_cX17_graph_55 (Nat.le_of_ble_eq_true rfl) rfl ?_
        have hlp56_322197 : ∀ (n56_322197 : Nat) (F322193 : Nat → va_E) (g322192 : Int32), gB g322192 0 1000000 → RS D I P269172 F322193 γ el → rStr γ [] F269173 F322193 → (gIp (p269176.toInt = 0) (rGr γ el F269173 q269175 (γ 6 (γ 1 q269175)) (cB (F322193 (γ 9 3))) (vA (g322192.toInt : Int).toNat))) → (F322193 q269174 = F269173 q269174) → ((1000001 : Int) - g322192.toInt).toNat < n56_322197 → G (gV D I) l (gRm 5 111 0 0) (gMA (gV D I) (pt_269178_SpillForgeModel_graph D I γ el P269172 F269173 q269174 q269175 p269176) gNA 0 0) ky_269178_SpillForgeModel_graph 56 [(3, .int g322192), (0, .ref q269174), (1, .ref q269175), (2, .int p269176)] [] (va_pl P269172 F322193) 0 0 := by
          intro n56_322197
          induction n56_322197 with
          | zero => intro F322193 g322192 bg322192 hT322194 hs322195 x322196 x322197 hm56_322197; exact absurd hm56_322197 (Nat.not_lt_zero _)
          | succ n56_322197 ih56_322197 =>
            intro F322193 g322192 bg322192 hT322194 hs322195 x322196 x322197 hm56_322197
            have hs322199 : rStr γ [] F318124 F322193 := fun b h0 hb hw => (hs322195 b h0 hb hw).trans (hs318126 b h0 hb hw).symm
            have hs322200 : rStr γ [] F269173 F322193 := rStr_tr hs318126 hs322199
            have he322201 : F322193 q269174 = .inr (22, [.ref (γ 9 0), .ref (γ 9 1), .ref (γ 9 2), .ref (γ 9 3), .ref (γ 9 4), .ref (γ 9 5), .ref (γ 9 6), .ref (γ 9 7), .ref (γ 9 8), .int p269183, .int p269184, .int p269185, .int p269186, .int p269187, .int p269188, .ref (γ 9 15), .ref (γ 9 16), .ref (γ 9 17), .ref (γ 9 18), .ref (γ 9 19), .ref (γ 9 20), .ref (γ 9 21), .ref (γ 9 22), .int p269189, .int p269190, .int p269191, .int p269192, .int p269193, .ref q269181, .ref (γ 9 29), .int p269194, .ref (γ 9 31), .int p269195, .int p269196, .int p269197, .ref q269182]) := x322197.trans he269180
            have hm322202 : q269174 ∈ P269172 := RS_m hT322194 htq269174 (by decide)
            refine G_iload_n 0 dr_cX17_graph_56 rfl ?_
            refine G_aload_n 2 dr_cX17_graph_57 rfl ?_
            have hm322203 : q269175 ∈ P269172 := RS_m hT322194 htq269175 (by decide)
            obtain ⟨q322205, q322206, p322207, p322208, he322204, ht322224, ht322209, ht322210, ht322211, ht322212, r322213, r322214, r322215, r322216, r322217, r322218, r322219, r322220, r322221, r322222, r322223⟩ := show rk_9 γ el q269175 (F322193 q269175) from RS_o hT322194 htq269175
            have bp322207 : gB p322207 0 1000000 := ⟨by omega, by omega⟩
            have bp322208 : gB p322208 0 1000000 := ⟨by omega, by omega⟩
            refine Gw_callV (As := []) (gV_ok D I) (cp_12451_Code_size l hl0 D I P269172 F322193 q269175 q322205 q322206 p322207 p322208 hm322203 he322204) dr_cX17_graph_58 ⟨wr_10_160, wr_1_15, wr_9_131, by decide, rfl, (Nat.le_of_ble_eq_true rfl), (Nat.le_of_ble_eq_true rfl)⟩ wr_9_129 wr_9_130 hm322203 he322204 rfl (show 0 + 0 ≤ 0 by first | omega | decide) (show 0 + 0 ≤ 0 by first | omega | decide) (Nat.le_of_ble_eq_true rfl) (fun r322228 w322229 dc322225 ds322226 hp322227 => ?_) (fun _ _ _ _ _ z => z.elim)
            obtain ⟨rfl, rfl, hdc, hds⟩ := hp322227
            change G _ _ _ _ _ _ _ (.int p322208 :: _) _ _ _
            refine G_widen (cs' := 0) (sl' := 0) (by omega) (by omega) ?_
            refine G_icmp_ge 296 dr_cX17_graph_61 (by decide +kernel) (fun hc322230 => ?_) (fun hc322230 => ?_)
            · have r322231 : p322208.toInt ≤ g322192.toInt := gC_le hc322230
              refine G_iconst 0 dr_cX17_graph_296 (by decide +kernel) ?_
              refine G_istore_n (L' := [(3, .int 0), (0, .ref q269174), (1, .ref q269175), (2, .int p269176)]) dr_cX17_graph_297 (Nat.le_of_ble_eq_true rfl) rfl ?_
              have hlp298_322536 : ∀ (n298_322536 : Nat) (F322532 : Nat → va_E) (g322531 : Int32), gB g322531 0 2000 → RS D I P269172 F322532 γ el → rStr γ [] F269173 F322532 → (gIp (p269176.toInt = 0) (rGr γ el F269173 q269175 (γ 6 (γ 1 q269175)) (cB (F322532 (γ 9 3))) (vA (γ 6 (γ 1 q269175))))) → (F322532 q269174 = F269173 q269174) → ((2001 : Int) - g322531.toInt).toNat < n298_322536 → G (gV D I) l (gRm 5 111 0 0) (gMA (gV D I) (pt_269178_SpillForgeModel_graph D I γ el P269172 F269173 q269174 q269175 p269176) gNA 0 0) ky_269178_SpillForgeModel_graph 298 [(3, .int g322531), (0, .ref q269174), (1, .ref q269175), (2, .int p269176)] [] (va_pl P269172 F322532) 0 0 := by
                intro n298_322536
                induction n298_322536 with
                | zero => intro F322532 g322531 bg322531 hT322533 hs322534 x322535 x322536 hm298_322536; exact absurd hm298_322536 (Nat.not_lt_zero _)
                | succ n298_322536 ih298_322536 =>
                  intro F322532 g322531 bg322531 hT322533 hs322534 x322535 x322536 hm298_322536
                  have hs322538 : rStr γ [] F322193 F322532 := fun b h0 hb hw => (hs322534 b h0 hb hw).trans (hs322195 b h0 hb hw).symm
                  have he322539 : F322532 q269175 = .inr (18, [.ref q322205, .ref q322206, .int p322207, .int p322208]) := (hs322538 q269175 (rT0 htq269175 (by decide)) (rT1 htq269175 (by decide)) (rT2 htq269175 (by decide))).trans he322204
                  have hs322540 : rStr γ [] F269173 F322532 := rStr_tr hs322195 hs322538
                  have he322541 : F322532 q269174 = .inr (22, [.ref (γ 9 0), .ref (γ 9 1), .ref (γ 9 2), .ref (γ 9 3), .ref (γ 9 4), .ref (γ 9 5), .ref (γ 9 6), .ref (γ 9 7), .ref (γ 9 8), .int p269183, .int p269184, .int p269185, .int p269186, .int p269187, .int p269188, .ref (γ 9 15), .ref (γ 9 16), .ref (γ 9 17), .ref (γ 9 18), .ref (γ 9 19), .ref (γ 9 20), .ref (γ 9 21), .ref (γ 9 22), .int p269189, .int p269190, .int p269191, .int p269192, .int p269193, .ref q269181, .ref (γ 9 29), .int p269194, .ref (γ 9 31), .int p269195, .int p269196, .int p269197, .ref q269182]) := x322536.trans he269180
                  have hm322542 : q269174 ∈ P269172 := RS_m hT322533 htq269174 (by decide)
                  refine G_iload_n 0 dr_cX17_graph_298 rfl ?_
                  refine G_sipush 2000 dr_cX17_graph_299 (by decide +kernel) ?_
                  refine G_icmp_ge 389 dr_cX17_graph_302 (by decide +kernel) (fun hc322543 => ?_) (fun hc322543 => ?_)
                  · have r322544 : 2000 ≤ g322531.toInt := gj_leL hc322543 (show Int32.toInt 2000 = 2000 by decide)
                    have bg322531' : gB g322531 2000 2000 := ⟨by omega, by omega⟩
                    exact G_vretA dr_cX17_graph_389 rfl (Nat.le_of_ble_eq_true rfl) (Nat.le_of_ble_eq_true rfl) ⟨F322532, rfl, rfl, hT322533, hs322534, (Nat.le_of_ble_eq_true rfl), (Nat.le_of_ble_eq_true rfl), x322535, x322536⟩
                  · have r322545 : g322531.toInt < 2000 := gj_nleL hc322543 (show Int32.toInt 2000 = 2000 by decide)
                    have bg322531' : gB g322531 0 1999 := ⟨by omega, by omega⟩
                    refine G_aload_n 1 dr_cX17_graph_305 rfl ?_
                    refine Gp_get 3 hm322542 he322541 dr_cX17_graph_306 (gk_X17 D I) (Nat.le_of_ble_eq_true rfl) wr_7_77 rfl ?_
                    refine G_iload_n 0 dr_cX17_graph_309 rfl ?_
                    have hm322546 : (γ 9 3) ∈ P269172 := RS_m hT322533 ht269203 (by decide)
                    obtain ⟨f322548, he322547, bf322548⟩ := show rk_14 I (F322532 (γ 9 3)) from RS_o hT322533 ht269203
                    refine Gp_zald 3 hm322546 he322547 dr_cX17_graph_310 rfl (gB_in bg322531' (by decide) (by decide)) (G_nam fun z322549 hz322549 => ?_)
                    have bz322549 : gB z322549 0 1 := by rw [hz322549]; exact bf322548 _
                    refine G_if_ne 317 dr_cX17_graph_311 (by decide +kernel) (fun hc322550 => ?_) (fun hc322550 => ?_)
                    · have r322551 : z322549.toInt ≠ 0 := gj_neq hc322550 (show Int32.toInt 0 = 0 by decide)
                      have bz322549' : gB z322549 1 1 := gB_t1 bz322549 r322551
                      refine G_iconst 0 dr_cX17_graph_317 (by decide +kernel) ?_
                      refine G_istore (L' := [(4, .int 0), (3, .int g322531), (0, .ref q269174), (1, .ref q269175), (2, .int p269176)]) dr_cX17_graph_318 (Nat.le_of_ble_eq_true rfl) rfl ?_
                      have hlp320_322695 : ∀ (n320_322695 : Nat) (F322691 : Nat → va_E) (g322690 : Int32), gB g322690 0 32 → RS D I P269172 F322691 γ el → rStr γ [] F269173 F322691 → (gIp (p269176.toInt = 0) (rGr γ el F269173 q269175 (γ 6 (γ 1 q269175)) (cB (F322691 (γ 9 3))) (vA (γ 6 (γ 1 q269175))))) → (F322691 q269174 = F269173 q269174) → ((33 : Int) - g322690.toInt).toNat < n320_322695 → G (gV D I) l (gRm 5 111 0 0) (gMA (gV D I) (pt_269178_SpillForgeModel_graph D I γ el P269172 F269173 q269174 q269175 p269176) gNA 0 0) ky_269178_SpillForgeModel_graph 320 [(4, .int g322690), (3, .int g322531), (0, .ref q269174), (1, .ref q269175), (2, .int p269176)] [] (va_pl P269172 F322691) 0 0 := by
                        intro n320_322695
                        induction n320_322695 with
                        | zero => intro F322691 g322690 bg322690 hT322692 hs322693 x322694 x322695 hm320_322695; exact absurd hm320_322695 (Nat.not_lt_zero _)
                        | succ n320_322695 ih320_322695 =>
                          intro F322691 g322690 bg322690 hT322692 hs322693 x322694 x322695 hm320_322695
                          have hs322697 : rStr γ [] F322532 F322691 := fun b h0 hb hw => (hs322693 b h0 hb hw).trans (hs322534 b h0 hb hw).symm
                          have he322698 : F322691 q269175 = .inr (18, [.ref q322205, .ref q322206, .int p322207, .int p322208]) := (hs322697 q269175 (rT0 htq269175 (by decide)) (rT1 htq269175 (by decide)) (rT2 htq269175 (by decide))).trans he322539
                          have hs322699 : rStr γ [] F269173 F322691 := rStr_tr hs322534 hs322697
                          have he322700 : F322691 q269174 = .inr (22, [.ref (γ 9 0), .ref (γ 9 1), .ref (γ 9 2), .ref (γ 9 3), .ref (γ 9 4), .ref (γ 9 5), .ref (γ 9 6), .ref (γ 9 7), .ref (γ 9 8), .int p269183, .int p269184, .int p269185, .int p269186, .int p269187, .int p269188, .ref (γ 9 15), .ref (γ 9 16), .ref (γ 9 17), .ref (γ 9 18), .ref (γ 9 19), .ref (γ 9 20), .ref (γ 9 21), .ref (γ 9 22), .int p269189, .int p269190, .int p269191, .int p269192, .int p269193, .ref q269181, .ref (γ 9 29), .int p269194, .ref (γ 9 31), .int p269195, .int p269196, .int p269197, .ref q269182]) := x322695.trans he269180
                          have hm322701 : q269174 ∈ P269172 := RS_m hT322692 htq269174 (by decide)
                          refine G_iload 0 dr_cX17_graph_320 rfl ?_
                          refine G_bipush 32 dr_cX17_graph_322 (by decide +kernel) ?_
                          refine G_icmp_ge 383 dr_cX17_graph_324 (by decide +kernel) (fun hc322702 => ?_) (fun hc322702 => ?_)
                          · have r322703 : 32 ≤ g322690.toInt := gj_leL hc322702 (show Int32.toInt 32 = 32 by decide)
                            have bg322690' : gB g322690 32 32 := ⟨by omega, by omega⟩
                            obtain ⟨z322704, hz322704⟩ : ∃ z : Int32, z = g322531 + Int32.ofInt 1 := ⟨_, rfl⟩
                            have ez322704 : z322704.toInt = g322531.toInt + 1 := gI_inc hz322704 (by decide) bg322531' (by decide) (by decide)
                            have bz322704 : gB z322704 1 2000 := ⟨by omega, by omega⟩
                            refine G_iinc (L' := [(3, .int z322704), (4, .int g322690), (0, .ref q269174), (1, .ref q269175), (2, .int p269176)]) z322704 1 dr_cX17_graph_383 rfl hz322704.symm (Nat.le_of_ble_eq_true rfl) rfl ?_
                            refine G_goto 298 dr_cX17_graph_386 (by decide +kernel) ?_
                            refine G_lv (L' := [(3, .int z322704), (0, .ref q269174), (1, .ref q269175), (2, .int p269176)]) [0, 2, 3, 4] rfl ?_
                            exact ih298_322536 F322691 z322704 (gB_w bz322704 (by decide) (by decide)) hT322692 hs322693 x322694 x322695 (mz_up ez322704 (Int.le_trans bg322531'.2 (by decide)) hm298_322536)
                          · have r322705 : g322690.toInt < 32 := gj_nleL hc322702 (show Int32.toInt 32 = 32 by decide)
                            have bg322690' : gB g322690 0 31 := ⟨by omega, by omega⟩
                            refine G_aload_n 2 dr_cX17_graph_327 rfl ?_
                            refine Gp_get 1 hm322701 he322700 dr_cX17_graph_328 (gk_X17 D I) (Nat.le_of_ble_eq_true rfl) wr_7_75 rfl ?_
                            refine G_iload_n 1 dr_cX17_graph_331 rfl ?_
                            have hm322706 : (γ 9 1) ∈ P269172 := RS_m hT322692 ht269201 (by decide)
                            obtain ⟨f322708, he322707, hg322709⟩ := show rk_13 I γ (F322691 (γ 9 1)) from RS_o hT322692 ht269201
                            obtain ⟨q322710, hx322712⟩ : ∃ x, x = γ 11 g322531.toInt.toNat := ⟨_, rfl⟩
                            have ht322711 : rKd γ q322710 36 := by rw [hx322712]; exact (hg322709 _ (show g322531.toInt.toNat < 2000 by omega)).2.1
                            refine Gp_aald 5 hm322706 he322707 dr_cX17_graph_332 rfl rfl (gB_in bg322531' (by decide) (by decide)) ?_
                            rw [show f322708 g322531.toNatClampNeg = some q322710 from (hg322709 _ (show g322531.toInt.toNat < 2000 by omega)).1.trans (by rw [hx322712])]
                            change G _ _ _ _ _ _ _ (.ref q322710 :: _) _ _ _
                            refine G_iload 0 dr_cX17_graph_333 rfl ?_
                            have hm322713 : q322710 ∈ P269172 := RS_m hT322692 ht322711 (by decide)
                            obtain ⟨f322715, he322714, wf322715⟩ := show rk_36 I (F322691 q322710) from RS_o hT322692 ht322711
                            refine Gp_lald 2 hm322713 he322714 dr_cX17_graph_335 rfl (gB_in bg322690' (by decide) (by decide)) (G_namL fun u322716 hu322716 => ?_)
                            have qu322716 : lb_Q u322716 (2000 - 64 * g322690.toInt) := lb_Wld hu322716 wf322715 (by omega) (by omega) (lb_Mod0 (by omega) (by omega))
                            refine G_lstore (L' := [(5, .long u322716), (4, .int g322690), (3, .int g322531), (0, .ref q269174), (1, .ref q269175), (2, .int p269176)]) dr_cX17_graph_336 (Nat.le_of_ble_eq_true rfl) rfl ?_
                            have hlp338_322778 : ∀ (n338_322778 : Nat) (F322773 : Nat → va_E) (gl322772 : Int64), RS D I P269172 F322773 γ el → rStr γ [] F269173 F322773 → (lb_Q gl322772 (2000 - 64 * g322690.toInt)) → (gIp (p269176.toInt = 0) (rGr γ el F269173 q269175 (γ 6 (γ 1 q269175)) (cB (F322773 (γ 9 3))) (vA (γ 6 (γ 1 q269175))))) → (F322773 q269174 = F269173 q269174) → (rpop gl322772) < n338_322778 → G (gV D I) l (gRm 5 111 0 0) (gMA (gV D I) (pt_269178_SpillForgeModel_graph D I γ el P269172 F269173 q269174 q269175 p269176) gNA 0 0) ky_269178_SpillForgeModel_graph 338 [(5, .long gl322772), (4, .int g322690), (3, .int g322531), (0, .ref q269174), (1, .ref q269175), (2, .int p269176)] [] (va_pl P269172 F322773) 0 0 := by
                              intro n338_322778
                              induction n338_322778 with
                              | zero => intro F322773 gl322772 hT322774 hs322775 x322776 x322777 x322778 hm338_322778; exact absurd hm338_322778 (Nat.not_lt_zero _)
                              | succ n338_322778 ih338_322778 =>
                                intro F322773 gl322772 hT322774 hs322775 x322776 x322777 x322778 hm338_322778
                                have hs322780 : rStr γ [] F322691 F322773 := fun b h0 hb hw => (hs322775 b h0 hb hw).trans (hs322693 b h0 hb hw).symm
                                have he322781 : F322773 q269175 = .inr (18, [.ref q322205, .ref q322206, .int p322207, .int p322208]) := (hs322780 q269175 (rT0 htq269175 (by decide)) (rT1 htq269175 (by decide)) (rT2 htq269175 (by decide))).trans he322698
                                have hs322782 : rStr γ [] F269173 F322773 := rStr_tr hs322693 hs322780
                                have he322783 : F322773 q269174 = .inr (22, [.ref (γ 9 0), .ref (γ 9 1), .ref (γ 9 2), .ref (γ 9 3), .ref (γ 9 4), .ref (γ 9 5), .ref (γ 9 6), .ref (γ 9 7), .ref (γ 9 8), .int p269183, .int p269184, .int p269185, .int p269186, .int p269187, .int p269188, .ref (γ 9 15), .ref (γ 9 16), .ref (γ 9 17), .ref (γ 9 18), .ref (γ 9 19), .ref (γ 9 20), .ref (γ 9 21), .ref (γ 9 22), .int p269189, .int p269190, .int p269191, .int p269192, .int p269193, .ref q269181, .ref (γ 9 29), .int p269194, .ref (γ 9 31), .int p269195, .int p269196, .int p269197, .ref q269182]) := x322778.trans he269180
                                have hm322784 : q269174 ∈ P269172 := RS_m hT322774 htq269174 (by decide)
                                refine G_lload 0 dr_cX17_graph_338 rfl ?_
                                refine G_lconst 0 dr_cX17_graph_340 rfl ?_
                                refine G_lcmp dr_cX17_graph_341 (G_nam fun z322785 hz322785 => ?_)
                                have bz322785 : gB z322785 (-1) 1 := gB_cmp hz322785
                                refine G_if_eq 377 dr_cX17_graph_342 (by decide +kernel) (fun hc322786 => ?_) (fun hc322786 => ?_)
                                · have r322787 : z322785.toInt = 0 := gj_eq hc322786 (show Int32.toInt 0 = 0 by decide)
                                  have bz322785' : gB z322785 0 0 := ⟨by omega, by omega⟩
                                  have lhc322786 := gC_cmpE hz322785 hc322786
                                  obtain ⟨z322788, hz322788⟩ : ∃ z : Int32, z = g322690 + Int32.ofInt 1 := ⟨_, rfl⟩
                                  have ez322788 : z322788.toInt = g322690.toInt + 1 := gI_inc hz322788 (by decide) bg322690' (by decide) (by decide)
                                  have bz322788 : gB z322788 1 32 := ⟨by omega, by omega⟩
                                  refine G_iinc (L' := [(4, .int z322788), (5, .long gl322772), (3, .int g322531), (0, .ref q269174), (1, .ref q269175), (2, .int p269176)]) z322788 1 dr_cX17_graph_377 rfl hz322788.symm (Nat.le_of_ble_eq_true rfl) rfl ?_
                                  refine G_goto 320 dr_cX17_graph_380 (by decide +kernel) ?_
                                  refine G_lv (L' := [(4, .int z322788), (3, .int g322531), (0, .ref q269174), (1, .ref q269175), (2, .int p269176)]) [0, 2, 3, 4, 5] rfl ?_
                                  exact ih320_322695 F322773 z322788 (gB_w bz322788 (by decide) (by decide)) hT322774 hs322775 x322777 x322778 (mz_up ez322788 (Int.le_trans bg322690'.2 (by decide)) hm320_322695)
                                · have r322789 : z322785.toInt ≠ 0 := gj_neq hc322786 (show Int32.toInt 0 = 0 by decide)
                                  have lhc322786 := gC_cmpN hz322785 hc322786
                                  refine G_aload_n 3 dr_cX17_graph_345 rfl ?_
                                  refine Gp_get 1 hm322784 he322783 dr_cX17_graph_346 (gk_X17 D I) (Nat.le_of_ble_eq_true rfl) wr_7_75 rfl ?_
                                  refine G_bipush 64 dr_cX17_graph_349 (by decide +kernel) ?_
                                  refine G_iload 1 dr_cX17_graph_351 rfl ?_
                                  refine G_imul dr_cX17_graph_353 (G_nam fun z322790 hz322790 => ?_)
                                  have ez322790 : z322790.toInt = 64 * g322690.toInt := by rw [gI_mul hz322790 (gBl (show Int32.toInt 64 = 64 by decide)) bg322690' (by decide) (by decide) (by decide), show Int32.toInt 64 = 64 from by decide]
                                  have bz322790 : gB z322790 0 1984 := gB_mul hz322790 (gBl (show Int32.toInt 64 = 64 by decide)) bg322690' (by decide) (by decide) (by decide) (by decide)
                                  refine G_lload 0 dr_cX17_graph_354 rfl ?_
                                  refine Gw_callS (As := [.long gl322772]) (gV_ok D I) (nzc_Long_numberOfTrailingZeros l hl0 D I P269172 F322773 gl322772) dr_cX17_graph_356 ⟨wr_11_1, wr_1_31, wr_11_3, by decide, rfl, (Nat.le_of_ble_eq_true rfl), (Nat.le_of_ble_eq_true rfl)⟩ wr_11_2 (show 0 + 0 ≤ 0 by first | omega | decide) (show 0 + 0 ≤ 0 by first | omega | decide) (Nat.le_of_ble_eq_true rfl) (fun r322794 w322795 dc322791 ds322792 hp322793 => ?_) (fun _ _ _ _ _ z => z.elim)
                                  obtain ⟨o322798, rfl, rfl, hdc, hds, hO322796⟩ := hp322793
                                  have hO322796 := hO322796 lhc322786
                                  have bo322798 : gB o322798 0 63 := ⟨hO322796.1, hO322796.2.1⟩
                                  have r322797 : o322798.toInt < 2000 - 64 * g322690.toInt := lb_Qlt x322776 hO322796.1 hO322796.2.2
                                  change G _ _ _ _ _ _ _ (.int o322798 :: _) _ _ _
                                  refine G_widen (cs' := 0) (sl' := 0) (by omega) (by omega) ?_
                                  refine G_iadd dr_cX17_graph_359 (G_nam fun z322799 hz322799 => ?_)
                                  have ez322799 : z322799.toInt = z322790.toInt + o322798.toInt := by rw [gI_add hz322799 bz322790 bo322798 (by decide) (by decide)]
                                  have bz322799 : gB z322799 0 2047 := gB_add (gI_add hz322799 bz322790 bo322798 (by decide) (by decide)) bz322790 bo322798 (by decide) (by decide)
                                  have hm322800 : (γ 9 1) ∈ P269172 := RS_m hT322774 ht269201 (by decide)
                                  obtain ⟨f322802, he322801, hg322803⟩ := show rk_13 I γ (F322773 (γ 9 1)) from RS_o hT322774 ht269201
                                  obtain ⟨q322804, hx322806⟩ : ∃ x, x = γ 11 z322799.toInt.toNat := ⟨_, rfl⟩
                                  have ht322805 : rKd γ q322804 36 := by rw [hx322806]; exact (hg322803 _ (show z322799.toInt.toNat < 2000 by omega)).2.1
                                  refine Gp_aald 5 hm322800 he322801 dr_cX17_graph_360 rfl rfl (gB_inr (by omega) (by omega)) ?_
                                  rw [show f322802 z322799.toNatClampNeg = some q322804 from (hg322803 _ (show z322799.toInt.toNat < 2000 by omega)).1.trans (by rw [hx322806])]
                                  change G _ _ _ _ _ _ _ (.ref q322804 :: _) _ _ _
                                  refine G_iload_n 2 dr_cX17_graph_361 rfl ?_
                                  have hm322807 : q322804 ∈ P269172 := RS_m hT322774 ht322805 (by decide)
                                  obtain ⟨f322809, he322808, wf322809⟩ := show rk_36 I (F322773 q322804) from RS_o hT322774 ht322805
                                  refine Gw_callS (As := [.ref q322804, .int g322531]) (gV_ok D I) (cp_1853_SpillForgeModel_set l hl0 D I P269172 F322773 q322804 g322531 f322809 hm322807 he322808 bg322531' wf322809) dr_cX17_graph_362 ⟨wr_10_189, wr_1_14, wr_10_191, by decide, rfl, (Nat.le_of_ble_eq_true rfl), (Nat.le_of_ble_eq_true rfl)⟩ wr_10_190 (show 0 + 0 ≤ 0 by first | omega | decide) (show 0 + 0 ≤ 0 by first | omega | decide) (Nat.le_of_ble_eq_true rfl) (fun r322813 w322814 dc322810 ds322811 hp322812 => ?_) (fun _ _ _ _ _ z => z.elim)
                                  obtain ⟨F322817, f322815, rfl, rfl, hfr322819, he322820, hdc, hds, x322816⟩ := hp322812
                                  have he322821 : F322817 q269175 = .inr (18, [.ref q322205, .ref q322206, .int p322207, .int p322208]) := (hfr322819 q269175 hm322203 (nm_c (rn_oa he322781 he322808) nm_n)).trans he322781
                                  have he322822 : F322817 q269174 = .inr (22, [.ref (γ 9 0), .ref (γ 9 1), .ref (γ 9 2), .ref (γ 9 3), .ref (γ 9 4), .ref (γ 9 5), .ref (γ 9 6), .ref (γ 9 7), .ref (γ 9 8), .int p269183, .int p269184, .int p269185, .int p269186, .int p269187, .int p269188, .ref (γ 9 15), .ref (γ 9 16), .ref (γ 9 17), .ref (γ 9 18), .ref (γ 9 19), .ref (γ 9 20), .ref (γ 9 21), .ref (γ 9 22), .int p269189, .int p269190, .int p269191, .int p269192, .int p269193, .ref q269181, .ref (γ 9 29), .int p269194, .ref (γ 9 31), .int p269195, .int p269196, .int p269197, .ref q269182]) := (hfr322819 q269174 hm322784 (nm_c (rn_oa he322783 he322808) nm_n)).trans he322783
                                  have he322823 : F322817 (γ 9 1) = .inl (I (.array .long), 2000, .inr (.inr (.inr (.inr f322802)))) := (hfr322819 (γ 9 1) hm322800 (nm_c (rn_ref_long he322801 he322808) nm_n)).trans he322801
                                  have hfr322824 : rFr [q322804] P269172 F322773 F322817 := rFr_call (rSub_rf (P := P269172)) (rFr_rf (W := []) (P := P269172) (F := F322773)) hfr322819 (fun b hb hn => ⟨nm_n, (nm_c (fun e => hn (e ▸ List.mem_cons_self)) nm_n)⟩)
                                  change G _ _ _ _ _ _ _ _ _ _ _
                                  refine G_widen (cs' := 0) (sl' := 0) (by omega) (by omega) ?_
                                  have hT322825 : RS D I P269172 F322817 γ el := RS_fr hT322774 hfr322824 ht322805 (by decide) ⟨f322815, he322820, x322816⟩
                                  have hs322826 : rStr γ [] F269173 F322817 := rStr_fr hT322774 hs322775 hfr322824 ht322805 (by decide)
                                  have kp322827 : F322817 q269174 = F269173 q269174 := (hfr322824 q269174 (RS_m hT322774 htq269174 (by decide)) (nm_c (rn_ty htq269174 ht322805 (by decide)) nm_n)).trans x322778
                                  have kp322828 : F322817 (γ 9 3) = F322773 (γ 9 3) := hfr322824 (γ 9 3) (RS_m hT322774 ht269203 (by decide)) (nm_c (rn_ty ht269203 ht322805 (by decide)) nm_n)
                                  refine G_lload 0 dr_cX17_graph_365 rfl ?_
                                  refine G_lload 0 dr_cX17_graph_367 rfl ?_
                                  refine G_lconst 1 dr_cX17_graph_369 rfl ?_
                                  refine G_lsub dr_cX17_graph_370 (G_namL fun u322829 hu322829 => ?_)
                                  refine G_land dr_cX17_graph_371 (G_namL fun u322830 hu322830 => ?_)
                                  refine G_lstore (L' := [(5, .long u322830), (4, .int g322690), (3, .int g322531), (0, .ref q269174), (1, .ref q269175), (2, .int p269176)]) dr_cX17_graph_372 (Nat.le_of_ble_eq_true rfl) rfl ?_
                                  refine G_goto 338 dr_cX17_graph_374 (by decide +kernel) ?_
                                  exact ih338_322778 F322817 u322830 hT322825 hs322826 (lb_QandL hu322830 x322776) (by rw [kp322828]; exact x322777) kp322827 (by have q := rpop_low lhc322786 hu322829 hu322830; omega)
                            exact hlp338_322778 ((rpop u322716) + 1) F322691 u322716 hT322692 hs322693 qu322716 x322694 x322695 (Nat.lt_succ_self _)
                      exact hlp320_322695 (((33 : Int) - 0).toNat + 1) F322532 0 (gB_w (gBl (show Int32.toInt 0 = 0 by decide)) (by decide) (by decide)) hT322533 hs322534 x322535 x322536 (Nat.lt_succ_self _)
                    · have r322831 : z322549.toInt = 0 := gj_eq hc322550 (show Int32.toInt 0 = 0 by decide)
                      have bz322549' : gB z322549 0 0 := gB_t0 r322831
                      refine G_goto 383 dr_cX17_graph_314 (by decide +kernel) ?_
                      obtain ⟨z322832, hz322832⟩ : ∃ z : Int32, z = g322531 + Int32.ofInt 1 := ⟨_, rfl⟩
                      have ez322832 : z322832.toInt = g322531.toInt + 1 := gI_inc hz322832 (by decide) bg322531' (by decide) (by decide)
                      have bz322832 : gB z322832 1 2000 := ⟨by omega, by omega⟩
                      refine G_iinc (L' := [(3, .int z322832), (0, .ref q269174), (1, .ref q269175), (2, .int p269176)]) z322832 0 dr_cX17_graph_383 rfl hz322832.symm (Nat.le_of_ble_eq_true rfl) rfl ?_
                      refine G_goto 298 dr_cX17_graph_386 (by decide +kernel) ?_
                      exact ih298_322536 F322532 z322832 (gB_w bz322832 (by decide) (by decide)) hT322533 hs322534 x322535 x322536 (mz_up ez322832 (Int.le_trans bg322531'.2 (by decide)) hm298_322536)
              exact hlp298_322536 (((2001 : Int) - 0).toNat + 1) F322193 0 (gB_w (gBl (show Int32.toInt 0 = 0 by decide)) (by decide) (by decide)) hT322194 hs322195 (fun h0 => by have z := x322196 h0; exact gq_al z (by omega)) x322197 (Nat.lt_succ_self _)
            · have r322833 : g322192.toInt < p322208.toInt := gC_nle hc322230
              have bg322192' : gB g322192 0 999999 := ⟨by omega, by omega⟩
              have bp322208' : gB p322208 1 1000000 := ⟨by omega, by omega⟩
              refine G_aload_n 2 dr_cX17_graph_64 rfl ?_
              refine G_iload_n 0 dr_cX17_graph_65 rfl ?_
              have hm322834 : q322205 ∈ P269172 := RS_m hT322194 ht322209 (by decide)
              obtain ⟨⟨p322836, p322837, q322838, he322835, r322839, r322840, r322841, r322843⟩, r322842⟩ := show rk_4 D I γ el F322193 q322205 from RS_o hT322194 ht322209
              have bp322836 := gB_any p322836
              have bp322837 : gB p322837 0 1000000 := ⟨by omega, by omega⟩
              obtain ⟨r322844, r322845, n322852, f322853, r322846, r322847, r322848, r322849, r322850, r322851⟩ := rLC_n r322841 (by omega)
              have hm322854 : q322838 ∈ P269172 := RS_m hT322194 r322844 (by decide)
              obtain ⟨q322855, hx322856⟩ : ∃ x, x = el q322205 g322192.toInt.toNat := ⟨_, rfl⟩
              have hx322857 : f322853 g322192.toNatClampNeg = some q322855 := (r322850 _ (show g322192.toInt.toNat < γ 2 q322205 by omega)).trans (by rw [hx322856])
              have ht322860 : rKd γ q322855 2 := by rw [hx322856]; exact (r322220 _ (by omega)).resolve_right (fun z => absurd z.1 (by omega))
              have ht322861 : rFm γ q322855 q322205 := by rw [hx322856]; exact (r322842 _ (show g322192.toInt.toNat < γ 2 q322205 by omega)).2.1
              have hm322862 : q322855 ∈ P269172 := RS_m hT322194 ht322860 (by decide)
              obtain ⟨q322864, q322865, p322866, p322867, he322863, ht322874, ht322868, ht322869, ht322870, ht322871, ht322872, bp322866, bp322867, r322873, r322875, r322876⟩ := show rk_2 γ q322855 (F322193 q322855) from RS_o hT322194 ht322860
              refine Gw_callV (As := [.int g322192]) (gV_ok D I) (cp_7723_Code_get l hl0 D I P269172 F322193 q269175 q322205 q322838 g322192 q322206 p322207 p322208 p322836 p322837 f322853 n322852 q322855 q322864 q322865 p322866 p322867 hm322203 hm322834 hm322854 hm322862 he322204 he322835 r322846 he322863 (gB_w bg322192' (by decide) (by decide)) (gB_w bp322837 (by decide) (by decide)) (by omega) (by omega) (by assumption) (by omega)) dr_cX17_graph_66 ⟨wr_10_161, wr_1_15, wr_10_141, by decide, rfl, (Nat.le_of_ble_eq_true rfl), (Nat.le_of_ble_eq_true rfl)⟩ wr_10_139 wr_10_140 hm322203 he322204 rfl (show 0 + 0 ≤ 0 by first | omega | decide) (show 0 + 0 ≤ 0 by first | omega | decide) (Nat.le_of_ble_eq_true rfl) (fun r322880 w322881 dc322877 ds322878 hp322879 => ?_) (fun _ _ _ _ _ z => z.elim)
              obtain ⟨rfl, rfl, hdc, hds⟩ := hp322879
              change G _ _ _ _ _ _ _ (.ref q322855 :: _) _ _ _
              refine G_widen (cs' := 0) (sl' := 0) (by omega) (by omega) ?_
              have hb322882 : el (γ 14 q269175) (g322192.toInt : Int).toNat = q322855 := by rw [ht322224.1, hx322856]
              refine G_astore (L' := [(4, .ref q322855), (3, .int g322192), (0, .ref q269174), (1, .ref q269175), (2, .int p269176)]) dr_cX17_graph_69 (Nat.le_of_ble_eq_true rfl) rfl ?_
              refine G_aload_n 2 dr_cX17_graph_71 rfl ?_
              refine G_aload 0 dr_cX17_graph_72 rfl ?_
              refine Gw_callV (As := [.ref q322855]) (gV_ok D I) (ct_272914_SpillForgeModel_behind l hl0 D I γ el P269172 F322193 q269174 q322855 hT322194 htq269174 ht322860) dr_cX17_graph_74 ⟨wr_10_162, wr_1_14, wr_10_165, by decide, rfl, (Nat.le_of_ble_eq_true rfl), (Nat.le_of_ble_eq_true rfl)⟩ wr_10_164 wr_p_95 hm322202 he322201 rfl (show 0 + 0 ≤ 0 by first | omega | decide) (show 0 + 0 ≤ 0 by first | omega | decide) (Nat.le_of_ble_eq_true rfl) (fun r322886 w322887 dc322883 ds322884 hp322885 => ?_) (fun _ _ _ _ _ z => z.elim)
              obtain ⟨F322890, rfl, rfl, hT322891, hs322892, hdc, hds, x322888, x322889⟩ := hp322885
              have he322893 : F322890 q269175 = .inr (18, [.ref q322205, .ref q322206, .int p322207, .int p322208]) := (hs322892 q269175 (rT0 htq269175 (by decide)) (rT1 htq269175 (by decide)) (rT2 htq269175 (by decide))).trans he322204
              have he322894 : F322890 q322205 = .inr (4, [.int p322836, .ref q322838, .int p322837]) := (hs322892 q322205 (rT0 ht322209 (by decide)) (rT1 ht322209 (by decide)) (rT2 ht322209 (by decide))).trans he322835
              have he322895 : F322890 q322838 = .inl (I (.object "java/lang/Object"), n322852, .inr (.inr (.inr (.inr f322853)))) := (hs322892 q322838 (rT0 r322844 (by decide)) (rT1 r322844 (by decide)) (rT2 r322844 (by decide))).trans r322846
              have he322896 : F322890 q322855 = .inr (17, [.ref q322864, .ref q322865, .int p322866, .int p322867]) := (hs322892 q322855 (rT0 ht322860 (by decide)) (rT1 ht322860 (by decide)) (rT2 ht322860 (by decide))).trans he322863
              have hs322897 : rStr γ [] F269173 F322890 := rStr_tr hs322195 hs322892
              have kp322898 : F322890 q269174 = F269173 q269174 := (x322888).trans x322197
              have kp322899 : F322890 (γ 9 3) = F322193 (γ 9 3) := x322889
              have he322900 : F322890 q269174 = .inr (22, [.ref (γ 9 0), .ref (γ 9 1), .ref (γ 9 2), .ref (γ 9 3), .ref (γ 9 4), .ref (γ 9 5), .ref (γ 9 6), .ref (γ 9 7), .ref (γ 9 8), .int p269183, .int p269184, .int p269185, .int p269186, .int p269187, .int p269188, .ref (γ 9 15), .ref (γ 9 16), .ref (γ 9 17), .ref (γ 9 18), .ref (γ 9 19), .ref (γ 9 20), .ref (γ 9 21), .ref (γ 9 22), .int p269189, .int p269190, .int p269191, .int p269192, .int p269193, .ref q269181, .ref (γ 9 29), .int p269194, .ref (γ 9 31), .int p269195, .int p269196, .int p269197, .ref q269182]) := (x322888).trans he322201
              change G _ _ _ _ _ _ _ _ _ _ _
              refine G_widen (cs' := 0) (sl' := 0) (by omega) (by omega) ?_
              refine G_aload_n 2 dr_cX17_graph_77 rfl ?_
              refine G_aload 0 dr_cX17_graph_78 rfl ?_
              refine Gp_get 1 hm322862 he322896 dr_cX17_graph_80 (gk_X12 D I) (Nat.le_of_ble_eq_true rfl) wr_9_223 rfl ?_
              refine G_iload_n 4 dr_cX17_graph_83 rfl ?_
              refine Gw_callV (As := [.ref q322865, .int p269176]) (gV_ok D I) (ct_275613_SpillForgeModel_stand l hl0 D I γ el P269172 F322890 q269174 q322865 p269176 hT322891 htq269174 ht322870 bp269176) dr_cX17_graph_84 ⟨wr_10_237, wr_1_14, wr_11_0, by decide, rfl, (Nat.le_of_ble_eq_true rfl), (Nat.le_of_ble_eq_true rfl)⟩ wr_10_239 wr_p_100 hm322202 he322900 rfl (show 0 + 0 ≤ 0 by first | omega | decide) (show 0 + 0 ≤ 0 by first | omega | decide) (Nat.le_of_ble_eq_true rfl) (fun r322904 w322905 dc322901 ds322902 hp322903 => ?_) (fun _ _ _ _ _ z => z.elim)
              obtain ⟨F322908, rfl, rfl, hT322909, hs322910, hdc, hds, x322906, x322907⟩ := hp322903
              have he322911 : F322908 q269175 = .inr (18, [.ref q322205, .ref q322206, .int p322207, .int p322208]) := (hs322910 q269175 (rT0 htq269175 (by decide)) (rT1 htq269175 (by decide)) (rT2 htq269175 (by decide))).trans he322893
              have he322912 : F322908 q322205 = .inr (4, [.int p322836, .ref q322838, .int p322837]) := (hs322910 q322205 (rT0 ht322209 (by decide)) (rT1 ht322209 (by decide)) (rT2 ht322209 (by decide))).trans he322894
              have he322913 : F322908 q322838 = .inl (I (.object "java/lang/Object"), n322852, .inr (.inr (.inr (.inr f322853)))) := (hs322910 q322838 (rT0 r322844 (by decide)) (rT1 r322844 (by decide)) (rT2 r322844 (by decide))).trans he322895
              have he322914 : F322908 q322855 = .inr (17, [.ref q322864, .ref q322865, .int p322866, .int p322867]) := (hs322910 q322855 (rT0 ht322860 (by decide)) (rT1 ht322860 (by decide)) (rT2 ht322860 (by decide))).trans he322896
              have hs322915 : rStr γ [] F269173 F322908 := rStr_tr hs322897 hs322910
              have kp322916 : F322908 q269174 = F269173 q269174 := (x322907).trans kp322898
              have he322917 : F322908 q269174 = .inr (22, [.ref (γ 9 0), .ref (γ 9 1), .ref (γ 9 2), .ref (γ 9 3), .ref (γ 9 4), .ref (γ 9 5), .ref (γ 9 6), .ref (γ 9 7), .ref (γ 9 8), .int p269183, .int p269184, .int p269185, .int p269186, .int p269187, .int p269188, .ref (γ 9 15), .ref (γ 9 16), .ref (γ 9 17), .ref (γ 9 18), .ref (γ 9 19), .ref (γ 9 20), .ref (γ 9 21), .ref (γ 9 22), .int p269189, .int p269190, .int p269191, .int p269192, .int p269193, .ref q269181, .ref (γ 9 29), .int p269194, .ref (γ 9 31), .int p269195, .int p269196, .int p269197, .ref q269182]) := (x322907).trans he322900
              change G _ _ _ _ _ _ _ _ _ _ _
              refine G_widen (cs' := 0) (sl' := 0) (by omega) (by omega) ?_
              have hb322918 : el (γ 14 q269175) (g322192.toInt : Int).toNat = q322855 := hb322882
              have hL322919 : rwL γ el q269175 (g322192.toInt : Int).toNat = q322864 := by unfold rwL; rw [hb322918]; exact ht322874.1
              have hs322920 : F322890 q322865 = F269173 q322865 := hs322897 q322865 (rT0 ht322870 (by decide)) (rT1 ht322870 (by decide)) (rT2 ht322870 (by decide))
              have gr322921 : gIp (p269176.toInt = 0) (rGr γ el F269173 q269175 (γ 6 (γ 1 q269175)) (cB (F322908 (γ 9 3))) (vB (g322192.toInt : Int).toNat (γ 2 q322864))) := fun h0 => gq_end (x322196 h0) (fun m => by have z := x322906 h0 m; rw [kp322899, hs322920] at z; exact z) ((rAt_e hb322918 ht322874.1 (Nat.le_refl _)).trans ht322874.2.1) (show (g322192.toInt : Int).toNat < γ 6 (γ 1 q269175) by omega) (by rw [hL322919])
              refine G_aload_n 2 dr_cX17_graph_87 rfl ?_
              refine G_aload 0 dr_cX17_graph_88 rfl ?_
              refine Gp_get 1 hm322862 he322914 dr_cX17_graph_90 (gk_X12 D I) (Nat.le_of_ble_eq_true rfl) wr_9_223 rfl ?_
              refine G_iload_n 4 dr_cX17_graph_93 rfl ?_
              refine Gw_callV (As := [.ref q322865, .int p269176]) (gV_ok D I) (ct_275878_SpillForgeModel_back l hl0 D I γ el P269172 F322908 q269174 q322865 p269176 hT322909 htq269174 ht322870 bp269176) dr_cX17_graph_94 ⟨wr_10_174, wr_1_14, wr_10_177, by decide, rfl, (Nat.le_of_ble_eq_true rfl), (Nat.le_of_ble_eq_true rfl)⟩ wr_10_176 wr_p_96 hm322202 he322917 rfl (show 0 + 0 ≤ 0 by first | omega | decide) (show 0 + 0 ≤ 0 by first | omega | decide) (Nat.le_of_ble_eq_true rfl) (fun r322925 w322926 dc322922 ds322923 hp322924 => ?_) (fun _ _ _ _ _ z => z.elim)
              obtain ⟨F322929, rfl, rfl, hT322930, hs322931, hdc, hds, x322927, x322928⟩ := hp322924
              have he322932 : F322929 q269175 = .inr (18, [.ref q322205, .ref q322206, .int p322207, .int p322208]) := (hs322931 q269175 (rT0 htq269175 (by decide)) (rT1 htq269175 (by decide)) (rT2 htq269175 (by decide))).trans he322911
              have he322933 : F322929 q322205 = .inr (4, [.int p322836, .ref q322838, .int p322837]) := (hs322931 q322205 (rT0 ht322209 (by decide)) (rT1 ht322209 (by decide)) (rT2 ht322209 (by decide))).trans he322912
              have he322934 : F322929 q322838 = .inl (I (.object "java/lang/Object"), n322852, .inr (.inr (.inr (.inr f322853)))) := (hs322931 q322838 (rT0 r322844 (by decide)) (rT1 r322844 (by decide)) (rT2 r322844 (by decide))).trans he322913
              have he322935 : F322929 q322855 = .inr (17, [.ref q322864, .ref q322865, .int p322866, .int p322867]) := (hs322931 q322855 (rT0 ht322860 (by decide)) (rT1 ht322860 (by decide)) (rT2 ht322860 (by decide))).trans he322914
              have hs322936 : rStr γ [] F269173 F322929 := rStr_tr hs322915 hs322931
              have kp322937 : F322929 q269174 = F269173 q269174 := (x322927).trans kp322916
              have kp322938 : F322929 (γ 9 3) = F322908 (γ 9 3) := x322928
              have he322939 : F322929 q269174 = .inr (22, [.ref (γ 9 0), .ref (γ 9 1), .ref (γ 9 2), .ref (γ 9 3), .ref (γ 9 4), .ref (γ 9 5), .ref (γ 9 6), .ref (γ 9 7), .ref (γ 9 8), .int p269183, .int p269184, .int p269185, .int p269186, .int p269187, .int p269188, .ref (γ 9 15), .ref (γ 9 16), .ref (γ 9 17), .ref (γ 9 18), .ref (γ 9 19), .ref (γ 9 20), .ref (γ 9 21), .ref (γ 9 22), .int p269189, .int p269190, .int p269191, .int p269192, .int p269193, .ref q269181, .ref (γ 9 29), .int p269194, .ref (γ 9 31), .int p269195, .int p269196, .int p269197, .ref q269182]) := (x322927).trans he322917
              change G _ _ _ _ _ _ _ _ _ _ _
              refine G_widen (cs' := 0) (sl' := 0) (by omega) (by omega) ?_
              refine G_aload 0 dr_cX17_graph_97 rfl ?_
              refine Gp_get 0 hm322862 he322935 dr_cX17_graph_99 (gk_X12 D I) (Nat.le_of_ble_eq_true rfl) wr_9_220 rfl ?_
              have fl322940 : γ 2 (γ 14 q322855) = γ 2 q322864 := by rw [ht322874.1]
              have hm322941 : q322864 ∈ P269172 := RS_m hT322930 ht322868 (by decide)
              obtain ⟨⟨p322943, p322944, q322945, he322942, r322946, r322947, r322948, r322950⟩, r322949⟩ := show rk_3 D I γ el F322929 q322864 from RS_o hT322930 ht322868
              have bp322943 := gB_any p322943
              have bp322944 : gB p322944 0 1000000 := ⟨by omega, by omega⟩
              refine Gw_callV (As := []) (gV_ok D I) (cp_7_ArrayList_size l hl0 D I P269172 F322929 q322864 p322943 q322945 p322944 hm322941 he322942 (gB_w bp322944 (by decide) (by decide))) dr_cX17_graph_102 ⟨wr_10_200, wr_1_18, wr_9_160, by decide, rfl, (Nat.le_of_ble_eq_true rfl), (Nat.le_of_ble_eq_true rfl)⟩ wr_9_158 wr_9_159 hm322941 he322942 rfl (show 0 + 0 ≤ 0 by first | omega | decide) (show 0 + 0 ≤ 0 by first | omega | decide) (Nat.le_of_ble_eq_true rfl) (fun r322954 w322955 dc322951 ds322952 hp322953 => ?_) (fun _ _ _ _ _ z => z.elim)
              obtain ⟨rfl, rfl, hdc, hds⟩ := hp322953
              change G _ _ _ _ _ _ _ (.int p322944 :: _) _ _ _
              refine G_widen (cs' := 0) (sl' := 0) (by omega) (by omega) ?_
              refine G_iconst 1 dr_cX17_graph_105 (by decide +kernel) ?_
              refine G_isub dr_cX17_graph_106 (G_nam fun z322956 hz322956 => ?_)
              have ez322956 : z322956.toInt = p322944.toInt - 1 := by rw [gI_sub hz322956 bp322944 (gBl (show Int32.toInt 1 = 1 by decide)) (by decide) (by decide), show Int32.toInt 1 = 1 from by decide]
              have bz322956 : gB z322956 (-1) 999999 := gB_sub (gI_sub hz322956 bp322944 (gBl (show Int32.toInt 1 = 1 by decide)) (by decide) (by decide)) bp322944 (gBl (show Int32.toInt 1 = 1 by decide)) (by decide) (by decide)
              refine G_istore (L' := [(5, .int z322956), (4, .ref q322855), (3, .int g322192), (0, .ref q269174), (1, .ref q269175), (2, .int p269176)]) dr_cX17_graph_107 (Nat.le_of_ble_eq_true rfl) rfl ?_
              have hlp109_324608 : ∀ (n109_324608 : Nat) (F324603 : Nat → va_E) (g324602 : Int32), gB g324602 (-1) 999999 → RS D I P269172 F324603 γ el → rStr γ [] F269173 F324603 → ((g324602.toInt : Int) < γ 2 (γ 14 q322855)) → (gIp (p269176.toInt = 0) (rGr γ el F269173 q269175 (γ 6 (γ 1 q269175)) (cB (F324603 (γ 9 3))) (vB (g322192.toInt : Int).toNat (g324602.toInt + 1 : Int).toNat))) → (F324603 q269174 = F269173 q269174) → ((g324602.toInt : Int) - (-2)).toNat < n109_324608 → G (gV D I) l (gRm 5 111 0 0) (gMA (gV D I) (pt_269178_SpillForgeModel_graph D I γ el P269172 F269173 q269174 q269175 p269176) gNA 0 0) ky_269178_SpillForgeModel_graph 109 [(5, .int g324602), (4, .ref q322855), (3, .int g322192), (0, .ref q269174), (1, .ref q269175), (2, .int p269176)] [] (va_pl P269172 F324603) 0 0 := by
                intro n109_324608
                induction n109_324608 with
                | zero => intro F324603 g324602 bg324602 hT324604 hs324605 x324606 x324607 x324608 hm109_324608; exact absurd hm109_324608 (Nat.not_lt_zero _)
                | succ n109_324608 ih109_324608 =>
                  intro F324603 g324602 bg324602 hT324604 hs324605 x324606 x324607 x324608 hm109_324608
                  have hs324610 : rStr γ [] F322929 F324603 := fun b h0 hb hw => (hs324605 b h0 hb hw).trans (hs322936 b h0 hb hw).symm
                  have he324611 : F324603 q269175 = .inr (18, [.ref q322205, .ref q322206, .int p322207, .int p322208]) := (hs324610 q269175 (rT0 htq269175 (by decide)) (rT1 htq269175 (by decide)) (rT2 htq269175 (by decide))).trans he322932
                  have he324612 : F324603 q322205 = .inr (4, [.int p322836, .ref q322838, .int p322837]) := (hs324610 q322205 (rT0 ht322209 (by decide)) (rT1 ht322209 (by decide)) (rT2 ht322209 (by decide))).trans he322933
                  have he324613 : F324603 q322838 = .inl (I (.object "java/lang/Object"), n322852, .inr (.inr (.inr (.inr f322853)))) := (hs324610 q322838 (rT0 r322844 (by decide)) (rT1 r322844 (by decide)) (rT2 r322844 (by decide))).trans he322934
                  have he324614 : F324603 q322855 = .inr (17, [.ref q322864, .ref q322865, .int p322866, .int p322867]) := (hs324610 q322855 (rT0 ht322860 (by decide)) (rT1 ht322860 (by decide)) (rT2 ht322860 (by decide))).trans he322935
                  have he324615 : F324603 q322864 = .inr (4, [.int p322943, .ref q322945, .int p322944]) := (hs324610 q322864 (rT0 ht322868 (by decide)) (rT1 ht322868 (by decide)) (rT2 ht322868 (by decide))).trans he322942
                  have hs324616 : rStr γ [] F269173 F324603 := rStr_tr hs322936 hs324610
                  have he324617 : F324603 q269174 = .inr (22, [.ref (γ 9 0), .ref (γ 9 1), .ref (γ 9 2), .ref (γ 9 3), .ref (γ 9 4), .ref (γ 9 5), .ref (γ 9 6), .ref (γ 9 7), .ref (γ 9 8), .int p269183, .int p269184, .int p269185, .int p269186, .int p269187, .int p269188, .ref (γ 9 15), .ref (γ 9 16), .ref (γ 9 17), .ref (γ 9 18), .ref (γ 9 19), .ref (γ 9 20), .ref (γ 9 21), .ref (γ 9 22), .int p269189, .int p269190, .int p269191, .int p269192, .int p269193, .ref q269181, .ref (γ 9 29), .int p269194, .ref (γ 9 31), .int p269195, .int p269196, .int p269197, .ref q269182]) := x324608.trans he269180
                  have hm324618 : q269174 ∈ P269172 := RS_m hT324604 htq269174 (by decide)
                  refine G_iload 0 dr_cX17_graph_109 rfl ?_
                  refine G_if_lt 290 dr_cX17_graph_111 (by decide +kernel) (fun hc324619 => ?_) (fun hc324619 => ?_)
                  · have r324620 : g324602.toInt < 0 := gj_lt hc324619 (show Int32.toInt 0 = 0 by decide)
                    have bg324602' : gB g324602 (-1) (-1) := ⟨by omega, by omega⟩
                    obtain ⟨z324621, hz324621⟩ : ∃ z : Int32, z = g322192 + Int32.ofInt 1 := ⟨_, rfl⟩
                    have ez324621 : z324621.toInt = g322192.toInt + 1 := gI_inc hz324621 (by decide) bg322192' (by decide) (by decide)
                    have bz324621 : gB z324621 1 1000000 := ⟨by omega, by omega⟩
                    refine G_iinc (L' := [(3, .int z324621), (5, .int g324602), (4, .ref q322855), (0, .ref q269174), (1, .ref q269175), (2, .int p269176)]) z324621 2 dr_cX17_graph_290 rfl hz324621.symm (Nat.le_of_ble_eq_true rfl) rfl ?_
                    refine G_goto 56 dr_cX17_graph_293 (by decide +kernel) ?_
                    refine G_lv (L' := [(3, .int z324621), (0, .ref q269174), (1, .ref q269175), (2, .int p269176)]) [0, 3, 4, 5] rfl ?_
                    exact ih56_322197 F324603 z324621 (gB_w bz324621 (by decide) (by decide)) hT324604 hs324605 (fun h0 => by have z := x324607 h0; exact gq_nx z (by omega) (by rw [ez324621]; omega)) x324608 (mz_up ez324621 (Int.le_trans bg322192'.2 (by decide)) hm56_322197)
                  · have r324622 : 0 ≤ g324602.toInt := gj_nlt hc324619 (show Int32.toInt 0 = 0 by decide)
                    have bg324602' : gB g324602 0 999999 := ⟨by omega, by omega⟩
                    refine G_aload 1 dr_cX17_graph_114 rfl ?_
                    refine Gp_get 0 hm322862 he324614 dr_cX17_graph_116 (gk_X12 D I) (Nat.le_of_ble_eq_true rfl) wr_9_220 rfl ?_
                    refine G_iload 0 dr_cX17_graph_119 rfl ?_
                    have fl324623 : γ 2 (γ 14 q322855) = γ 2 q322864 := by rw [ht322874.1]
                    have hm324624 : q322864 ∈ P269172 := RS_m hT324604 ht322868 (by decide)
                    obtain ⟨⟨p324626, p324627, q324628, he324625, r324629, r324630, r324631, r324633⟩, r324632⟩ := show rk_3 D I γ el F324603 q322864 from RS_o hT324604 ht322868
                    have bp324626 := gB_any p324626
                    have bp324627 : gB p324627 0 1000000 := ⟨by omega, by omega⟩
                    obtain ⟨r324634, r324635, n324642, f324643, r324636, r324637, r324638, r324639, r324640, r324641⟩ := rLC_n r324631 (by omega)
                    have hm324644 : q324628 ∈ P269172 := RS_m hT324604 r324634 (by decide)
                    obtain ⟨q324645, hx324646⟩ : ∃ x, x = el q322864 g324602.toInt.toNat := ⟨_, rfl⟩
                    have hx324647 : f324643 g324602.toNatClampNeg = some q324645 := (r324640 _ (show g324602.toInt.toNat < γ 2 q322864 by omega)).trans (by rw [hx324646])
                    have ht324648 : rKd γ q324645 1 := by rw [hx324646]; exact (r324632 _ (show g324602.toInt.toNat < γ 2 q322864 by omega)).1
                    have ht324649 : rFm γ q324645 q322864 := by rw [hx324646]; exact (r324632 _ (show g324602.toInt.toNat < γ 2 q322864 by omega)).2.1
                    refine Gw_callV (As := [.int g324602]) (gV_ok D I) (cp_22_ArrayList_get l hl0 D I P269172 F324603 q322864 q324628 g324602 p324626 p324627 f324643 n324642 q324645 hm324624 hm324644 he324625 r324636 (gB_w bg324602' (by decide) (by decide)) (gB_w bp324627 (by decide) (by decide)) (by omega) (by omega) (by assumption) (by omega)) dr_cX17_graph_121 ⟨wr_10_201, wr_1_18, wr_10_65, by decide, rfl, (Nat.le_of_ble_eq_true rfl), (Nat.le_of_ble_eq_true rfl)⟩ wr_10_63 wr_10_64 hm324624 he324625 rfl (show 0 + 0 ≤ 0 by first | omega | decide) (show 0 + 0 ≤ 0 by first | omega | decide) (Nat.le_of_ble_eq_true rfl) (fun r324653 w324654 dc324650 ds324651 hp324652 => ?_) (fun _ _ _ _ _ z => z.elim)
                    obtain ⟨rfl, rfl, hdc, hds⟩ := hp324652
                    change G _ _ _ _ _ _ _ (.ref q324645 :: _) _ _ _
                    refine G_widen (cs' := 0) (sl' := 0) (by omega) (by omega) ?_
                    have hr324655 : el q322864 (g324602.toInt : Int).toNat = q324645 := by rw [hx324646]
                    have hm324656 : q324645 ∈ P269172 := RS_m hT324604 ht324648 (by decide)
                    obtain ⟨p324658, p324659, p324660, p324661, p324662, p324663, p324664, he324657, bp324658, bp324659, bp324662, bp324663, bp324664, r324665, r324666, r324667, r324668⟩ := show rk_1 γ q324645 (F324603 q324645) from RS_o hT324604 ht324648
                    have bp324660 := gB_any p324660
                    have bp324661 := gB_any p324661
                    refine Gp_cast hm324656 he324657 rfl dr_cX17_graph_124 wr_10_202 (gr_cast 1 rfl) ?_
                    refine G_astore (L' := [(6, .ref q324645), (5, .int g324602), (4, .ref q322855), (3, .int g322192), (0, .ref q269174), (1, .ref q269175), (2, .int p269176)]) dr_cX17_graph_127 (Nat.le_of_ble_eq_true rfl) rfl ?_
                    refine G_aload_n 4 dr_cX17_graph_129 rfl ?_
                    refine G_aload 0 dr_cX17_graph_130 rfl ?_
                    refine G_iload_n 6 dr_cX17_graph_132 rfl ?_
                    refine Gw_callV (As := [.ref q324645, .int p269176]) (gV_ok D I) (ct_275613_SpillForgeModel_stand l hl0 D I γ el P269172 F324603 q269174 q324645 p269176 hT324604 htq269174 ht324648 bp269176) dr_cX17_graph_133 ⟨wr_10_237, wr_1_14, wr_11_0, by decide, rfl, (Nat.le_of_ble_eq_true rfl), (Nat.le_of_ble_eq_true rfl)⟩ wr_10_239 wr_p_100 hm324618 he324617 rfl (show 0 + 0 ≤ 0 by first | omega | decide) (show 0 + 0 ≤ 0 by first | omega | decide) (Nat.le_of_ble_eq_true rfl) (fun r324672 w324673 dc324669 ds324670 hp324671 => ?_) (fun _ _ _ _ _ z => z.elim)
                    obtain ⟨F324676, rfl, rfl, hT324677, hs324678, hdc, hds, x324674, x324675⟩ := hp324671
                    have he324679 : F324676 q269175 = .inr (18, [.ref q322205, .ref q322206, .int p322207, .int p322208]) := (hs324678 q269175 (rT0 htq269175 (by decide)) (rT1 htq269175 (by decide)) (rT2 htq269175 (by decide))).trans he324611
                    have he324680 : F324676 q322205 = .inr (4, [.int p322836, .ref q322838, .int p322837]) := (hs324678 q322205 (rT0 ht322209 (by decide)) (rT1 ht322209 (by decide)) (rT2 ht322209 (by decide))).trans he324612
                    have he324681 : F324676 q322838 = .inl (I (.object "java/lang/Object"), n322852, .inr (.inr (.inr (.inr f322853)))) := (hs324678 q322838 (rT0 r322844 (by decide)) (rT1 r322844 (by decide)) (rT2 r322844 (by decide))).trans he324613
                    have he324682 : F324676 q322855 = .inr (17, [.ref q322864, .ref q322865, .int p322866, .int p322867]) := (hs324678 q322855 (rT0 ht322860 (by decide)) (rT1 ht322860 (by decide)) (rT2 ht322860 (by decide))).trans he324614
                    have he324683 : F324676 q322864 = .inr (4, [.int p324626, .ref q324628, .int p324627]) := (hs324678 q322864 (rT0 ht322868 (by decide)) (rT1 ht322868 (by decide)) (rT2 ht322868 (by decide))).trans he324625
                    have he324684 : F324676 q324628 = .inl (I (.object "java/lang/Object"), n324642, .inr (.inr (.inr (.inr f324643)))) := (hs324678 q324628 (rT0 r324634 (by decide)) (rT1 r324634 (by decide)) (rT2 r324634 (by decide))).trans r324636
                    have he324685 : F324676 q324645 = .inr (20, [.int p324658, .int p324659, .int p324660, .int p324661, .int p324662, .int p324663, .int p324664]) := (hs324678 q324645 (rT0 ht324648 (by decide)) (rT1 ht324648 (by decide)) (rT2 ht324648 (by decide))).trans he324657
                    have hs324686 : rStr γ [] F269173 F324676 := rStr_tr hs324605 hs324678
                    have kp324687 : F324676 q269174 = F269173 q269174 := (x324675).trans x324608
                    have he324688 : F324676 q269174 = .inr (22, [.ref (γ 9 0), .ref (γ 9 1), .ref (γ 9 2), .ref (γ 9 3), .ref (γ 9 4), .ref (γ 9 5), .ref (γ 9 6), .ref (γ 9 7), .ref (γ 9 8), .int p269183, .int p269184, .int p269185, .int p269186, .int p269187, .int p269188, .ref (γ 9 15), .ref (γ 9 16), .ref (γ 9 17), .ref (γ 9 18), .ref (γ 9 19), .ref (γ 9 20), .ref (γ 9 21), .ref (γ 9 22), .int p269189, .int p269190, .int p269191, .int p269192, .int p269193, .ref q269181, .ref (γ 9 29), .int p269194, .ref (γ 9 31), .int p269195, .int p269196, .int p269197, .ref q269182]) := (x324675).trans he324617
                    change G _ _ _ _ _ _ _ _ _ _ _
                    refine G_widen (cs' := 0) (sl' := 0) (by omega) (by omega) ?_
                    have hb324689 : el (γ 14 q269175) (g322192.toInt : Int).toNat = q322855 := hb322882
                    have hL324690 : rwL γ el q269175 (g322192.toInt : Int).toNat = q322864 := by unfold rwL; rw [hb324689]; exact ht322874.1
                    have hs324691 : F324603 q324645 = F269173 q324645 := hs324605 q324645 (rT0 ht324648 (by decide)) (rT1 ht324648 (by decide)) (rT2 ht324648 (by decide))
                    have gr324692 : gIp (p269176.toInt = 0) (rGr γ el F269173 q269175 (γ 6 (γ 1 q269175)) (cB (F324676 (γ 9 3))) (vB (g322192.toInt : Int).toNat (g324602.toInt : Int).toNat)) := fun h0 => gq_row (x324607 h0) (fun m => by have z := x324674 h0 m; rw [hs324691] at z; exact z) ((rAt_r hb324689 ht322874.1 (by omega)).trans hr324655) (show (g322192.toInt : Int).toNat < γ 6 (γ 1 q269175) by omega) (by rw [hL324690]; omega) (by omega)
                    refine G_aload 0 dr_cX17_graph_136 rfl ?_
                    refine G_iload_n 6 dr_cX17_graph_138 rfl ?_
                    refine Gw_callS (As := [.ref q324645, .int p269176]) (gV_ok D I) (cp_1778_SpillForgeModel_setOf l hl0 D I P269172 F324676 q324645 p269176 p324658 p324659 p324660 p324661 p324662 p324663 p324664 hm324656 he324685 bp269176 bp324658 bp324659 bp324662 bp324663 bp324664) dr_cX17_graph_139 ⟨wr_10_178, wr_1_14, wr_10_180, by decide, rfl, (Nat.le_of_ble_eq_true rfl), (Nat.le_of_ble_eq_true rfl)⟩ wr_10_179 (show 0 + 0 ≤ 0 by first | omega | decide) (show 0 + 0 ≤ 0 by first | omega | decide) (Nat.le_of_ble_eq_true rfl) (fun r324696 w324697 dc324693 ds324694 hp324695 => ?_) (fun _ _ _ _ _ z => z.elim)
                    obtain ⟨o324698, rfl, rfl, hdc, hds, bo324698⟩ := hp324695
                    change G _ _ _ _ _ _ _ (.int o324698 :: _) _ _ _
                    refine G_widen (cs' := 0) (sl' := 0) (by omega) (by omega) ?_
                    refine G_istore (L' := [(7, .int o324698), (6, .ref q324645), (5, .int g324602), (4, .ref q322855), (3, .int g322192), (0, .ref q269174), (1, .ref q269175), (2, .int p269176)]) dr_cX17_graph_142 (Nat.le_of_ble_eq_true rfl) rfl ?_
                    refine G_iload_n 7 dr_cX17_graph_144 rfl ?_
                    refine G_if_ne 172 dr_cX17_graph_145 (by decide +kernel) (fun hc324699 => ?_) (fun hc324699 => ?_)
                    · have r324700 : p269176.toInt ≠ 0 := gj_neq hc324699 (show Int32.toInt 0 = 0 by decide)
                      have bp269176' : gB p269176 1 1 := gB_t1 bp269176 r324700
                      refine G_iconst (-1) dr_cX17_graph_172 (by decide +kernel) ?_
                      refine G_istore (L' := [(8, .int (-1)), (7, .int o324698), (6, .ref q324645), (5, .int g324602), (4, .ref q322855), (3, .int g322192), (0, .ref q269174), (1, .ref q269175), (2, .int p269176)]) dr_cX17_graph_173 (Nat.le_of_ble_eq_true rfl) rfl ?_
                      refine G_iload 1 dr_cX17_graph_175 rfl ?_
                      refine G_if_lt 277 dr_cX17_graph_177 (by decide +kernel) (fun hc324701 => ?_) (fun hc324701 => ?_)
                      · have r324702 : o324698.toInt < 0 := gj_lt hc324701 (show Int32.toInt 0 = 0 by decide)
                        have bo324698' : gB o324698 (-1) (-1) := ⟨by omega, by omega⟩
                        refine G_aload_n 6 dr_cX17_graph_277 rfl ?_
                        refine G_aload 2 dr_cX17_graph_278 rfl ?_
                        refine G_iload_n 8 dr_cX17_graph_280 rfl ?_
                        refine Gw_callV (As := [.ref q324645, .int p269176]) (gV_ok D I) (ct_275878_SpillForgeModel_back l hl0 D I γ el P269172 F324676 q269174 q324645 p269176 hT324677 htq269174 ht324648 (gB_w bp269176' (by decide) (by decide))) dr_cX17_graph_281 ⟨wr_10_174, wr_1_14, wr_10_177, by decide, rfl, (Nat.le_of_ble_eq_true rfl), (Nat.le_of_ble_eq_true rfl)⟩ wr_10_176 wr_p_96 hm324618 he324688 rfl (show 0 + 0 ≤ 0 by first | omega | decide) (show 0 + 0 ≤ 0 by first | omega | decide) (Nat.le_of_ble_eq_true rfl) (fun r324706 w324707 dc324703 ds324704 hp324705 => ?_) (fun _ _ _ _ _ z => z.elim)
                        obtain ⟨F324710, rfl, rfl, hT324711, hs324712, hdc, hds, x324708, x324709⟩ := hp324705
                        have he324713 : F324710 q269175 = .inr (18, [.ref q322205, .ref q322206, .int p322207, .int p322208]) := (hs324712 q269175 (rT0 htq269175 (by decide)) (rT1 htq269175 (by decide)) (rT2 htq269175 (by decide))).trans he324679
                        have he324714 : F324710 q322205 = .inr (4, [.int p322836, .ref q322838, .int p322837]) := (hs324712 q322205 (rT0 ht322209 (by decide)) (rT1 ht322209 (by decide)) (rT2 ht322209 (by decide))).trans he324680
                        have he324715 : F324710 q322838 = .inl (I (.object "java/lang/Object"), n322852, .inr (.inr (.inr (.inr f322853)))) := (hs324712 q322838 (rT0 r322844 (by decide)) (rT1 r322844 (by decide)) (rT2 r322844 (by decide))).trans he324681
                        have he324716 : F324710 q322855 = .inr (17, [.ref q322864, .ref q322865, .int p322866, .int p322867]) := (hs324712 q322855 (rT0 ht322860 (by decide)) (rT1 ht322860 (by decide)) (rT2 ht322860 (by decide))).trans he324682
                        have he324717 : F324710 q322864 = .inr (4, [.int p324626, .ref q324628, .int p324627]) := (hs324712 q322864 (rT0 ht322868 (by decide)) (rT1 ht322868 (by decide)) (rT2 ht322868 (by decide))).trans he324683
                        have he324718 : F324710 q324628 = .inl (I (.object "java/lang/Object"), n324642, .inr (.inr (.inr (.inr f324643)))) := (hs324712 q324628 (rT0 r324634 (by decide)) (rT1 r324634 (by decide)) (rT2 r324634 (by decide))).trans he324684
                        have he324719 : F324710 q324645 = .inr (20, [.int p324658, .int p324659, .int p324660, .int p324661, .int p324662, .int p324663, .int p324664]) := (hs324712 q324645 (rT0 ht324648 (by decide)) (rT1 ht324648 (by decide)) (rT2 ht324648 (by decide))).trans he324685
                        have hs324720 : rStr γ [] F269173 F324710 := rStr_tr hs324686 hs324712
                        have kp324721 : F324710 q269174 = F269173 q269174 := (x324708).trans kp324687
                        have kp324722 : F324710 (γ 9 3) = F324676 (γ 9 3) := x324709
                        have he324723 : F324710 q269174 = .inr (22, [.ref (γ 9 0), .ref (γ 9 1), .ref (γ 9 2), .ref (γ 9 3), .ref (γ 9 4), .ref (γ 9 5), .ref (γ 9 6), .ref (γ 9 7), .ref (γ 9 8), .int p269183, .int p269184, .int p269185, .int p269186, .int p269187, .int p269188, .ref (γ 9 15), .ref (γ 9 16), .ref (γ 9 17), .ref (γ 9 18), .ref (γ 9 19), .ref (γ 9 20), .ref (γ 9 21), .ref (γ 9 22), .int p269189, .int p269190, .int p269191, .int p269192, .int p269193, .ref q269181, .ref (γ 9 29), .int p269194, .ref (γ 9 31), .int p269195, .int p269196, .int p269197, .ref q269182]) := (x324708).trans he324688
                        change G _ _ _ _ _ _ _ _ _ _ _
                        refine G_widen (cs' := 0) (sl' := 0) (by omega) (by omega) ?_
                        obtain ⟨z324724, hz324724⟩ : ∃ z : Int32, z = g324602 + Int32.ofInt (-1) := ⟨_, rfl⟩
                        have ez324724 : z324724.toInt = g324602.toInt + (-1) := gI_inc hz324724 (by decide) bg324602' (by decide) (by decide)
                        have bz324724 : gB z324724 (-1) 999998 := ⟨by omega, by omega⟩
                        refine G_iinc (L' := [(5, .int z324724), (8, .int (-1)), (7, .int o324698), (6, .ref q324645), (4, .ref q322855), (3, .int g322192), (0, .ref q269174), (1, .ref q269175), (2, .int p269176)]) z324724 3 dr_cX17_graph_284 rfl hz324724.symm (Nat.le_of_ble_eq_true rfl) rfl ?_
                        refine G_goto 109 dr_cX17_graph_287 (by decide +kernel) ?_
                        refine G_lv (L' := [(5, .int z324724), (4, .ref q322855), (3, .int g322192), (0, .ref q269174), (1, .ref q269175), (2, .int p269176)]) [0, 4, 5, 6, 7, 8] rfl ?_
                        exact ih109_324608 F324710 z324724 (gB_w bz324724 (by decide) (by decide)) hT324711 hs324720 (by omega) (fun h0 => by have z := gr324692 h0; rw [← kp324722] at z; rw [show ((g324602.toInt : Int).toNat : Nat) = (z324724.toInt + 1 : Int).toNat by omega] at z; exact z) kp324721 (mz_dn ez324724 (Int.le_trans (by decide) bg324602'.1) hm109_324608)
                      · have r324725 : 0 ≤ o324698.toInt := gj_nlt hc324701 (show Int32.toInt 0 = 0 by decide)
                        have bo324698' : gB o324698 0 1999 := ⟨by omega, by omega⟩
                        refine G_iload 0 dr_cX17_graph_180 rfl ?_
                        refine G_if_lt 204 dr_cX17_graph_182 (by decide +kernel) (fun _ => ?_) (fun hc => absurd hc (by decide))
                        refine G_iconst 0 dr_cX17_graph_204 (by decide +kernel) ?_
                        refine G_istore (L' := [(9, .int 0), (8, .int (-1)), (7, .int o324698), (6, .ref q324645), (5, .int g324602), (4, .ref q322855), (3, .int g322192), (0, .ref q269174), (1, .ref q269175), (2, .int p269176)]) dr_cX17_graph_205 (Nat.le_of_ble_eq_true rfl) rfl ?_
                        refine G_iconst 0 dr_cX17_graph_207 (by decide +kernel) ?_
                        refine G_istore (L' := [(10, .int 0), (9, .int 0), (8, .int (-1)), (7, .int o324698), (6, .ref q324645), (5, .int g324602), (4, .ref q322855), (3, .int g322192), (0, .ref q269174), (1, .ref q269175), (2, .int p269176)]) dr_cX17_graph_208 (Nat.le_of_ble_eq_true rfl) rfl ?_
                        have hlp210_324842 : ∀ (n210_324842 : Nat) (F324838 : Nat → va_E) (g324837 : Int32), gB g324837 0 32 → RS D I P269172 F324838 γ el → rStr γ [] F269173 F324838 → (gIp (p269176.toInt = 0) (rGr γ el F269173 q269175 (γ 6 (γ 1 q269175)) (cB (F324838 (γ 9 3))) (vB (g322192.toInt : Int).toNat (g324602.toInt : Int).toNat))) → (F324838 q269174 = F269173 q269174) → ((33 : Int) - g324837.toInt).toNat < n210_324842 → G (gV D I) l (gRm 5 111 0 0) (gMA (gV D I) (pt_269178_SpillForgeModel_graph D I γ el P269172 F269173 q269174 q269175 p269176) gNA 0 0) ky_269178_SpillForgeModel_graph 210 [(10, .int g324837), (9, .int 0), (8, .int (-1)), (7, .int o324698), (6, .ref q324645), (5, .int g324602), (4, .ref q322855), (3, .int g322192), (0, .ref q269174), (1, .ref q269175), (2, .int p269176)] [] (va_pl P269172 F324838) 0 0 := by
                          intro n210_324842
                          induction n210_324842 with
                          | zero => intro F324838 g324837 bg324837 hT324839 hs324840 x324841 x324842 hm210_324842; exact absurd hm210_324842 (Nat.not_lt_zero _)
                          | succ n210_324842 ih210_324842 =>
                            intro F324838 g324837 bg324837 hT324839 hs324840 x324841 x324842 hm210_324842
                            have hs324844 : rStr γ [] F324676 F324838 := fun b h0 hb hw => (hs324840 b h0 hb hw).trans (hs324686 b h0 hb hw).symm
                            have he324845 : F324838 q269175 = .inr (18, [.ref q322205, .ref q322206, .int p322207, .int p322208]) := (hs324844 q269175 (rT0 htq269175 (by decide)) (rT1 htq269175 (by decide)) (rT2 htq269175 (by decide))).trans he324679
                            have he324846 : F324838 q322205 = .inr (4, [.int p322836, .ref q322838, .int p322837]) := (hs324844 q322205 (rT0 ht322209 (by decide)) (rT1 ht322209 (by decide)) (rT2 ht322209 (by decide))).trans he324680
                            have he324847 : F324838 q322838 = .inl (I (.object "java/lang/Object"), n322852, .inr (.inr (.inr (.inr f322853)))) := (hs324844 q322838 (rT0 r322844 (by decide)) (rT1 r322844 (by decide)) (rT2 r322844 (by decide))).trans he324681
                            have he324848 : F324838 q322855 = .inr (17, [.ref q322864, .ref q322865, .int p322866, .int p322867]) := (hs324844 q322855 (rT0 ht322860 (by decide)) (rT1 ht322860 (by decide)) (rT2 ht322860 (by decide))).trans he324682
                            have he324849 : F324838 q322864 = .inr (4, [.int p324626, .ref q324628, .int p324627]) := (hs324844 q322864 (rT0 ht322868 (by decide)) (rT1 ht322868 (by decide)) (rT2 ht322868 (by decide))).trans he324683
                            have he324850 : F324838 q324628 = .inl (I (.object "java/lang/Object"), n324642, .inr (.inr (.inr (.inr f324643)))) := (hs324844 q324628 (rT0 r324634 (by decide)) (rT1 r324634 (by decide)) (rT2 r324634 (by decide))).trans he324684
                            have he324851 : F324838 q324645 = .inr (20, [.int p324658, .int p324659, .int p324660, .int p324661, .int p324662, .int p324663, .int p324664]) := (hs324844 q324645 (rT0 ht324648 (by decide)) (rT1 ht324648 (by decide)) (rT2 ht324648 (by decide))).trans he324685
                            have hs324852 : rStr γ [] F269173 F324838 := rStr_tr hs324686 hs324844
                            have he324853 : F324838 q269174 = .inr (22, [.ref (γ 9 0), .ref (γ 9 1), .ref (γ 9 2), .ref (γ 9 3), .ref (γ 9 4), .ref (γ 9 5), .ref (γ 9 6), .ref (γ 9 7), .ref (γ 9 8), .int p269183, .int p269184, .int p269185, .int p269186, .int p269187, .int p269188, .ref (γ 9 15), .ref (γ 9 16), .ref (γ 9 17), .ref (γ 9 18), .ref (γ 9 19), .ref (γ 9 20), .ref (γ 9 21), .ref (γ 9 22), .int p269189, .int p269190, .int p269191, .int p269192, .int p269193, .ref q269181, .ref (γ 9 29), .int p269194, .ref (γ 9 31), .int p269195, .int p269196, .int p269197, .ref q269182]) := x324842.trans he269180
                            have hm324854 : q269174 ∈ P269172 := RS_m hT324839 htq269174 (by decide)
                            refine G_iload 0 dr_cX17_graph_210 rfl ?_
                            refine G_bipush 32 dr_cX17_graph_212 (by decide +kernel) ?_
                            refine G_icmp_ge 243 dr_cX17_graph_214 (by decide +kernel) (fun hc324855 => ?_) (fun hc324855 => ?_)
                            · have r324856 : 32 ≤ g324837.toInt := gj_leL hc324855 (show Int32.toInt 32 = 32 by decide)
                              have bg324837' : gB g324837 32 32 := ⟨by omega, by omega⟩
                              refine G_iload 2 dr_cX17_graph_243 rfl ?_
                              refine G_if_lt 265 dr_cX17_graph_245 (by decide +kernel) (fun _ => ?_) (fun hc => absurd hc (by decide))
                              refine G_aload_n 8 dr_cX17_graph_265 rfl ?_
                              refine Gp_get 1 hm324854 he324853 dr_cX17_graph_266 (gk_X17 D I) (Nat.le_of_ble_eq_true rfl) wr_7_75 rfl ?_
                              refine G_iload 3 dr_cX17_graph_269 rfl ?_
                              have hm324857 : (γ 9 1) ∈ P269172 := RS_m hT324839 ht269201 (by decide)
                              obtain ⟨f324859, he324858, hg324860⟩ := show rk_13 I γ (F324838 (γ 9 1)) from RS_o hT324839 ht269201
                              obtain ⟨q324861, hx324863⟩ : ∃ x, x = γ 11 o324698.toInt.toNat := ⟨_, rfl⟩
                              have ht324862 : rKd γ q324861 36 := by rw [hx324863]; exact (hg324860 _ (show o324698.toInt.toNat < 2000 by omega)).2.1
                              refine Gp_aald 5 hm324857 he324858 dr_cX17_graph_271 rfl rfl (gB_in bo324698' (by decide) (by decide)) ?_
                              rw [show f324859 o324698.toNatClampNeg = some q324861 from (hg324860 _ (show o324698.toInt.toNat < 2000 by omega)).1.trans (by rw [hx324863])]
                              change G _ _ _ _ _ _ _ (.ref q324861 :: _) _ _ _
                              refine G_iload 3 dr_cX17_graph_272 rfl ?_
                              have hm324864 : q324861 ∈ P269172 := RS_m hT324839 ht324862 (by decide)
                              obtain ⟨f324866, he324865, wf324866⟩ := show rk_36 I (F324838 q324861) from RS_o hT324839 ht324862
                              refine Gw_callS (As := [.ref q324861, .int o324698]) (gV_ok D I) (cp_1873_SpillForgeModel_clear l hl0 D I P269172 F324838 q324861 o324698 f324866 hm324864 he324865 bo324698' wf324866) dr_cX17_graph_274 ⟨wr_10_185, wr_1_14, wr_10_187, by decide, rfl, (Nat.le_of_ble_eq_true rfl), (Nat.le_of_ble_eq_true rfl)⟩ wr_10_186 (show 0 + 0 ≤ 0 by first | omega | decide) (show 0 + 0 ≤ 0 by first | omega | decide) (Nat.le_of_ble_eq_true rfl) (fun r324870 w324871 dc324867 ds324868 hp324869 => ?_) (fun _ _ _ _ _ z => z.elim)
                              obtain ⟨F324874, f324872, rfl, rfl, hfr324876, he324877, hdc, hds, x324873⟩ := hp324869
                              have he324878 : F324874 q269175 = .inr (18, [.ref q322205, .ref q322206, .int p322207, .int p322208]) := (hfr324876 q269175 hm322203 (nm_c (rn_oa he324845 he324865) nm_n)).trans he324845
                              have he324879 : F324874 q322205 = .inr (4, [.int p322836, .ref q322838, .int p322837]) := (hfr324876 q322205 hm322834 (nm_c (rn_oa he324846 he324865) nm_n)).trans he324846
                              have he324880 : F324874 q322838 = .inl (I (.object "java/lang/Object"), n322852, .inr (.inr (.inr (.inr f322853)))) := (hfr324876 q322838 hm322854 (nm_c (rn_ref_long he324847 he324865) nm_n)).trans he324847
                              have he324881 : F324874 q322855 = .inr (17, [.ref q322864, .ref q322865, .int p322866, .int p322867]) := (hfr324876 q322855 hm322862 (nm_c (rn_oa he324848 he324865) nm_n)).trans he324848
                              have he324882 : F324874 q322864 = .inr (4, [.int p324626, .ref q324628, .int p324627]) := (hfr324876 q322864 hm324624 (nm_c (rn_oa he324849 he324865) nm_n)).trans he324849
                              have he324883 : F324874 q324628 = .inl (I (.object "java/lang/Object"), n324642, .inr (.inr (.inr (.inr f324643)))) := (hfr324876 q324628 hm324644 (nm_c (rn_ref_long he324850 he324865) nm_n)).trans he324850
                              have he324884 : F324874 q324645 = .inr (20, [.int p324658, .int p324659, .int p324660, .int p324661, .int p324662, .int p324663, .int p324664]) := (hfr324876 q324645 hm324656 (nm_c (rn_oa he324851 he324865) nm_n)).trans he324851
                              have he324885 : F324874 q269174 = .inr (22, [.ref (γ 9 0), .ref (γ 9 1), .ref (γ 9 2), .ref (γ 9 3), .ref (γ 9 4), .ref (γ 9 5), .ref (γ 9 6), .ref (γ 9 7), .ref (γ 9 8), .int p269183, .int p269184, .int p269185, .int p269186, .int p269187, .int p269188, .ref (γ 9 15), .ref (γ 9 16), .ref (γ 9 17), .ref (γ 9 18), .ref (γ 9 19), .ref (γ 9 20), .ref (γ 9 21), .ref (γ 9 22), .int p269189, .int p269190, .int p269191, .int p269192, .int p269193, .ref q269181, .ref (γ 9 29), .int p269194, .ref (γ 9 31), .int p269195, .int p269196, .int p269197, .ref q269182]) := (hfr324876 q269174 hm324854 (nm_c (rn_oa he324853 he324865) nm_n)).trans he324853
                              have he324886 : F324874 (γ 9 1) = .inl (I (.array .long), 2000, .inr (.inr (.inr (.inr f324859)))) := (hfr324876 (γ 9 1) hm324857 (nm_c (rn_ref_long he324858 he324865) nm_n)).trans he324858
                              have hfr324887 : rFr [q324861] P269172 F324838 F324874 := rFr_call (rSub_rf (P := P269172)) (rFr_rf (W := []) (P := P269172) (F := F324838)) hfr324876 (fun b hb hn => ⟨nm_n, (nm_c (fun e => hn (e ▸ List.mem_cons_self)) nm_n)⟩)
                              change G _ _ _ _ _ _ _ _ _ _ _
                              refine G_widen (cs' := 0) (sl' := 0) (by omega) (by omega) ?_
                              have hT324888 : RS D I P269172 F324874 γ el := RS_fr hT324839 hfr324887 ht324862 (by decide) ⟨f324872, he324877, x324873⟩
                              have hs324889 : rStr γ [] F269173 F324874 := rStr_fr hT324839 hs324840 hfr324887 ht324862 (by decide)
                              have kp324890 : F324874 q269174 = F269173 q269174 := (hfr324887 q269174 (RS_m hT324839 htq269174 (by decide)) (nm_c (rn_ty htq269174 ht324862 (by decide)) nm_n)).trans x324842
                              have kp324891 : F324874 (γ 9 3) = F324838 (γ 9 3) := hfr324887 (γ 9 3) (RS_m hT324839 ht269203 (by decide)) (nm_c (rn_ty ht269203 ht324862 (by decide)) nm_n)
                              refine G_aload_n 8 dr_cX17_graph_277 rfl ?_
                              refine G_aload 4 dr_cX17_graph_278 rfl ?_
                              refine G_iload_n 10 dr_cX17_graph_280 rfl ?_
                              refine Gw_callV (As := [.ref q324645, .int p269176]) (gV_ok D I) (ct_275878_SpillForgeModel_back l hl0 D I γ el P269172 F324874 q269174 q324645 p269176 hT324888 htq269174 ht324648 (gB_w bp269176' (by decide) (by decide))) dr_cX17_graph_281 ⟨wr_10_174, wr_1_14, wr_10_177, by decide, rfl, (Nat.le_of_ble_eq_true rfl), (Nat.le_of_ble_eq_true rfl)⟩ wr_10_176 wr_p_96 hm324854 he324885 rfl (show 0 + 0 ≤ 0 by first | omega | decide) (show 0 + 0 ≤ 0 by first | omega | decide) (Nat.le_of_ble_eq_true rfl) (fun r324895 w324896 dc324892 ds324893 hp324894 => ?_) (fun _ _ _ _ _ z => z.elim)
                              obtain ⟨F324899, rfl, rfl, hT324900, hs324901, hdc, hds, x324897, x324898⟩ := hp324894
                              have he324902 : F324899 q269175 = .inr (18, [.ref q322205, .ref q322206, .int p322207, .int p322208]) := (hs324901 q269175 (rT0 htq269175 (by decide)) (rT1 htq269175 (by decide)) (rT2 htq269175 (by decide))).trans he324878
                              have he324903 : F324899 q322205 = .inr (4, [.int p322836, .ref q322838, .int p322837]) := (hs324901 q322205 (rT0 ht322209 (by decide)) (rT1 ht322209 (by decide)) (rT2 ht322209 (by decide))).trans he324879
                              have he324904 : F324899 q322838 = .inl (I (.object "java/lang/Object"), n322852, .inr (.inr (.inr (.inr f322853)))) := (hs324901 q322838 (rT0 r322844 (by decide)) (rT1 r322844 (by decide)) (rT2 r322844 (by decide))).trans he324880
                              have he324905 : F324899 q322855 = .inr (17, [.ref q322864, .ref q322865, .int p322866, .int p322867]) := (hs324901 q322855 (rT0 ht322860 (by decide)) (rT1 ht322860 (by decide)) (rT2 ht322860 (by decide))).trans he324881
                              have he324906 : F324899 q322864 = .inr (4, [.int p324626, .ref q324628, .int p324627]) := (hs324901 q322864 (rT0 ht322868 (by decide)) (rT1 ht322868 (by decide)) (rT2 ht322868 (by decide))).trans he324882
                              have he324907 : F324899 q324628 = .inl (I (.object "java/lang/Object"), n324642, .inr (.inr (.inr (.inr f324643)))) := (hs324901 q324628 (rT0 r324634 (by decide)) (rT1 r324634 (by decide)) (rT2 r324634 (by decide))).trans he324883
                              have he324908 : F324899 q324645 = .inr (20, [.int p324658, .int p324659, .int p324660, .int p324661, .int p324662, .int p324663, .int p324664]) := (hs324901 q324645 (rT0 ht324648 (by decide)) (rT1 ht324648 (by decide)) (rT2 ht324648 (by decide))).trans he324884
                              have hs324909 : rStr γ [] F269173 F324899 := rStr_tr hs324889 hs324901
                              have kp324910 : F324899 q269174 = F269173 q269174 := (x324897).trans kp324890
                              have kp324911 : F324899 (γ 9 3) = F324838 (γ 9 3) := (x324898).trans kp324891
                              have he324912 : F324899 q269174 = .inr (22, [.ref (γ 9 0), .ref (γ 9 1), .ref (γ 9 2), .ref (γ 9 3), .ref (γ 9 4), .ref (γ 9 5), .ref (γ 9 6), .ref (γ 9 7), .ref (γ 9 8), .int p269183, .int p269184, .int p269185, .int p269186, .int p269187, .int p269188, .ref (γ 9 15), .ref (γ 9 16), .ref (γ 9 17), .ref (γ 9 18), .ref (γ 9 19), .ref (γ 9 20), .ref (γ 9 21), .ref (γ 9 22), .int p269189, .int p269190, .int p269191, .int p269192, .int p269193, .ref q269181, .ref (γ 9 29), .int p269194, .ref (γ 9 31), .int p269195, .int p269196, .int p269197, .ref q269182]) := (x324897).trans he324885
                              change G _ _ _ _ _ _ _ _ _ _ _
                              refine G_widen (cs' := 0) (sl' := 0) (by omega) (by omega) ?_
                              obtain ⟨z324913, hz324913⟩ : ∃ z : Int32, z = g324602 + Int32.ofInt (-1) := ⟨_, rfl⟩
                              have ez324913 : z324913.toInt = g324602.toInt + (-1) := gI_inc hz324913 (by decide) bg324602' (by decide) (by decide)
                              have bz324913 : gB z324913 (-1) 999998 := ⟨by omega, by omega⟩
                              refine G_iinc (L' := [(5, .int z324913), (10, .int g324837), (9, .int 0), (8, .int (-1)), (7, .int o324698), (6, .ref q324645), (4, .ref q322855), (3, .int g322192), (0, .ref q269174), (1, .ref q269175), (2, .int p269176)]) z324913 5 dr_cX17_graph_284 rfl hz324913.symm (Nat.le_of_ble_eq_true rfl) rfl ?_
                              refine G_goto 109 dr_cX17_graph_287 (by decide +kernel) ?_
                              refine G_lv (L' := [(5, .int z324913), (4, .ref q322855), (3, .int g322192), (0, .ref q269174), (1, .ref q269175), (2, .int p269176)]) [0, 6, 7, 8, 9, 10] rfl ?_
                              exact ih109_324608 F324899 z324913 (gB_w bz324913 (by decide) (by decide)) hT324900 hs324909 (by omega) (fun h0 => by have z := x324841 h0; rw [← kp324911] at z; rw [show ((g324602.toInt : Int).toNat : Nat) = (z324913.toInt + 1 : Int).toNat by omega] at z; exact z) kp324910 (mz_dn ez324913 (Int.le_trans (by decide) bg324602'.1) hm109_324608)
                            · have r324914 : g324837.toInt < 32 := gj_nleL hc324855 (show Int32.toInt 32 = 32 by decide)
                              have bg324837' : gB g324837 0 31 := ⟨by omega, by omega⟩
                              refine G_aload_n 8 dr_cX17_graph_217 rfl ?_
                              refine Gp_get 1 hm324854 he324853 dr_cX17_graph_218 (gk_X17 D I) (Nat.le_of_ble_eq_true rfl) wr_7_75 rfl ?_
                              refine G_iload 3 dr_cX17_graph_221 rfl ?_
                              have hm324915 : (γ 9 1) ∈ P269172 := RS_m hT324839 ht269201 (by decide)
                              obtain ⟨f324917, he324916, hg324918⟩ := show rk_13 I γ (F324838 (γ 9 1)) from RS_o hT324839 ht269201
                              obtain ⟨q324919, hx324921⟩ : ∃ x, x = γ 11 o324698.toInt.toNat := ⟨_, rfl⟩
                              have ht324920 : rKd γ q324919 36 := by rw [hx324921]; exact (hg324918 _ (show o324698.toInt.toNat < 2000 by omega)).2.1
                              refine Gp_aald 5 hm324915 he324916 dr_cX17_graph_223 rfl rfl (gB_in bo324698' (by decide) (by decide)) ?_
                              rw [show f324917 o324698.toNatClampNeg = some q324919 from (hg324918 _ (show o324698.toInt.toNat < 2000 by omega)).1.trans (by rw [hx324921])]
                              change G _ _ _ _ _ _ _ (.ref q324919 :: _) _ _ _
                              refine G_iload 0 dr_cX17_graph_224 rfl ?_
                              refine G_dup2_11 dr_cX17_graph_226 rfl rfl ?_
                              have hm324922 : q324919 ∈ P269172 := RS_m hT324839 ht324920 (by decide)
                              obtain ⟨f324924, he324923, wf324924⟩ := show rk_36 I (F324838 q324919) from RS_o hT324839 ht324920
                              refine Gp_lald 2 hm324922 he324923 dr_cX17_graph_227 rfl (gB_in bg324837' (by decide) (by decide)) (G_namL fun u324925 hu324925 => ?_)
                              have qu324925 : lb_Q u324925 (2000 - 64 * g324837.toInt) := lb_Wld hu324925 wf324924 (by omega) (by omega) (lb_Mod0 (by omega) (by omega))
                              refine G_aload_n 8 dr_cX17_graph_228 rfl ?_
                              refine Gp_get 2 hm324854 he324853 dr_cX17_graph_229 (gk_X17 D I) (Nat.le_of_ble_eq_true rfl) wr_7_76 rfl ?_
                              refine G_iload 0 dr_cX17_graph_232 rfl ?_
                              have hm324926 : (γ 9 2) ∈ P269172 := RS_m hT324839 ht269202 (by decide)
                              obtain ⟨f324928, he324927, wf324928⟩ := show rk_35 I (F324838 (γ 9 2)) from RS_o hT324839 ht269202
                              refine Gp_lald 2 hm324926 he324927 dr_cX17_graph_234 rfl (gB_in bg324837' (by decide) (by decide)) (G_namL fun u324929 hu324929 => ?_)
                              have qu324929 : lb_Q u324929 (2000 - 64 * g324837.toInt) := lb_Wld hu324929 wf324928 (by omega) (by omega) (lb_Mod0 (by omega) (by omega))
                              refine G_lor dr_cX17_graph_235 (G_namL fun u324930 hu324930 => ?_)
                              have qu324930 : lb_Q u324930 (2000 - 64 * g324837.toInt) := lb_Qor hu324930 qu324925 qu324929
                              refine Gp_last 2 hm324922 he324923 dr_cX17_graph_236 rfl (gB_in bg324837' (by decide) (by decide)) (fun F324931 e324932 n324933 => ?_)
                              obtain ⟨f324934, hf324934⟩ : ∃ z, z = vp_updL f324924 g324837.toNatClampNeg u324930 := ⟨_, rfl⟩
                              rw [← hf324934] at e324932
                              have he324935 : F324931 q269175 = .inr (18, [.ref q322205, .ref q322206, .int p322207, .int p322208]) := (n324933 q269175 (rn_oa he324845 he324923)).trans he324845
                              have he324936 : F324931 q322205 = .inr (4, [.int p322836, .ref q322838, .int p322837]) := (n324933 q322205 (rn_oa he324846 he324923)).trans he324846
                              have he324937 : F324931 q322838 = .inl (I (.object "java/lang/Object"), n322852, .inr (.inr (.inr (.inr f322853)))) := (n324933 q322838 (rn_ref_long he324847 he324923)).trans he324847
                              have he324938 : F324931 q322855 = .inr (17, [.ref q322864, .ref q322865, .int p322866, .int p322867]) := (n324933 q322855 (rn_oa he324848 he324923)).trans he324848
                              have he324939 : F324931 q322864 = .inr (4, [.int p324626, .ref q324628, .int p324627]) := (n324933 q322864 (rn_oa he324849 he324923)).trans he324849
                              have he324940 : F324931 q324628 = .inl (I (.object "java/lang/Object"), n324642, .inr (.inr (.inr (.inr f324643)))) := (n324933 q324628 (rn_ref_long he324850 he324923)).trans he324850
                              have he324941 : F324931 q324645 = .inr (20, [.int p324658, .int p324659, .int p324660, .int p324661, .int p324662, .int p324663, .int p324664]) := (n324933 q324645 (rn_oa he324851 he324923)).trans he324851
                              have he324942 : F324931 q269174 = .inr (22, [.ref (γ 9 0), .ref (γ 9 1), .ref (γ 9 2), .ref (γ 9 3), .ref (γ 9 4), .ref (γ 9 5), .ref (γ 9 6), .ref (γ 9 7), .ref (γ 9 8), .int p269183, .int p269184, .int p269185, .int p269186, .int p269187, .int p269188, .ref (γ 9 15), .ref (γ 9 16), .ref (γ 9 17), .ref (γ 9 18), .ref (γ 9 19), .ref (γ 9 20), .ref (γ 9 21), .ref (γ 9 22), .int p269189, .int p269190, .int p269191, .int p269192, .int p269193, .ref q269181, .ref (γ 9 29), .int p269194, .ref (γ 9 31), .int p269195, .int p269196, .int p269197, .ref q269182]) := (n324933 q269174 (rn_oa he324853 he324923)).trans he324853
                              have he324943 : F324931 (γ 9 1) = .inl (I (.array .long), 2000, .inr (.inr (.inr (.inr f324917)))) := (n324933 (γ 9 1) (rn_ref_long he324916 he324923)).trans he324916
                              have he324944 : F324931 (γ 9 2) = .inl (I .long, 32, .inr (.inl f324928)) := (n324933 (γ 9 2) (rn_ty ht269202 ht324920 (by decide))).trans he324927
                              have he324945 : F324931 q324919 = .inl (I .long, 32, .inr (.inl f324934)) := e324932
                              have hs324946 : rStr γ [] F269173 F324931 := rStr_put hs324840 n324933 ht324920 (by decide)
                              have kp324947 : F324931 q269174 = F269173 q269174 := (n324933 q269174 (rn_ty htq269174 ht324920 (by decide))).trans x324842
                              have kp324948 : F324931 (γ 9 3) = F324838 (γ 9 3) := n324933 (γ 9 3) (rn_ty ht269203 ht324920 (by decide))
                              have wf324934 : lb_W f324934 (32) (32) (2000) := lb_Wst hf324934 wf324924 (by omega) (lb_Mod0 (by omega) (by omega)) qu324930
                              obtain ⟨z324949, hz324949⟩ : ∃ z : Int32, z = g324837 + Int32.ofInt 1 := ⟨_, rfl⟩
                              have ez324949 : z324949.toInt = g324837.toInt + 1 := gI_inc hz324949 (by decide) bg324837' (by decide) (by decide)
                              have bz324949 : gB z324949 1 32 := ⟨by omega, by omega⟩
                              refine G_iinc (L' := [(10, .int z324949), (9, .int 0), (8, .int (-1)), (7, .int o324698), (6, .ref q324645), (5, .int g324602), (4, .ref q322855), (3, .int g322192), (0, .ref q269174), (1, .ref q269175), (2, .int p269176)]) z324949 0 dr_cX17_graph_237 rfl hz324949.symm (Nat.le_of_ble_eq_true rfl) rfl ?_
                              refine G_goto 210 dr_cX17_graph_240 (by decide +kernel) ?_
                              have hT324950 : RS D I P269172 F324931 γ el := RS_set hT324839 n324933 ht324920 (by decide) ⟨f324934, he324945, wf324934⟩
                              exact ih210_324842 F324931 z324949 (gB_w bz324949 (by decide) (by decide)) hT324950 hs324946 (by rw [kp324948]; exact x324841) kp324947 (mz_up ez324949 (Int.le_trans bg324837'.2 (by decide)) hm210_324842)
                        exact hlp210_324842 (((33 : Int) - 0).toNat + 1) F324676 0 (gB_w (gBl (show Int32.toInt 0 = 0 by decide)) (by decide) (by decide)) hT324677 hs324686 gr324692 kp324687 (Nat.lt_succ_self _)
                    · have r324951 : p269176.toInt = 0 := gj_eq hc324699 (show Int32.toInt 0 = 0 by decide)
                      have bp269176' : gB p269176 0 0 := gB_t0 r324951
                      refine G_aload 1 dr_cX17_graph_148 rfl ?_
                      refine Gp_get 0 hm324656 he324685 dr_cX17_graph_150 (gk_X15 D I) (Nat.le_of_ble_eq_true rfl) wr_9_177 rfl ?_
                      refine G_if_ne 172 dr_cX17_graph_153 (by decide +kernel) (fun hc324952 => ?_) (fun hc324952 => ?_)
                      · have r324953 : p324658.toInt ≠ 0 := gj_neq hc324952 (show Int32.toInt 0 = 0 by decide)
                        have bp324658' : gB p324658 1 32 := ⟨by omega, by omega⟩
                        refine G_iconst (-1) dr_cX17_graph_172 (by decide +kernel) ?_
                        refine G_istore (L' := [(8, .int (-1)), (7, .int o324698), (6, .ref q324645), (5, .int g324602), (4, .ref q322855), (3, .int g322192), (0, .ref q269174), (1, .ref q269175), (2, .int p269176)]) dr_cX17_graph_173 (Nat.le_of_ble_eq_true rfl) rfl ?_
                        refine G_iload 1 dr_cX17_graph_175 rfl ?_
                        refine G_if_lt 277 dr_cX17_graph_177 (by decide +kernel) (fun hc324954 => ?_) (fun hc324954 => ?_)
                        · have r324955 : o324698.toInt < 0 := gj_lt hc324954 (show Int32.toInt 0 = 0 by decide)
                          have bo324698' : gB o324698 (-1) (-1) := ⟨by omega, by omega⟩
                          refine G_aload_n 6 dr_cX17_graph_277 rfl ?_
                          refine G_aload 2 dr_cX17_graph_278 rfl ?_
                          refine G_iload_n 8 dr_cX17_graph_280 rfl ?_
                          refine Gw_callV (As := [.ref q324645, .int p269176]) (gV_ok D I) (ct_275878_SpillForgeModel_back l hl0 D I γ el P269172 F324676 q269174 q324645 p269176 hT324677 htq269174 ht324648 (gB_w bp269176' (by decide) (by decide))) dr_cX17_graph_281 ⟨wr_10_174, wr_1_14, wr_10_177, by decide, rfl, (Nat.le_of_ble_eq_true rfl), (Nat.le_of_ble_eq_true rfl)⟩ wr_10_176 wr_p_96 hm324618 he324688 rfl (show 0 + 0 ≤ 0 by first | omega | decide) (show 0 + 0 ≤ 0 by first | omega | decide) (Nat.le_of_ble_eq_true rfl) (fun r324959 w324960 dc324956 ds324957 hp324958 => ?_) (fun _ _ _ _ _ z => z.elim)
                          obtain ⟨F324963, rfl, rfl, hT324964, hs324965, hdc, hds, x324961, x324962⟩ := hp324958
                          have he324966 : F324963 q269175 = .inr (18, [.ref q322205, .ref q322206, .int p322207, .int p322208]) := (hs324965 q269175 (rT0 htq269175 (by decide)) (rT1 htq269175 (by decide)) (rT2 htq269175 (by decide))).trans he324679
                          have he324967 : F324963 q322205 = .inr (4, [.int p322836, .ref q322838, .int p322837]) := (hs324965 q322205 (rT0 ht322209 (by decide)) (rT1 ht322209 (by decide)) (rT2 ht322209 (by decide))).trans he324680
                          have he324968 : F324963 q322838 = .inl (I (.object "java/lang/Object"), n322852, .inr (.inr (.inr (.inr f322853)))) := (hs324965 q322838 (rT0 r322844 (by decide)) (rT1 r322844 (by decide)) (rT2 r322844 (by decide))).trans he324681
                          have he324969 : F324963 q322855 = .inr (17, [.ref q322864, .ref q322865, .int p322866, .int p322867]) := (hs324965 q322855 (rT0 ht322860 (by decide)) (rT1 ht322860 (by decide)) (rT2 ht322860 (by decide))).trans he324682
                          have he324970 : F324963 q322864 = .inr (4, [.int p324626, .ref q324628, .int p324627]) := (hs324965 q322864 (rT0 ht322868 (by decide)) (rT1 ht322868 (by decide)) (rT2 ht322868 (by decide))).trans he324683
                          have he324971 : F324963 q324628 = .inl (I (.object "java/lang/Object"), n324642, .inr (.inr (.inr (.inr f324643)))) := (hs324965 q324628 (rT0 r324634 (by decide)) (rT1 r324634 (by decide)) (rT2 r324634 (by decide))).trans he324684
                          have he324972 : F324963 q324645 = .inr (20, [.int p324658, .int p324659, .int p324660, .int p324661, .int p324662, .int p324663, .int p324664]) := (hs324965 q324645 (rT0 ht324648 (by decide)) (rT1 ht324648 (by decide)) (rT2 ht324648 (by decide))).trans he324685
                          have hs324973 : rStr γ [] F269173 F324963 := rStr_tr hs324686 hs324965
                          have kp324974 : F324963 q269174 = F269173 q269174 := (x324961).trans kp324687
                          have kp324975 : F324963 (γ 9 3) = F324676 (γ 9 3) := x324962
                          have he324976 : F324963 q269174 = .inr (22, [.ref (γ 9 0), .ref (γ 9 1), .ref (γ 9 2), .ref (γ 9 3), .ref (γ 9 4), .ref (γ 9 5), .ref (γ 9 6), .ref (γ 9 7), .ref (γ 9 8), .int p269183, .int p269184, .int p269185, .int p269186, .int p269187, .int p269188, .ref (γ 9 15), .ref (γ 9 16), .ref (γ 9 17), .ref (γ 9 18), .ref (γ 9 19), .ref (γ 9 20), .ref (γ 9 21), .ref (γ 9 22), .int p269189, .int p269190, .int p269191, .int p269192, .int p269193, .ref q269181, .ref (γ 9 29), .int p269194, .ref (γ 9 31), .int p269195, .int p269196, .int p269197, .ref q269182]) := (x324961).trans he324688
                          change G _ _ _ _ _ _ _ _ _ _ _
                          refine G_widen (cs' := 0) (sl' := 0) (by omega) (by omega) ?_
                          obtain ⟨z324977, hz324977⟩ : ∃ z : Int32, z = g324602 + Int32.ofInt (-1) := ⟨_, rfl⟩
                          have ez324977 : z324977.toInt = g324602.toInt + (-1) := gI_inc hz324977 (by decide) bg324602' (by decide) (by decide)
                          have bz324977 : gB z324977 (-1) 999998 := ⟨by omega, by omega⟩
                          refine G_iinc (L' := [(5, .int z324977), (8, .int (-1)), (7, .int o324698), (6, .ref q324645), (4, .ref q322855), (3, .int g322192), (0, .ref q269174), (1, .ref q269175), (2, .int p269176)]) z324977 3 dr_cX17_graph_284 rfl hz324977.symm (Nat.le_of_ble_eq_true rfl) rfl ?_
                          refine G_goto 109 dr_cX17_graph_287 (by decide +kernel) ?_
                          refine G_lv (L' := [(5, .int z324977), (4, .ref q322855), (3, .int g322192), (0, .ref q269174), (1, .ref q269175), (2, .int p269176)]) [0, 4, 5, 6, 7, 8] rfl ?_
                          exact ih109_324608 F324963 z324977 (gB_w bz324977 (by decide) (by decide)) hT324964 hs324973 (by omega) (fun h0 => by have z := gr324692 h0; rw [← kp324975] at z; rw [show ((g324602.toInt : Int).toNat : Nat) = (z324977.toInt + 1 : Int).toNat by omega] at z; exact z) kp324974 (mz_dn ez324977 (Int.le_trans (by decide) bg324602'.1) hm109_324608)
                        · have r324978 : 0 ≤ o324698.toInt := gj_nlt hc324954 (show Int32.toInt 0 = 0 by decide)
                          have bo324698' : gB o324698 0 1999 := ⟨by omega, by omega⟩
                          refine G_iload 0 dr_cX17_graph_180 rfl ?_
                          refine G_if_lt 204 dr_cX17_graph_182 (by decide +kernel) (fun _ => ?_) (fun hc => absurd hc (by decide))
                          refine G_iconst 0 dr_cX17_graph_204 (by decide +kernel) ?_
                          refine G_istore (L' := [(9, .int 0), (8, .int (-1)), (7, .int o324698), (6, .ref q324645), (5, .int g324602), (4, .ref q322855), (3, .int g322192), (0, .ref q269174), (1, .ref q269175), (2, .int p269176)]) dr_cX17_graph_205 (Nat.le_of_ble_eq_true rfl) rfl ?_
                          refine G_iconst 0 dr_cX17_graph_207 (by decide +kernel) ?_
                          refine G_istore (L' := [(10, .int 0), (9, .int 0), (8, .int (-1)), (7, .int o324698), (6, .ref q324645), (5, .int g324602), (4, .ref q322855), (3, .int g322192), (0, .ref q269174), (1, .ref q269175), (2, .int p269176)]) dr_cX17_graph_208 (Nat.le_of_ble_eq_true rfl) rfl ?_
                          have hlp210_325095 : ∀ (n210_325095 : Nat) (F325091 : Nat → va_E) (g325090 : Int32), gB g325090 0 32 → RS D I P269172 F325091 γ el → rStr γ [] F269173 F325091 → (gIp (p269176.toInt = 0) (rGr γ el F269173 q269175 (γ 6 (γ 1 q269175)) (cB (F325091 (γ 9 3))) (vB (g322192.toInt : Int).toNat (g324602.toInt : Int).toNat))) → (F325091 q269174 = F269173 q269174) → ((33 : Int) - g325090.toInt).toNat < n210_325095 → G (gV D I) l (gRm 5 111 0 0) (gMA (gV D I) (pt_269178_SpillForgeModel_graph D I γ el P269172 F269173 q269174 q269175 p269176) gNA 0 0) ky_269178_SpillForgeModel_graph 210 [(10, .int g325090), (9, .int 0), (8, .int (-1)), (7, .int o324698), (6, .ref q324645), (5, .int g324602), (4, .ref q322855), (3, .int g322192), (0, .ref q269174), (1, .ref q269175), (2, .int p269176)] [] (va_pl P269172 F325091) 0 0 := by
                            intro n210_325095
                            induction n210_325095 with
                            | zero => intro F325091 g325090 bg325090 hT325092 hs325093 x325094 x325095 hm210_325095; exact absurd hm210_325095 (Nat.not_lt_zero _)
                            | succ n210_325095 ih210_325095 =>
                              intro F325091 g325090 bg325090 hT325092 hs325093 x325094 x325095 hm210_325095
                              have hs325097 : rStr γ [] F324676 F325091 := fun b h0 hb hw => (hs325093 b h0 hb hw).trans (hs324686 b h0 hb hw).symm
                              have he325098 : F325091 q269175 = .inr (18, [.ref q322205, .ref q322206, .int p322207, .int p322208]) := (hs325097 q269175 (rT0 htq269175 (by decide)) (rT1 htq269175 (by decide)) (rT2 htq269175 (by decide))).trans he324679
                              have he325099 : F325091 q322205 = .inr (4, [.int p322836, .ref q322838, .int p322837]) := (hs325097 q322205 (rT0 ht322209 (by decide)) (rT1 ht322209 (by decide)) (rT2 ht322209 (by decide))).trans he324680
                              have he325100 : F325091 q322838 = .inl (I (.object "java/lang/Object"), n322852, .inr (.inr (.inr (.inr f322853)))) := (hs325097 q322838 (rT0 r322844 (by decide)) (rT1 r322844 (by decide)) (rT2 r322844 (by decide))).trans he324681
                              have he325101 : F325091 q322855 = .inr (17, [.ref q322864, .ref q322865, .int p322866, .int p322867]) := (hs325097 q322855 (rT0 ht322860 (by decide)) (rT1 ht322860 (by decide)) (rT2 ht322860 (by decide))).trans he324682
                              have he325102 : F325091 q322864 = .inr (4, [.int p324626, .ref q324628, .int p324627]) := (hs325097 q322864 (rT0 ht322868 (by decide)) (rT1 ht322868 (by decide)) (rT2 ht322868 (by decide))).trans he324683
                              have he325103 : F325091 q324628 = .inl (I (.object "java/lang/Object"), n324642, .inr (.inr (.inr (.inr f324643)))) := (hs325097 q324628 (rT0 r324634 (by decide)) (rT1 r324634 (by decide)) (rT2 r324634 (by decide))).trans he324684
                              have he325104 : F325091 q324645 = .inr (20, [.int p324658, .int p324659, .int p324660, .int p324661, .int p324662, .int p324663, .int p324664]) := (hs325097 q324645 (rT0 ht324648 (by decide)) (rT1 ht324648 (by decide)) (rT2 ht324648 (by decide))).trans he324685
                              have hs325105 : rStr γ [] F269173 F325091 := rStr_tr hs324686 hs325097
                              have he325106 : F325091 q269174 = .inr (22, [.ref (γ 9 0), .ref (γ 9 1), .ref (γ 9 2), .ref (γ 9 3), .ref (γ 9 4), .ref (γ 9 5), .ref (γ 9 6), .ref (γ 9 7), .ref (γ 9 8), .int p269183, .int p269184, .int p269185, .int p269186, .int p269187, .int p269188, .ref (γ 9 15), .ref (γ 9 16), .ref (γ 9 17), .ref (γ 9 18), .ref (γ 9 19), .ref (γ 9 20), .ref (γ 9 21), .ref (γ 9 22), .int p269189, .int p269190, .int p269191, .int p269192, .int p269193, .ref q269181, .ref (γ 9 29), .int p269194, .ref (γ 9 31), .int p269195, .int p269196, .int p269197, .ref q269182]) := x325095.trans he269180
                              have hm325107 : q269174 ∈ P269172 := RS_m hT325092 htq269174 (by decide)
                              refine G_iload 0 dr_cX17_graph_210 rfl ?_
                              refine G_bipush 32 dr_cX17_graph_212 (by decide +kernel) ?_
                              refine G_icmp_ge 243 dr_cX17_graph_214 (by decide +kernel) (fun hc325108 => ?_) (fun hc325108 => ?_)
                              · have r325109 : 32 ≤ g325090.toInt := gj_leL hc325108 (show Int32.toInt 32 = 32 by decide)
                                have bg325090' : gB g325090 32 32 := ⟨by omega, by omega⟩
                                refine G_iload 2 dr_cX17_graph_243 rfl ?_
                                refine G_if_lt 265 dr_cX17_graph_245 (by decide +kernel) (fun _ => ?_) (fun hc => absurd hc (by decide))
                                refine G_aload_n 8 dr_cX17_graph_265 rfl ?_
                                refine Gp_get 1 hm325107 he325106 dr_cX17_graph_266 (gk_X17 D I) (Nat.le_of_ble_eq_true rfl) wr_7_75 rfl ?_
                                refine G_iload 3 dr_cX17_graph_269 rfl ?_
                                have hm325110 : (γ 9 1) ∈ P269172 := RS_m hT325092 ht269201 (by decide)
                                obtain ⟨f325112, he325111, hg325113⟩ := show rk_13 I γ (F325091 (γ 9 1)) from RS_o hT325092 ht269201
                                obtain ⟨q325114, hx325116⟩ : ∃ x, x = γ 11 o324698.toInt.toNat := ⟨_, rfl⟩
                                have ht325115 : rKd γ q325114 36 := by rw [hx325116]; exact (hg325113 _ (show o324698.toInt.toNat < 2000 by omega)).2.1
                                refine Gp_aald 5 hm325110 he325111 dr_cX17_graph_271 rfl rfl (gB_in bo324698' (by decide) (by decide)) ?_
                                rw [show f325112 o324698.toNatClampNeg = some q325114 from (hg325113 _ (show o324698.toInt.toNat < 2000 by omega)).1.trans (by rw [hx325116])]
                                change G _ _ _ _ _ _ _ (.ref q325114 :: _) _ _ _
                                refine G_iload 3 dr_cX17_graph_272 rfl ?_
                                have hm325117 : q325114 ∈ P269172 := RS_m hT325092 ht325115 (by decide)
                                obtain ⟨f325119, he325118, wf325119⟩ := show rk_36 I (F325091 q325114) from RS_o hT325092 ht325115
                                refine Gw_callS (As := [.ref q325114, .int o324698]) (gV_ok D I) (cp_1873_SpillForgeModel_clear l hl0 D I P269172 F325091 q325114 o324698 f325119 hm325117 he325118 bo324698' wf325119) dr_cX17_graph_274 ⟨wr_10_185, wr_1_14, wr_10_187, by decide, rfl, (Nat.le_of_ble_eq_true rfl), (Nat.le_of_ble_eq_true rfl)⟩ wr_10_186 (show 0 + 0 ≤ 0 by first | omega | decide) (show 0 + 0 ≤ 0 by first | omega | decide) (Nat.le_of_ble_eq_true rfl) (fun r325123 w325124 dc325120 ds325121 hp325122 => ?_) (fun _ _ _ _ _ z => z.elim)
                                obtain ⟨F325127, f325125, rfl, rfl, hfr325129, he325130, hdc, hds, x325126⟩ := hp325122
                                have he325131 : F325127 q269175 = .inr (18, [.ref q322205, .ref q322206, .int p322207, .int p322208]) := (hfr325129 q269175 hm322203 (nm_c (rn_oa he325098 he325118) nm_n)).trans he325098
                                have he325132 : F325127 q322205 = .inr (4, [.int p322836, .ref q322838, .int p322837]) := (hfr325129 q322205 hm322834 (nm_c (rn_oa he325099 he325118) nm_n)).trans he325099
                                have he325133 : F325127 q322838 = .inl (I (.object "java/lang/Object"), n322852, .inr (.inr (.inr (.inr f322853)))) := (hfr325129 q322838 hm322854 (nm_c (rn_ref_long he325100 he325118) nm_n)).trans he325100
                                have he325134 : F325127 q322855 = .inr (17, [.ref q322864, .ref q322865, .int p322866, .int p322867]) := (hfr325129 q322855 hm322862 (nm_c (rn_oa he325101 he325118) nm_n)).trans he325101
                                have he325135 : F325127 q322864 = .inr (4, [.int p324626, .ref q324628, .int p324627]) := (hfr325129 q322864 hm324624 (nm_c (rn_oa he325102 he325118) nm_n)).trans he325102
                                have he325136 : F325127 q324628 = .inl (I (.object "java/lang/Object"), n324642, .inr (.inr (.inr (.inr f324643)))) := (hfr325129 q324628 hm324644 (nm_c (rn_ref_long he325103 he325118) nm_n)).trans he325103
                                have he325137 : F325127 q324645 = .inr (20, [.int p324658, .int p324659, .int p324660, .int p324661, .int p324662, .int p324663, .int p324664]) := (hfr325129 q324645 hm324656 (nm_c (rn_oa he325104 he325118) nm_n)).trans he325104
                                have he325138 : F325127 q269174 = .inr (22, [.ref (γ 9 0), .ref (γ 9 1), .ref (γ 9 2), .ref (γ 9 3), .ref (γ 9 4), .ref (γ 9 5), .ref (γ 9 6), .ref (γ 9 7), .ref (γ 9 8), .int p269183, .int p269184, .int p269185, .int p269186, .int p269187, .int p269188, .ref (γ 9 15), .ref (γ 9 16), .ref (γ 9 17), .ref (γ 9 18), .ref (γ 9 19), .ref (γ 9 20), .ref (γ 9 21), .ref (γ 9 22), .int p269189, .int p269190, .int p269191, .int p269192, .int p269193, .ref q269181, .ref (γ 9 29), .int p269194, .ref (γ 9 31), .int p269195, .int p269196, .int p269197, .ref q269182]) := (hfr325129 q269174 hm325107 (nm_c (rn_oa he325106 he325118) nm_n)).trans he325106
                                have he325139 : F325127 (γ 9 1) = .inl (I (.array .long), 2000, .inr (.inr (.inr (.inr f325112)))) := (hfr325129 (γ 9 1) hm325110 (nm_c (rn_ref_long he325111 he325118) nm_n)).trans he325111
                                have hfr325140 : rFr [q325114] P269172 F325091 F325127 := rFr_call (rSub_rf (P := P269172)) (rFr_rf (W := []) (P := P269172) (F := F325091)) hfr325129 (fun b hb hn => ⟨nm_n, (nm_c (fun e => hn (e ▸ List.mem_cons_self)) nm_n)⟩)
                                change G _ _ _ _ _ _ _ _ _ _ _
                                refine G_widen (cs' := 0) (sl' := 0) (by omega) (by omega) ?_
                                have hT325141 : RS D I P269172 F325127 γ el := RS_fr hT325092 hfr325140 ht325115 (by decide) ⟨f325125, he325130, x325126⟩
                                have hs325142 : rStr γ [] F269173 F325127 := rStr_fr hT325092 hs325093 hfr325140 ht325115 (by decide)
                                have kp325143 : F325127 q269174 = F269173 q269174 := (hfr325140 q269174 (RS_m hT325092 htq269174 (by decide)) (nm_c (rn_ty htq269174 ht325115 (by decide)) nm_n)).trans x325095
                                have kp325144 : F325127 (γ 9 3) = F325091 (γ 9 3) := hfr325140 (γ 9 3) (RS_m hT325092 ht269203 (by decide)) (nm_c (rn_ty ht269203 ht325115 (by decide)) nm_n)
                                refine G_aload_n 8 dr_cX17_graph_277 rfl ?_
                                refine G_aload 4 dr_cX17_graph_278 rfl ?_
                                refine G_iload_n 10 dr_cX17_graph_280 rfl ?_
                                refine Gw_callV (As := [.ref q324645, .int p269176]) (gV_ok D I) (ct_275878_SpillForgeModel_back l hl0 D I γ el P269172 F325127 q269174 q324645 p269176 hT325141 htq269174 ht324648 (gB_w bp269176' (by decide) (by decide))) dr_cX17_graph_281 ⟨wr_10_174, wr_1_14, wr_10_177, by decide, rfl, (Nat.le_of_ble_eq_true rfl), (Nat.le_of_ble_eq_true rfl)⟩ wr_10_176 wr_p_96 hm325107 he325138 rfl (show 0 + 0 ≤ 0 by first | omega | decide) (show 0 + 0 ≤ 0 by first | omega | decide) (Nat.le_of_ble_eq_true rfl) (fun r325148 w325149 dc325145 ds325146 hp325147 => ?_) (fun _ _ _ _ _ z => z.elim)
                                obtain ⟨F325152, rfl, rfl, hT325153, hs325154, hdc, hds, x325150, x325151⟩ := hp325147
                                have he325155 : F325152 q269175 = .inr (18, [.ref q322205, .ref q322206, .int p322207, .int p322208]) := (hs325154 q269175 (rT0 htq269175 (by decide)) (rT1 htq269175 (by decide)) (rT2 htq269175 (by decide))).trans he325131
                                have he325156 : F325152 q322205 = .inr (4, [.int p322836, .ref q322838, .int p322837]) := (hs325154 q322205 (rT0 ht322209 (by decide)) (rT1 ht322209 (by decide)) (rT2 ht322209 (by decide))).trans he325132
                                have he325157 : F325152 q322838 = .inl (I (.object "java/lang/Object"), n322852, .inr (.inr (.inr (.inr f322853)))) := (hs325154 q322838 (rT0 r322844 (by decide)) (rT1 r322844 (by decide)) (rT2 r322844 (by decide))).trans he325133
                                have he325158 : F325152 q322855 = .inr (17, [.ref q322864, .ref q322865, .int p322866, .int p322867]) := (hs325154 q322855 (rT0 ht322860 (by decide)) (rT1 ht322860 (by decide)) (rT2 ht322860 (by decide))).trans he325134
                                have he325159 : F325152 q322864 = .inr (4, [.int p324626, .ref q324628, .int p324627]) := (hs325154 q322864 (rT0 ht322868 (by decide)) (rT1 ht322868 (by decide)) (rT2 ht322868 (by decide))).trans he325135
                                have he325160 : F325152 q324628 = .inl (I (.object "java/lang/Object"), n324642, .inr (.inr (.inr (.inr f324643)))) := (hs325154 q324628 (rT0 r324634 (by decide)) (rT1 r324634 (by decide)) (rT2 r324634 (by decide))).trans he325136
                                have he325161 : F325152 q324645 = .inr (20, [.int p324658, .int p324659, .int p324660, .int p324661, .int p324662, .int p324663, .int p324664]) := (hs325154 q324645 (rT0 ht324648 (by decide)) (rT1 ht324648 (by decide)) (rT2 ht324648 (by decide))).trans he325137
                                have hs325162 : rStr γ [] F269173 F325152 := rStr_tr hs325142 hs325154
                                have kp325163 : F325152 q269174 = F269173 q269174 := (x325150).trans kp325143
                                have kp325164 : F325152 (γ 9 3) = F325091 (γ 9 3) := (x325151).trans kp325144
                                have he325165 : F325152 q269174 = .inr (22, [.ref (γ 9 0), .ref (γ 9 1), .ref (γ 9 2), .ref (γ 9 3), .ref (γ 9 4), .ref (γ 9 5), .ref (γ 9 6), .ref (γ 9 7), .ref (γ 9 8), .int p269183, .int p269184, .int p269185, .int p269186, .int p269187, .int p269188, .ref (γ 9 15), .ref (γ 9 16), .ref (γ 9 17), .ref (γ 9 18), .ref (γ 9 19), .ref (γ 9 20), .ref (γ 9 21), .ref (γ 9 22), .int p269189, .int p269190, .int p269191, .int p269192, .int p269193, .ref q269181, .ref (γ 9 29), .int p269194, .ref (γ 9 31), .int p269195, .int p269196, .int p269197, .ref q269182]) := (x325150).trans he325138
                                change G _ _ _ _ _ _ _ _ _ _ _
                                refine G_widen (cs' := 0) (sl' := 0) (by omega) (by omega) ?_
                                obtain ⟨z325166, hz325166⟩ : ∃ z : Int32, z = g324602 + Int32.ofInt (-1) := ⟨_, rfl⟩
                                have ez325166 : z325166.toInt = g324602.toInt + (-1) := gI_inc hz325166 (by decide) bg324602' (by decide) (by decide)
                                have bz325166 : gB z325166 (-1) 999998 := ⟨by omega, by omega⟩
                                refine G_iinc (L' := [(5, .int z325166), (10, .int g325090), (9, .int 0), (8, .int (-1)), (7, .int o324698), (6, .ref q324645), (4, .ref q322855), (3, .int g322192), (0, .ref q269174), (1, .ref q269175), (2, .int p269176)]) z325166 5 dr_cX17_graph_284 rfl hz325166.symm (Nat.le_of_ble_eq_true rfl) rfl ?_
                                refine G_goto 109 dr_cX17_graph_287 (by decide +kernel) ?_
                                refine G_lv (L' := [(5, .int z325166), (4, .ref q322855), (3, .int g322192), (0, .ref q269174), (1, .ref q269175), (2, .int p269176)]) [0, 6, 7, 8, 9, 10] rfl ?_
                                exact ih109_324608 F325152 z325166 (gB_w bz325166 (by decide) (by decide)) hT325153 hs325162 (by omega) (fun h0 => by have z := x325094 h0; rw [← kp325164] at z; rw [show ((g324602.toInt : Int).toNat : Nat) = (z325166.toInt + 1 : Int).toNat by omega] at z; exact z) kp325163 (mz_dn ez325166 (Int.le_trans (by decide) bg324602'.1) hm109_324608)
                              · have r325167 : g325090.toInt < 32 := gj_nleL hc325108 (show Int32.toInt 32 = 32 by decide)
                                have bg325090' : gB g325090 0 31 := ⟨by omega, by omega⟩
                                refine G_aload_n 8 dr_cX17_graph_217 rfl ?_
                                refine Gp_get 1 hm325107 he325106 dr_cX17_graph_218 (gk_X17 D I) (Nat.le_of_ble_eq_true rfl) wr_7_75 rfl ?_
                                refine G_iload 3 dr_cX17_graph_221 rfl ?_
                                have hm325168 : (γ 9 1) ∈ P269172 := RS_m hT325092 ht269201 (by decide)
                                obtain ⟨f325170, he325169, hg325171⟩ := show rk_13 I γ (F325091 (γ 9 1)) from RS_o hT325092 ht269201
                                obtain ⟨q325172, hx325174⟩ : ∃ x, x = γ 11 o324698.toInt.toNat := ⟨_, rfl⟩
                                have ht325173 : rKd γ q325172 36 := by rw [hx325174]; exact (hg325171 _ (show o324698.toInt.toNat < 2000 by omega)).2.1
                                refine Gp_aald 5 hm325168 he325169 dr_cX17_graph_223 rfl rfl (gB_in bo324698' (by decide) (by decide)) ?_
                                rw [show f325170 o324698.toNatClampNeg = some q325172 from (hg325171 _ (show o324698.toInt.toNat < 2000 by omega)).1.trans (by rw [hx325174])]
                                change G _ _ _ _ _ _ _ (.ref q325172 :: _) _ _ _
                                refine G_iload 0 dr_cX17_graph_224 rfl ?_
                                refine G_dup2_11 dr_cX17_graph_226 rfl rfl ?_
                                have hm325175 : q325172 ∈ P269172 := RS_m hT325092 ht325173 (by decide)
                                obtain ⟨f325177, he325176, wf325177⟩ := show rk_36 I (F325091 q325172) from RS_o hT325092 ht325173
                                refine Gp_lald 2 hm325175 he325176 dr_cX17_graph_227 rfl (gB_in bg325090' (by decide) (by decide)) (G_namL fun u325178 hu325178 => ?_)
                                have qu325178 : lb_Q u325178 (2000 - 64 * g325090.toInt) := lb_Wld hu325178 wf325177 (by omega) (by omega) (lb_Mod0 (by omega) (by omega))
                                refine G_aload_n 8 dr_cX17_graph_228 rfl ?_
                                refine Gp_get 2 hm325107 he325106 dr_cX17_graph_229 (gk_X17 D I) (Nat.le_of_ble_eq_true rfl) wr_7_76 rfl ?_
                                refine G_iload 0 dr_cX17_graph_232 rfl ?_
                                have hm325179 : (γ 9 2) ∈ P269172 := RS_m hT325092 ht269202 (by decide)
                                obtain ⟨f325181, he325180, wf325181⟩ := show rk_35 I (F325091 (γ 9 2)) from RS_o hT325092 ht269202
                                refine Gp_lald 2 hm325179 he325180 dr_cX17_graph_234 rfl (gB_in bg325090' (by decide) (by decide)) (G_namL fun u325182 hu325182 => ?_)
                                have qu325182 : lb_Q u325182 (2000 - 64 * g325090.toInt) := lb_Wld hu325182 wf325181 (by omega) (by omega) (lb_Mod0 (by omega) (by omega))
                                refine G_lor dr_cX17_graph_235 (G_namL fun u325183 hu325183 => ?_)
                                have qu325183 : lb_Q u325183 (2000 - 64 * g325090.toInt) := lb_Qor hu325183 qu325178 qu325182
                                refine Gp_last 2 hm325175 he325176 dr_cX17_graph_236 rfl (gB_in bg325090' (by decide) (by decide)) (fun F325184 e325185 n325186 => ?_)
                                obtain ⟨f325187, hf325187⟩ : ∃ z, z = vp_updL f325177 g325090.toNatClampNeg u325183 := ⟨_, rfl⟩
                                rw [← hf325187] at e325185
                                have he325188 : F325184 q269175 = .inr (18, [.ref q322205, .ref q322206, .int p322207, .int p322208]) := (n325186 q269175 (rn_oa he325098 he325176)).trans he325098
                                have he325189 : F325184 q322205 = .inr (4, [.int p322836, .ref q322838, .int p322837]) := (n325186 q322205 (rn_oa he325099 he325176)).trans he325099
                                have he325190 : F325184 q322838 = .inl (I (.object "java/lang/Object"), n322852, .inr (.inr (.inr (.inr f322853)))) := (n325186 q322838 (rn_ref_long he325100 he325176)).trans he325100
                                have he325191 : F325184 q322855 = .inr (17, [.ref q322864, .ref q322865, .int p322866, .int p322867]) := (n325186 q322855 (rn_oa he325101 he325176)).trans he325101
                                have he325192 : F325184 q322864 = .inr (4, [.int p324626, .ref q324628, .int p324627]) := (n325186 q322864 (rn_oa he325102 he325176)).trans he325102
                                have he325193 : F325184 q324628 = .inl (I (.object "java/lang/Object"), n324642, .inr (.inr (.inr (.inr f324643)))) := (n325186 q324628 (rn_ref_long he325103 he325176)).trans he325103
                                have he325194 : F325184 q324645 = .inr (20, [.int p324658, .int p324659, .int p324660, .int p324661, .int p324662, .int p324663, .int p324664]) := (n325186 q324645 (rn_oa he325104 he325176)).trans he325104
                                have he325195 : F325184 q269174 = .inr (22, [.ref (γ 9 0), .ref (γ 9 1), .ref (γ 9 2), .ref (γ 9 3), .ref (γ 9 4), .ref (γ 9 5), .ref (γ 9 6), .ref (γ 9 7), .ref (γ 9 8), .int p269183, .int p269184, .int p269185, .int p269186, .int p269187, .int p269188, .ref (γ 9 15), .ref (γ 9 16), .ref (γ 9 17), .ref (γ 9 18), .ref (γ 9 19), .ref (γ 9 20), .ref (γ 9 21), .ref (γ 9 22), .int p269189, .int p269190, .int p269191, .int p269192, .int p269193, .ref q269181, .ref (γ 9 29), .int p269194, .ref (γ 9 31), .int p269195, .int p269196, .int p269197, .ref q269182]) := (n325186 q269174 (rn_oa he325106 he325176)).trans he325106
                                have he325196 : F325184 (γ 9 1) = .inl (I (.array .long), 2000, .inr (.inr (.inr (.inr f325170)))) := (n325186 (γ 9 1) (rn_ref_long he325169 he325176)).trans he325169
                                have he325197 : F325184 (γ 9 2) = .inl (I .long, 32, .inr (.inl f325181)) := (n325186 (γ 9 2) (rn_ty ht269202 ht325173 (by decide))).trans he325180
                                have he325198 : F325184 q325172 = .inl (I .long, 32, .inr (.inl f325187)) := e325185
                                have hs325199 : rStr γ [] F269173 F325184 := rStr_put hs325093 n325186 ht325173 (by decide)
                                have kp325200 : F325184 q269174 = F269173 q269174 := (n325186 q269174 (rn_ty htq269174 ht325173 (by decide))).trans x325095
                                have kp325201 : F325184 (γ 9 3) = F325091 (γ 9 3) := n325186 (γ 9 3) (rn_ty ht269203 ht325173 (by decide))
                                have wf325187 : lb_W f325187 (32) (32) (2000) := lb_Wst hf325187 wf325177 (by omega) (lb_Mod0 (by omega) (by omega)) qu325183
                                obtain ⟨z325202, hz325202⟩ : ∃ z : Int32, z = g325090 + Int32.ofInt 1 := ⟨_, rfl⟩
                                have ez325202 : z325202.toInt = g325090.toInt + 1 := gI_inc hz325202 (by decide) bg325090' (by decide) (by decide)
                                have bz325202 : gB z325202 1 32 := ⟨by omega, by omega⟩
                                refine G_iinc (L' := [(10, .int z325202), (9, .int 0), (8, .int (-1)), (7, .int o324698), (6, .ref q324645), (5, .int g324602), (4, .ref q322855), (3, .int g322192), (0, .ref q269174), (1, .ref q269175), (2, .int p269176)]) z325202 0 dr_cX17_graph_237 rfl hz325202.symm (Nat.le_of_ble_eq_true rfl) rfl ?_
                                refine G_goto 210 dr_cX17_graph_240 (by decide +kernel) ?_
                                have hT325203 : RS D I P269172 F325184 γ el := RS_set hT325092 n325186 ht325173 (by decide) ⟨f325187, he325198, wf325187⟩
                                exact ih210_325095 F325184 z325202 (gB_w bz325202 (by decide) (by decide)) hT325203 hs325199 (by rw [kp325201]; exact x325094) kp325200 (mz_up ez325202 (Int.le_trans bg325090'.2 (by decide)) hm210_325095)
                          exact hlp210_325095 (((33 : Int) - 0).toNat + 1) F324676 0 (gB_w (gBl (show Int32.toInt 0 = 0 by decide)) (by decide) (by decide)) hT324677 hs324686 gr324692 kp324687 (Nat.lt_succ_self _)
                      · have r325204 : p324658.toInt = 0 := gj_eq hc324952 (show Int32.toInt 0 = 0 by decide)
                        have bp324658' : gB p324658 0 0 := ⟨by omega, by omega⟩
                        refine G_aload 1 dr_cX17_graph_156 rfl ?_
                        refine Gp_get 5 hm324656 he324685 dr_cX17_graph_158 (gk_X15 D I) (Nat.le_of_ble_eq_true rfl) wr_9_197 rfl ?_
                        refine G_if_eq 172 dr_cX17_graph_161 (by decide +kernel) (fun hc325205 => ?_) (fun hc325205 => ?_)
                        · have r325206 : p324663.toInt = 0 := gj_eq hc325205 (show Int32.toInt 0 = 0 by decide)
                          have bp324663' : gB p324663 0 0 := gB_t0 r325206
                          refine G_iconst (-1) dr_cX17_graph_172 (by decide +kernel) ?_
                          refine G_istore (L' := [(8, .int (-1)), (7, .int o324698), (6, .ref q324645), (5, .int g324602), (4, .ref q322855), (3, .int g322192), (0, .ref q269174), (1, .ref q269175), (2, .int p269176)]) dr_cX17_graph_173 (Nat.le_of_ble_eq_true rfl) rfl ?_
                          refine G_iload 1 dr_cX17_graph_175 rfl ?_
                          refine G_if_lt 277 dr_cX17_graph_177 (by decide +kernel) (fun hc325207 => ?_) (fun hc325207 => ?_)
                          · have r325208 : o324698.toInt < 0 := gj_lt hc325207 (show Int32.toInt 0 = 0 by decide)
                            have bo324698' : gB o324698 (-1) (-1) := ⟨by omega, by omega⟩
                            refine G_aload_n 6 dr_cX17_graph_277 rfl ?_
                            refine G_aload 2 dr_cX17_graph_278 rfl ?_
                            refine G_iload_n 8 dr_cX17_graph_280 rfl ?_
                            refine Gw_callV (As := [.ref q324645, .int p269176]) (gV_ok D I) (ct_275878_SpillForgeModel_back l hl0 D I γ el P269172 F324676 q269174 q324645 p269176 hT324677 htq269174 ht324648 (gB_w bp269176' (by decide) (by decide))) dr_cX17_graph_281 ⟨wr_10_174, wr_1_14, wr_10_177, by decide, rfl, (Nat.le_of_ble_eq_true rfl), (Nat.le_of_ble_eq_true rfl)⟩ wr_10_176 wr_p_96 hm324618 he324688 rfl (show 0 + 0 ≤ 0 by first | omega | decide) (show 0 + 0 ≤ 0 by first | omega | decide) (Nat.le_of_ble_eq_true rfl) (fun r325212 w325213 dc325209 ds325210 hp325211 => ?_) (fun _ _ _ _ _ z => z.elim)
                            obtain ⟨F325216, rfl, rfl, hT325217, hs325218, hdc, hds, x325214, x325215⟩ := hp325211
                            have he325219 : F325216 q269175 = .inr (18, [.ref q322205, .ref q322206, .int p322207, .int p322208]) := (hs325218 q269175 (rT0 htq269175 (by decide)) (rT1 htq269175 (by decide)) (rT2 htq269175 (by decide))).trans he324679
                            have he325220 : F325216 q322205 = .inr (4, [.int p322836, .ref q322838, .int p322837]) := (hs325218 q322205 (rT0 ht322209 (by decide)) (rT1 ht322209 (by decide)) (rT2 ht322209 (by decide))).trans he324680
                            have he325221 : F325216 q322838 = .inl (I (.object "java/lang/Object"), n322852, .inr (.inr (.inr (.inr f322853)))) := (hs325218 q322838 (rT0 r322844 (by decide)) (rT1 r322844 (by decide)) (rT2 r322844 (by decide))).trans he324681
                            have he325222 : F325216 q322855 = .inr (17, [.ref q322864, .ref q322865, .int p322866, .int p322867]) := (hs325218 q322855 (rT0 ht322860 (by decide)) (rT1 ht322860 (by decide)) (rT2 ht322860 (by decide))).trans he324682
                            have he325223 : F325216 q322864 = .inr (4, [.int p324626, .ref q324628, .int p324627]) := (hs325218 q322864 (rT0 ht322868 (by decide)) (rT1 ht322868 (by decide)) (rT2 ht322868 (by decide))).trans he324683
                            have he325224 : F325216 q324628 = .inl (I (.object "java/lang/Object"), n324642, .inr (.inr (.inr (.inr f324643)))) := (hs325218 q324628 (rT0 r324634 (by decide)) (rT1 r324634 (by decide)) (rT2 r324634 (by decide))).trans he324684
                            have he325225 : F325216 q324645 = .inr (20, [.int p324658, .int p324659, .int p324660, .int p324661, .int p324662, .int p324663, .int p324664]) := (hs325218 q324645 (rT0 ht324648 (by decide)) (rT1 ht324648 (by decide)) (rT2 ht324648 (by decide))).trans he324685
                            have hs325226 : rStr γ [] F269173 F325216 := rStr_tr hs324686 hs325218
                            have kp325227 : F325216 q269174 = F269173 q269174 := (x325214).trans kp324687
                            have kp325228 : F325216 (γ 9 3) = F324676 (γ 9 3) := x325215
                            have he325229 : F325216 q269174 = .inr (22, [.ref (γ 9 0), .ref (γ 9 1), .ref (γ 9 2), .ref (γ 9 3), .ref (γ 9 4), .ref (γ 9 5), .ref (γ 9 6), .ref (γ 9 7), .ref (γ 9 8), .int p269183, .int p269184, .int p269185, .int p269186, .int p269187, .int p269188, .ref (γ 9 15), .ref (γ 9 16), .ref (γ 9 17), .ref (γ 9 18), .ref (γ 9 19), .ref (γ 9 20), .ref (γ 9 21), .ref (γ 9 22), .int p269189, .int p269190, .int p269191, .int p269192, .int p269193, .ref q269181, .ref (γ 9 29), .int p269194, .ref (γ 9 31), .int p269195, .int p269196, .int p269197, .ref q269182]) := (x325214).trans he324688
                            change G _ _ _ _ _ _ _ _ _ _ _
                            refine G_widen (cs' := 0) (sl' := 0) (by omega) (by omega) ?_
                            obtain ⟨z325230, hz325230⟩ : ∃ z : Int32, z = g324602 + Int32.ofInt (-1) := ⟨_, rfl⟩
                            have ez325230 : z325230.toInt = g324602.toInt + (-1) := gI_inc hz325230 (by decide) bg324602' (by decide) (by decide)
                            have bz325230 : gB z325230 (-1) 999998 := ⟨by omega, by omega⟩
                            refine G_iinc (L' := [(5, .int z325230), (8, .int (-1)), (7, .int o324698), (6, .ref q324645), (4, .ref q322855), (3, .int g322192), (0, .ref q269174), (1, .ref q269175), (2, .int p269176)]) z325230 3 dr_cX17_graph_284 rfl hz325230.symm (Nat.le_of_ble_eq_true rfl) rfl ?_
                            refine G_goto 109 dr_cX17_graph_287 (by decide +kernel) ?_
                            refine G_lv (L' := [(5, .int z325230), (4, .ref q322855), (3, .int g322192), (0, .ref q269174), (1, .ref q269175), (2, .int p269176)]) [0, 4, 5, 6, 7, 8] rfl ?_
                            exact ih109_324608 F325216 z325230 (gB_w bz325230 (by decide) (by decide)) hT325217 hs325226 (by omega) (fun h0 => by have z := gr324692 h0; rw [← kp325228] at z; rw [show ((g324602.toInt : Int).toNat : Nat) = (z325230.toInt + 1 : Int).toNat by omega] at z; exact z) kp325227 (mz_dn ez325230 (Int.le_trans (by decide) bg324602'.1) hm109_324608)
                          · have r325231 : 0 ≤ o324698.toInt := gj_nlt hc325207 (show Int32.toInt 0 = 0 by decide)
                            have bo324698' : gB o324698 0 1999 := ⟨by omega, by omega⟩
                            refine G_iload 0 dr_cX17_graph_180 rfl ?_
                            refine G_if_lt 204 dr_cX17_graph_182 (by decide +kernel) (fun _ => ?_) (fun hc => absurd hc (by decide))
                            refine G_iconst 0 dr_cX17_graph_204 (by decide +kernel) ?_
                            refine G_istore (L' := [(9, .int 0), (8, .int (-1)), (7, .int o324698), (6, .ref q324645), (5, .int g324602), (4, .ref q322855), (3, .int g322192), (0, .ref q269174), (1, .ref q269175), (2, .int p269176)]) dr_cX17_graph_205 (Nat.le_of_ble_eq_true rfl) rfl ?_
                            refine G_iconst 0 dr_cX17_graph_207 (by decide +kernel) ?_
                            refine G_istore (L' := [(10, .int 0), (9, .int 0), (8, .int (-1)), (7, .int o324698), (6, .ref q324645), (5, .int g324602), (4, .ref q322855), (3, .int g322192), (0, .ref q269174), (1, .ref q269175), (2, .int p269176)]) dr_cX17_graph_208 (Nat.le_of_ble_eq_true rfl) rfl ?_
                            have hlp210_325348 : ∀ (n210_325348 : Nat) (F325344 : Nat → va_E) (g325343 : Int32), gB g325343 0 32 → RS D I P269172 F325344 γ el → rStr γ [] F269173 F325344 → (gIp (p269176.toInt = 0) (rGr γ el F269173 q269175 (γ 6 (γ 1 q269175)) (cB (F325344 (γ 9 3))) (vB (g322192.toInt : Int).toNat (g324602.toInt : Int).toNat))) → (F325344 q269174 = F269173 q269174) → ((33 : Int) - g325343.toInt).toNat < n210_325348 → G (gV D I) l (gRm 5 111 0 0) (gMA (gV D I) (pt_269178_SpillForgeModel_graph D I γ el P269172 F269173 q269174 q269175 p269176) gNA 0 0) ky_269178_SpillForgeModel_graph 210 [(10, .int g325343), (9, .int 0), (8, .int (-1)), (7, .int o324698), (6, .ref q324645), (5, .int g324602), (4, .ref q322855), (3, .int g322192), (0, .ref q269174), (1, .ref q269175), (2, .int p269176)] [] (va_pl P269172 F325344) 0 0 := by
                              intro n210_325348
                              induction n210_325348 with
                              | zero => intro F325344 g325343 bg325343 hT325345 hs325346 x325347 x325348 hm210_325348; exact absurd hm210_325348 (Nat.not_lt_zero _)
                              | succ n210_325348 ih210_325348 =>
                                intro F325344 g325343 bg325343 hT325345 hs325346 x325347 x325348 hm210_325348
                                have hs325350 : rStr γ [] F324676 F325344 := fun b h0 hb hw => (hs325346 b h0 hb hw).trans (hs324686 b h0 hb hw).symm
                                have he325351 : F325344 q269175 = .inr (18, [.ref q322205, .ref q322206, .int p322207, .int p322208]) := (hs325350 q269175 (rT0 htq269175 (by decide)) (rT1 htq269175 (by decide)) (rT2 htq269175 (by decide))).trans he324679
                                have he325352 : F325344 q322205 = .inr (4, [.int p322836, .ref q322838, .int p322837]) := (hs325350 q322205 (rT0 ht322209 (by decide)) (rT1 ht322209 (by decide)) (rT2 ht322209 (by decide))).trans he324680
                                have he325353 : F325344 q322838 = .inl (I (.object "java/lang/Object"), n322852, .inr (.inr (.inr (.inr f322853)))) := (hs325350 q322838 (rT0 r322844 (by decide)) (rT1 r322844 (by decide)) (rT2 r322844 (by decide))).trans he324681
                                have he325354 : F325344 q322855 = .inr (17, [.ref q322864, .ref q322865, .int p322866, .int p322867]) := (hs325350 q322855 (rT0 ht322860 (by decide)) (rT1 ht322860 (by decide)) (rT2 ht322860 (by decide))).trans he324682
                                have he325355 : F325344 q322864 = .inr (4, [.int p324626, .ref q324628, .int p324627]) := (hs325350 q322864 (rT0 ht322868 (by decide)) (rT1 ht322868 (by decide)) (rT2 ht322868 (by decide))).trans he324683
                                have he325356 : F325344 q324628 = .inl (I (.object "java/lang/Object"), n324642, .inr (.inr (.inr (.inr f324643)))) := (hs325350 q324628 (rT0 r324634 (by decide)) (rT1 r324634 (by decide)) (rT2 r324634 (by decide))).trans he324684
                                have he325357 : F325344 q324645 = .inr (20, [.int p324658, .int p324659, .int p324660, .int p324661, .int p324662, .int p324663, .int p324664]) := (hs325350 q324645 (rT0 ht324648 (by decide)) (rT1 ht324648 (by decide)) (rT2 ht324648 (by decide))).trans he324685
                                have hs325358 : rStr γ [] F269173 F325344 := rStr_tr hs324686 hs325350
                                have he325359 : F325344 q269174 = .inr (22, [.ref (γ 9 0), .ref (γ 9 1), .ref (γ 9 2), .ref (γ 9 3), .ref (γ 9 4), .ref (γ 9 5), .ref (γ 9 6), .ref (γ 9 7), .ref (γ 9 8), .int p269183, .int p269184, .int p269185, .int p269186, .int p269187, .int p269188, .ref (γ 9 15), .ref (γ 9 16), .ref (γ 9 17), .ref (γ 9 18), .ref (γ 9 19), .ref (γ 9 20), .ref (γ 9 21), .ref (γ 9 22), .int p269189, .int p269190, .int p269191, .int p269192, .int p269193, .ref q269181, .ref (γ 9 29), .int p269194, .ref (γ 9 31), .int p269195, .int p269196, .int p269197, .ref q269182]) := x325348.trans he269180
                                have hm325360 : q269174 ∈ P269172 := RS_m hT325345 htq269174 (by decide)
                                refine G_iload 0 dr_cX17_graph_210 rfl ?_
                                refine G_bipush 32 dr_cX17_graph_212 (by decide +kernel) ?_
                                refine G_icmp_ge 243 dr_cX17_graph_214 (by decide +kernel) (fun hc325361 => ?_) (fun hc325361 => ?_)
                                · have r325362 : 32 ≤ g325343.toInt := gj_leL hc325361 (show Int32.toInt 32 = 32 by decide)
                                  have bg325343' : gB g325343 32 32 := ⟨by omega, by omega⟩
                                  refine G_iload 2 dr_cX17_graph_243 rfl ?_
                                  refine G_if_lt 265 dr_cX17_graph_245 (by decide +kernel) (fun _ => ?_) (fun hc => absurd hc (by decide))
                                  refine G_aload_n 8 dr_cX17_graph_265 rfl ?_
                                  refine Gp_get 1 hm325360 he325359 dr_cX17_graph_266 (gk_X17 D I) (Nat.le_of_ble_eq_true rfl) wr_7_75 rfl ?_
                                  refine G_iload 3 dr_cX17_graph_269 rfl ?_
                                  have hm325363 : (γ 9 1) ∈ P269172 := RS_m hT325345 ht269201 (by decide)
                                  obtain ⟨f325365, he325364, hg325366⟩ := show rk_13 I γ (F325344 (γ 9 1)) from RS_o hT325345 ht269201
                                  obtain ⟨q325367, hx325369⟩ : ∃ x, x = γ 11 o324698.toInt.toNat := ⟨_, rfl⟩
                                  have ht325368 : rKd γ q325367 36 := by rw [hx325369]; exact (hg325366 _ (show o324698.toInt.toNat < 2000 by omega)).2.1
                                  refine Gp_aald 5 hm325363 he325364 dr_cX17_graph_271 rfl rfl (gB_in bo324698' (by decide) (by decide)) ?_
                                  rw [show f325365 o324698.toNatClampNeg = some q325367 from (hg325366 _ (show o324698.toInt.toNat < 2000 by omega)).1.trans (by rw [hx325369])]
                                  change G _ _ _ _ _ _ _ (.ref q325367 :: _) _ _ _
                                  refine G_iload 3 dr_cX17_graph_272 rfl ?_
                                  have hm325370 : q325367 ∈ P269172 := RS_m hT325345 ht325368 (by decide)
                                  obtain ⟨f325372, he325371, wf325372⟩ := show rk_36 I (F325344 q325367) from RS_o hT325345 ht325368
                                  refine Gw_callS (As := [.ref q325367, .int o324698]) (gV_ok D I) (cp_1873_SpillForgeModel_clear l hl0 D I P269172 F325344 q325367 o324698 f325372 hm325370 he325371 bo324698' wf325372) dr_cX17_graph_274 ⟨wr_10_185, wr_1_14, wr_10_187, by decide, rfl, (Nat.le_of_ble_eq_true rfl), (Nat.le_of_ble_eq_true rfl)⟩ wr_10_186 (show 0 + 0 ≤ 0 by first | omega | decide) (show 0 + 0 ≤ 0 by first | omega | decide) (Nat.le_of_ble_eq_true rfl) (fun r325376 w325377 dc325373 ds325374 hp325375 => ?_) (fun _ _ _ _ _ z => z.elim)
                                  obtain ⟨F325380, f325378, rfl, rfl, hfr325382, he325383, hdc, hds, x325379⟩ := hp325375
                                  have he325384 : F325380 q269175 = .inr (18, [.ref q322205, .ref q322206, .int p322207, .int p322208]) := (hfr325382 q269175 hm322203 (nm_c (rn_oa he325351 he325371) nm_n)).trans he325351
                                  have he325385 : F325380 q322205 = .inr (4, [.int p322836, .ref q322838, .int p322837]) := (hfr325382 q322205 hm322834 (nm_c (rn_oa he325352 he325371) nm_n)).trans he325352
                                  have he325386 : F325380 q322838 = .inl (I (.object "java/lang/Object"), n322852, .inr (.inr (.inr (.inr f322853)))) := (hfr325382 q322838 hm322854 (nm_c (rn_ref_long he325353 he325371) nm_n)).trans he325353
                                  have he325387 : F325380 q322855 = .inr (17, [.ref q322864, .ref q322865, .int p322866, .int p322867]) := (hfr325382 q322855 hm322862 (nm_c (rn_oa he325354 he325371) nm_n)).trans he325354
                                  have he325388 : F325380 q322864 = .inr (4, [.int p324626, .ref q324628, .int p324627]) := (hfr325382 q322864 hm324624 (nm_c (rn_oa he325355 he325371) nm_n)).trans he325355
                                  have he325389 : F325380 q324628 = .inl (I (.object "java/lang/Object"), n324642, .inr (.inr (.inr (.inr f324643)))) := (hfr325382 q324628 hm324644 (nm_c (rn_ref_long he325356 he325371) nm_n)).trans he325356
                                  have he325390 : F325380 q324645 = .inr (20, [.int p324658, .int p324659, .int p324660, .int p324661, .int p324662, .int p324663, .int p324664]) := (hfr325382 q324645 hm324656 (nm_c (rn_oa he325357 he325371) nm_n)).trans he325357
                                  have he325391 : F325380 q269174 = .inr (22, [.ref (γ 9 0), .ref (γ 9 1), .ref (γ 9 2), .ref (γ 9 3), .ref (γ 9 4), .ref (γ 9 5), .ref (γ 9 6), .ref (γ 9 7), .ref (γ 9 8), .int p269183, .int p269184, .int p269185, .int p269186, .int p269187, .int p269188, .ref (γ 9 15), .ref (γ 9 16), .ref (γ 9 17), .ref (γ 9 18), .ref (γ 9 19), .ref (γ 9 20), .ref (γ 9 21), .ref (γ 9 22), .int p269189, .int p269190, .int p269191, .int p269192, .int p269193, .ref q269181, .ref (γ 9 29), .int p269194, .ref (γ 9 31), .int p269195, .int p269196, .int p269197, .ref q269182]) := (hfr325382 q269174 hm325360 (nm_c (rn_oa he325359 he325371) nm_n)).trans he325359
                                  have he325392 : F325380 (γ 9 1) = .inl (I (.array .long), 2000, .inr (.inr (.inr (.inr f325365)))) := (hfr325382 (γ 9 1) hm325363 (nm_c (rn_ref_long he325364 he325371) nm_n)).trans he325364
                                  have hfr325393 : rFr [q325367] P269172 F325344 F325380 := rFr_call (rSub_rf (P := P269172)) (rFr_rf (W := []) (P := P269172) (F := F325344)) hfr325382 (fun b hb hn => ⟨nm_n, (nm_c (fun e => hn (e ▸ List.mem_cons_self)) nm_n)⟩)
                                  change G _ _ _ _ _ _ _ _ _ _ _
                                  refine G_widen (cs' := 0) (sl' := 0) (by omega) (by omega) ?_
                                  have hT325394 : RS D I P269172 F325380 γ el := RS_fr hT325345 hfr325393 ht325368 (by decide) ⟨f325378, he325383, x325379⟩
                                  have hs325395 : rStr γ [] F269173 F325380 := rStr_fr hT325345 hs325346 hfr325393 ht325368 (by decide)
                                  have kp325396 : F325380 q269174 = F269173 q269174 := (hfr325393 q269174 (RS_m hT325345 htq269174 (by decide)) (nm_c (rn_ty htq269174 ht325368 (by decide)) nm_n)).trans x325348
                                  have kp325397 : F325380 (γ 9 3) = F325344 (γ 9 3) := hfr325393 (γ 9 3) (RS_m hT325345 ht269203 (by decide)) (nm_c (rn_ty ht269203 ht325368 (by decide)) nm_n)
                                  refine G_aload_n 8 dr_cX17_graph_277 rfl ?_
                                  refine G_aload 4 dr_cX17_graph_278 rfl ?_
                                  refine G_iload_n 10 dr_cX17_graph_280 rfl ?_
                                  refine Gw_callV (As := [.ref q324645, .int p269176]) (gV_ok D I) (ct_275878_SpillForgeModel_back l hl0 D I γ el P269172 F325380 q269174 q324645 p269176 hT325394 htq269174 ht324648 (gB_w bp269176' (by decide) (by decide))) dr_cX17_graph_281 ⟨wr_10_174, wr_1_14, wr_10_177, by decide, rfl, (Nat.le_of_ble_eq_true rfl), (Nat.le_of_ble_eq_true rfl)⟩ wr_10_176 wr_p_96 hm325360 he325391 rfl (show 0 + 0 ≤ 0 by first | omega | decide) (show 0 + 0 ≤ 0 by first | omega | decide) (Nat.le_of_ble_eq_true rfl) (fun r325401 w325402 dc325398 ds325399 hp325400 => ?_) (fun _ _ _ _ _ z => z.elim)
                                  obtain ⟨F325405, rfl, rfl, hT325406, hs325407, hdc, hds, x325403, x325404⟩ := hp325400
                                  have he325408 : F325405 q269175 = .inr (18, [.ref q322205, .ref q322206, .int p322207, .int p322208]) := (hs325407 q269175 (rT0 htq269175 (by decide)) (rT1 htq269175 (by decide)) (rT2 htq269175 (by decide))).trans he325384
                                  have he325409 : F325405 q322205 = .inr (4, [.int p322836, .ref q322838, .int p322837]) := (hs325407 q322205 (rT0 ht322209 (by decide)) (rT1 ht322209 (by decide)) (rT2 ht322209 (by decide))).trans he325385
                                  have he325410 : F325405 q322838 = .inl (I (.object "java/lang/Object"), n322852, .inr (.inr (.inr (.inr f322853)))) := (hs325407 q322838 (rT0 r322844 (by decide)) (rT1 r322844 (by decide)) (rT2 r322844 (by decide))).trans he325386
                                  have he325411 : F325405 q322855 = .inr (17, [.ref q322864, .ref q322865, .int p322866, .int p322867]) := (hs325407 q322855 (rT0 ht322860 (by decide)) (rT1 ht322860 (by decide)) (rT2 ht322860 (by decide))).trans he325387
                                  have he325412 : F325405 q322864 = .inr (4, [.int p324626, .ref q324628, .int p324627]) := (hs325407 q322864 (rT0 ht322868 (by decide)) (rT1 ht322868 (by decide)) (rT2 ht322868 (by decide))).trans he325388
                                  have he325413 : F325405 q324628 = .inl (I (.object "java/lang/Object"), n324642, .inr (.inr (.inr (.inr f324643)))) := (hs325407 q324628 (rT0 r324634 (by decide)) (rT1 r324634 (by decide)) (rT2 r324634 (by decide))).trans he325389
                                  have he325414 : F325405 q324645 = .inr (20, [.int p324658, .int p324659, .int p324660, .int p324661, .int p324662, .int p324663, .int p324664]) := (hs325407 q324645 (rT0 ht324648 (by decide)) (rT1 ht324648 (by decide)) (rT2 ht324648 (by decide))).trans he325390
                                  have hs325415 : rStr γ [] F269173 F325405 := rStr_tr hs325395 hs325407
                                  have kp325416 : F325405 q269174 = F269173 q269174 := (x325403).trans kp325396
                                  have kp325417 : F325405 (γ 9 3) = F325344 (γ 9 3) := (x325404).trans kp325397
                                  have he325418 : F325405 q269174 = .inr (22, [.ref (γ 9 0), .ref (γ 9 1), .ref (γ 9 2), .ref (γ 9 3), .ref (γ 9 4), .ref (γ 9 5), .ref (γ 9 6), .ref (γ 9 7), .ref (γ 9 8), .int p269183, .int p269184, .int p269185, .int p269186, .int p269187, .int p269188, .ref (γ 9 15), .ref (γ 9 16), .ref (γ 9 17), .ref (γ 9 18), .ref (γ 9 19), .ref (γ 9 20), .ref (γ 9 21), .ref (γ 9 22), .int p269189, .int p269190, .int p269191, .int p269192, .int p269193, .ref q269181, .ref (γ 9 29), .int p269194, .ref (γ 9 31), .int p269195, .int p269196, .int p269197, .ref q269182]) := (x325403).trans he325391
                                  change G _ _ _ _ _ _ _ _ _ _ _
                                  refine G_widen (cs' := 0) (sl' := 0) (by omega) (by omega) ?_
                                  obtain ⟨z325419, hz325419⟩ : ∃ z : Int32, z = g324602 + Int32.ofInt (-1) := ⟨_, rfl⟩
                                  have ez325419 : z325419.toInt = g324602.toInt + (-1) := gI_inc hz325419 (by decide) bg324602' (by decide) (by decide)
                                  have bz325419 : gB z325419 (-1) 999998 := ⟨by omega, by omega⟩
                                  refine G_iinc (L' := [(5, .int z325419), (10, .int g325343), (9, .int 0), (8, .int (-1)), (7, .int o324698), (6, .ref q324645), (4, .ref q322855), (3, .int g322192), (0, .ref q269174), (1, .ref q269175), (2, .int p269176)]) z325419 5 dr_cX17_graph_284 rfl hz325419.symm (Nat.le_of_ble_eq_true rfl) rfl ?_
                                  refine G_goto 109 dr_cX17_graph_287 (by decide +kernel) ?_
                                  refine G_lv (L' := [(5, .int z325419), (4, .ref q322855), (3, .int g322192), (0, .ref q269174), (1, .ref q269175), (2, .int p269176)]) [0, 6, 7, 8, 9, 10] rfl ?_
                                  exact ih109_324608 F325405 z325419 (gB_w bz325419 (by decide) (by decide)) hT325406 hs325415 (by omega) (fun h0 => by have z := x325347 h0; rw [← kp325417] at z; rw [show ((g324602.toInt : Int).toNat : Nat) = (z325419.toInt + 1 : Int).toNat by omega] at z; exact z) kp325416 (mz_dn ez325419 (Int.le_trans (by decide) bg324602'.1) hm109_324608)
                                · have r325420 : g325343.toInt < 32 := gj_nleL hc325361 (show Int32.toInt 32 = 32 by decide)
                                  have bg325343' : gB g325343 0 31 := ⟨by omega, by omega⟩
                                  refine G_aload_n 8 dr_cX17_graph_217 rfl ?_
                                  refine Gp_get 1 hm325360 he325359 dr_cX17_graph_218 (gk_X17 D I) (Nat.le_of_ble_eq_true rfl) wr_7_75 rfl ?_
                                  refine G_iload 3 dr_cX17_graph_221 rfl ?_
                                  have hm325421 : (γ 9 1) ∈ P269172 := RS_m hT325345 ht269201 (by decide)
                                  obtain ⟨f325423, he325422, hg325424⟩ := show rk_13 I γ (F325344 (γ 9 1)) from RS_o hT325345 ht269201
                                  obtain ⟨q325425, hx325427⟩ : ∃ x, x = γ 11 o324698.toInt.toNat := ⟨_, rfl⟩
                                  have ht325426 : rKd γ q325425 36 := by rw [hx325427]; exact (hg325424 _ (show o324698.toInt.toNat < 2000 by omega)).2.1
                                  refine Gp_aald 5 hm325421 he325422 dr_cX17_graph_223 rfl rfl (gB_in bo324698' (by decide) (by decide)) ?_
                                  rw [show f325423 o324698.toNatClampNeg = some q325425 from (hg325424 _ (show o324698.toInt.toNat < 2000 by omega)).1.trans (by rw [hx325427])]
                                  change G _ _ _ _ _ _ _ (.ref q325425 :: _) _ _ _
                                  refine G_iload 0 dr_cX17_graph_224 rfl ?_
                                  refine G_dup2_11 dr_cX17_graph_226 rfl rfl ?_
                                  have hm325428 : q325425 ∈ P269172 := RS_m hT325345 ht325426 (by decide)
                                  obtain ⟨f325430, he325429, wf325430⟩ := show rk_36 I (F325344 q325425) from RS_o hT325345 ht325426
                                  refine Gp_lald 2 hm325428 he325429 dr_cX17_graph_227 rfl (gB_in bg325343' (by decide) (by decide)) (G_namL fun u325431 hu325431 => ?_)
                                  have qu325431 : lb_Q u325431 (2000 - 64 * g325343.toInt) := lb_Wld hu325431 wf325430 (by omega) (by omega) (lb_Mod0 (by omega) (by omega))
                                  refine G_aload_n 8 dr_cX17_graph_228 rfl ?_
                                  refine Gp_get 2 hm325360 he325359 dr_cX17_graph_229 (gk_X17 D I) (Nat.le_of_ble_eq_true rfl) wr_7_76 rfl ?_
                                  refine G_iload 0 dr_cX17_graph_232 rfl ?_
                                  have hm325432 : (γ 9 2) ∈ P269172 := RS_m hT325345 ht269202 (by decide)
                                  obtain ⟨f325434, he325433, wf325434⟩ := show rk_35 I (F325344 (γ 9 2)) from RS_o hT325345 ht269202
                                  refine Gp_lald 2 hm325432 he325433 dr_cX17_graph_234 rfl (gB_in bg325343' (by decide) (by decide)) (G_namL fun u325435 hu325435 => ?_)
                                  have qu325435 : lb_Q u325435 (2000 - 64 * g325343.toInt) := lb_Wld hu325435 wf325434 (by omega) (by omega) (lb_Mod0 (by omega) (by omega))
                                  refine G_lor dr_cX17_graph_235 (G_namL fun u325436 hu325436 => ?_)
                                  have qu325436 : lb_Q u325436 (2000 - 64 * g325343.toInt) := lb_Qor hu325436 qu325431 qu325435
                                  refine Gp_last 2 hm325428 he325429 dr_cX17_graph_236 rfl (gB_in bg325343' (by decide) (by decide)) (fun F325437 e325438 n325439 => ?_)
                                  obtain ⟨f325440, hf325440⟩ : ∃ z, z = vp_updL f325430 g325343.toNatClampNeg u325436 := ⟨_, rfl⟩
                                  rw [← hf325440] at e325438
                                  have he325441 : F325437 q269175 = .inr (18, [.ref q322205, .ref q322206, .int p322207, .int p322208]) := (n325439 q269175 (rn_oa he325351 he325429)).trans he325351
                                  have he325442 : F325437 q322205 = .inr (4, [.int p322836, .ref q322838, .int p322837]) := (n325439 q322205 (rn_oa he325352 he325429)).trans he325352
                                  have he325443 : F325437 q322838 = .inl (I (.object "java/lang/Object"), n322852, .inr (.inr (.inr (.inr f322853)))) := (n325439 q322838 (rn_ref_long he325353 he325429)).trans he325353
                                  have he325444 : F325437 q322855 = .inr (17, [.ref q322864, .ref q322865, .int p322866, .int p322867]) := (n325439 q322855 (rn_oa he325354 he325429)).trans he325354
                                  have he325445 : F325437 q322864 = .inr (4, [.int p324626, .ref q324628, .int p324627]) := (n325439 q322864 (rn_oa he325355 he325429)).trans he325355
                                  have he325446 : F325437 q324628 = .inl (I (.object "java/lang/Object"), n324642, .inr (.inr (.inr (.inr f324643)))) := (n325439 q324628 (rn_ref_long he325356 he325429)).trans he325356
                                  have he325447 : F325437 q324645 = .inr (20, [.int p324658, .int p324659, .int p324660, .int p324661, .int p324662, .int p324663, .int p324664]) := (n325439 q324645 (rn_oa he325357 he325429)).trans he325357
                                  have he325448 : F325437 q269174 = .inr (22, [.ref (γ 9 0), .ref (γ 9 1), .ref (γ 9 2), .ref (γ 9 3), .ref (γ 9 4), .ref (γ 9 5), .ref (γ 9 6), .ref (γ 9 7), .ref (γ 9 8), .int p269183, .int p269184, .int p269185, .int p269186, .int p269187, .int p269188, .ref (γ 9 15), .ref (γ 9 16), .ref (γ 9 17), .ref (γ 9 18), .ref (γ 9 19), .ref (γ 9 20), .ref (γ 9 21), .ref (γ 9 22), .int p269189, .int p269190, .int p269191, .int p269192, .int p269193, .ref q269181, .ref (γ 9 29), .int p269194, .ref (γ 9 31), .int p269195, .int p269196, .int p269197, .ref q269182]) := (n325439 q269174 (rn_oa he325359 he325429)).trans he325359
                                  have he325449 : F325437 (γ 9 1) = .inl (I (.array .long), 2000, .inr (.inr (.inr (.inr f325423)))) := (n325439 (γ 9 1) (rn_ref_long he325422 he325429)).trans he325422
                                  have he325450 : F325437 (γ 9 2) = .inl (I .long, 32, .inr (.inl f325434)) := (n325439 (γ 9 2) (rn_ty ht269202 ht325426 (by decide))).trans he325433
                                  have he325451 : F325437 q325425 = .inl (I .long, 32, .inr (.inl f325440)) := e325438
                                  have hs325452 : rStr γ [] F269173 F325437 := rStr_put hs325346 n325439 ht325426 (by decide)
                                  have kp325453 : F325437 q269174 = F269173 q269174 := (n325439 q269174 (rn_ty htq269174 ht325426 (by decide))).trans x325348
                                  have kp325454 : F325437 (γ 9 3) = F325344 (γ 9 3) := n325439 (γ 9 3) (rn_ty ht269203 ht325426 (by decide))
                                  have wf325440 : lb_W f325440 (32) (32) (2000) := lb_Wst hf325440 wf325430 (by omega) (lb_Mod0 (by omega) (by omega)) qu325436
                                  obtain ⟨z325455, hz325455⟩ : ∃ z : Int32, z = g325343 + Int32.ofInt 1 := ⟨_, rfl⟩
                                  have ez325455 : z325455.toInt = g325343.toInt + 1 := gI_inc hz325455 (by decide) bg325343' (by decide) (by decide)
                                  have bz325455 : gB z325455 1 32 := ⟨by omega, by omega⟩
                                  refine G_iinc (L' := [(10, .int z325455), (9, .int 0), (8, .int (-1)), (7, .int o324698), (6, .ref q324645), (5, .int g324602), (4, .ref q322855), (3, .int g322192), (0, .ref q269174), (1, .ref q269175), (2, .int p269176)]) z325455 0 dr_cX17_graph_237 rfl hz325455.symm (Nat.le_of_ble_eq_true rfl) rfl ?_
                                  refine G_goto 210 dr_cX17_graph_240 (by decide +kernel) ?_
                                  have hT325456 : RS D I P269172 F325437 γ el := RS_set hT325345 n325439 ht325426 (by decide) ⟨f325440, he325451, wf325440⟩
                                  exact ih210_325348 F325437 z325455 (gB_w bz325455 (by decide) (by decide)) hT325456 hs325452 (by rw [kp325454]; exact x325347) kp325453 (mz_up ez325455 (Int.le_trans bg325343'.2 (by decide)) hm210_325348)
                            exact hlp210_325348 (((33 : Int) - 0).toNat + 1) F324676 0 (gB_w (gBl (show Int32.toInt 0 = 0 by decide)) (by decide) (by decide)) hT324677 hs324686 gr324692 kp324687 (Nat.lt_succ_self _)
                        · have r325457 : p324663.toInt ≠ 0 := gj_neq hc325205 (show Int32.toInt 0 = 0 by decide)
                          have bp324663' : gB p324663 1 1 := gB_t1 bp324663 r325457
                          refine G_aload 1 dr_cX17_graph_164 rfl ?_
                          refine Gp_get 2 hm324656 he324685 dr_cX17_graph_166 (gk_X15 D I) (Nat.le_of_ble_eq_true rfl) wr_9_186 rfl ?_
                          refine G_goto 173 dr_cX17_graph_169 (by decide +kernel) ?_
                          refine G_istore (L' := [(8, .int p324660), (7, .int o324698), (6, .ref q324645), (5, .int g324602), (4, .ref q322855), (3, .int g322192), (0, .ref q269174), (1, .ref q269175), (2, .int p269176)]) dr_cX17_graph_173 (Nat.le_of_ble_eq_true rfl) rfl ?_
                          refine G_iload 1 dr_cX17_graph_175 rfl ?_
                          refine G_if_lt 277 dr_cX17_graph_177 (by decide +kernel) (fun hc325458 => ?_) (fun hc325458 => ?_)
                          · have r325459 : o324698.toInt < 0 := gj_lt hc325458 (show Int32.toInt 0 = 0 by decide)
                            have bo324698' : gB o324698 (-1) (-1) := ⟨by omega, by omega⟩
                            refine G_aload_n 6 dr_cX17_graph_277 rfl ?_
                            refine G_aload 2 dr_cX17_graph_278 rfl ?_
                            refine G_iload_n 8 dr_cX17_graph_280 rfl ?_
                            refine Gw_callV (As := [.ref q324645, .int p269176]) (gV_ok D I) (ct_275878_SpillForgeModel_back l hl0 D I γ el P269172 F324676 q269174 q324645 p269176 hT324677 htq269174 ht324648 (gB_w bp269176' (by decide) (by decide))) dr_cX17_graph_281 ⟨wr_10_174, wr_1_14, wr_10_177, by decide, rfl, (Nat.le_of_ble_eq_true rfl), (Nat.le_of_ble_eq_true rfl)⟩ wr_10_176 wr_p_96 hm324618 he324688 rfl (show 0 + 0 ≤ 0 by first | omega | decide) (show 0 + 0 ≤ 0 by first | omega | decide) (Nat.le_of_ble_eq_true rfl) (fun r325463 w325464 dc325460 ds325461 hp325462 => ?_) (fun _ _ _ _ _ z => z.elim)
                            obtain ⟨F325467, rfl, rfl, hT325468, hs325469, hdc, hds, x325465, x325466⟩ := hp325462
                            have he325470 : F325467 q269175 = .inr (18, [.ref q322205, .ref q322206, .int p322207, .int p322208]) := (hs325469 q269175 (rT0 htq269175 (by decide)) (rT1 htq269175 (by decide)) (rT2 htq269175 (by decide))).trans he324679
                            have he325471 : F325467 q322205 = .inr (4, [.int p322836, .ref q322838, .int p322837]) := (hs325469 q322205 (rT0 ht322209 (by decide)) (rT1 ht322209 (by decide)) (rT2 ht322209 (by decide))).trans he324680
                            have he325472 : F325467 q322838 = .inl (I (.object "java/lang/Object"), n322852, .inr (.inr (.inr (.inr f322853)))) := (hs325469 q322838 (rT0 r322844 (by decide)) (rT1 r322844 (by decide)) (rT2 r322844 (by decide))).trans he324681
                            have he325473 : F325467 q322855 = .inr (17, [.ref q322864, .ref q322865, .int p322866, .int p322867]) := (hs325469 q322855 (rT0 ht322860 (by decide)) (rT1 ht322860 (by decide)) (rT2 ht322860 (by decide))).trans he324682
                            have he325474 : F325467 q322864 = .inr (4, [.int p324626, .ref q324628, .int p324627]) := (hs325469 q322864 (rT0 ht322868 (by decide)) (rT1 ht322868 (by decide)) (rT2 ht322868 (by decide))).trans he324683
                            have he325475 : F325467 q324628 = .inl (I (.object "java/lang/Object"), n324642, .inr (.inr (.inr (.inr f324643)))) := (hs325469 q324628 (rT0 r324634 (by decide)) (rT1 r324634 (by decide)) (rT2 r324634 (by decide))).trans he324684
                            have he325476 : F325467 q324645 = .inr (20, [.int p324658, .int p324659, .int p324660, .int p324661, .int p324662, .int p324663, .int p324664]) := (hs325469 q324645 (rT0 ht324648 (by decide)) (rT1 ht324648 (by decide)) (rT2 ht324648 (by decide))).trans he324685
                            have hs325477 : rStr γ [] F269173 F325467 := rStr_tr hs324686 hs325469
                            have kp325478 : F325467 q269174 = F269173 q269174 := (x325465).trans kp324687
                            have kp325479 : F325467 (γ 9 3) = F324676 (γ 9 3) := x325466
                            have he325480 : F325467 q269174 = .inr (22, [.ref (γ 9 0), .ref (γ 9 1), .ref (γ 9 2), .ref (γ 9 3), .ref (γ 9 4), .ref (γ 9 5), .ref (γ 9 6), .ref (γ 9 7), .ref (γ 9 8), .int p269183, .int p269184, .int p269185, .int p269186, .int p269187, .int p269188, .ref (γ 9 15), .ref (γ 9 16), .ref (γ 9 17), .ref (γ 9 18), .ref (γ 9 19), .ref (γ 9 20), .ref (γ 9 21), .ref (γ 9 22), .int p269189, .int p269190, .int p269191, .int p269192, .int p269193, .ref q269181, .ref (γ 9 29), .int p269194, .ref (γ 9 31), .int p269195, .int p269196, .int p269197, .ref q269182]) := (x325465).trans he324688
                            change G _ _ _ _ _ _ _ _ _ _ _
                            refine G_widen (cs' := 0) (sl' := 0) (by omega) (by omega) ?_
                            obtain ⟨z325481, hz325481⟩ : ∃ z : Int32, z = g324602 + Int32.ofInt (-1) := ⟨_, rfl⟩
                            have ez325481 : z325481.toInt = g324602.toInt + (-1) := gI_inc hz325481 (by decide) bg324602' (by decide) (by decide)
                            have bz325481 : gB z325481 (-1) 999998 := ⟨by omega, by omega⟩
                            refine G_iinc (L' := [(5, .int z325481), (8, .int p324660), (7, .int o324698), (6, .ref q324645), (4, .ref q322855), (3, .int g322192), (0, .ref q269174), (1, .ref q269175), (2, .int p269176)]) z325481 3 dr_cX17_graph_284 rfl hz325481.symm (Nat.le_of_ble_eq_true rfl) rfl ?_
                            refine G_goto 109 dr_cX17_graph_287 (by decide +kernel) ?_
                            refine G_lv (L' := [(5, .int z325481), (4, .ref q322855), (3, .int g322192), (0, .ref q269174), (1, .ref q269175), (2, .int p269176)]) [0, 4, 5, 6, 7, 8] rfl ?_
                            exact ih109_324608 F325467 z325481 (gB_w bz325481 (by decide) (by decide)) hT325468 hs325477 (by omega) (fun h0 => by have z := gr324692 h0; rw [← kp325479] at z; rw [show ((g324602.toInt : Int).toNat : Nat) = (z325481.toInt + 1 : Int).toNat by omega] at z; exact z) kp325478 (mz_dn ez325481 (Int.le_trans (by decide) bg324602'.1) hm109_324608)
                          · have r325482 : 0 ≤ o324698.toInt := gj_nlt hc325458 (show Int32.toInt 0 = 0 by decide)
                            have bo324698' : gB o324698 0 1999 := ⟨by omega, by omega⟩
                            refine G_iload 0 dr_cX17_graph_180 rfl ?_
                            refine G_if_lt 204 dr_cX17_graph_182 (by decide +kernel) (fun hc325483 => ?_) (fun hc325483 => ?_)
                            · have r325484 : p324660.toInt < 0 := gj_lt hc325483 (show Int32.toInt 0 = 0 by decide)
                              have bp324660' : gB p324660 (-2147483648) (-1) := ⟨by omega, by omega⟩
                              refine G_iconst 0 dr_cX17_graph_204 (by decide +kernel) ?_
                              refine G_istore (L' := [(9, .int 0), (8, .int p324660), (7, .int o324698), (6, .ref q324645), (5, .int g324602), (4, .ref q322855), (3, .int g322192), (0, .ref q269174), (1, .ref q269175), (2, .int p269176)]) dr_cX17_graph_205 (Nat.le_of_ble_eq_true rfl) rfl ?_
                              refine G_iconst 0 dr_cX17_graph_207 (by decide +kernel) ?_
                              refine G_istore (L' := [(10, .int 0), (9, .int 0), (8, .int p324660), (7, .int o324698), (6, .ref q324645), (5, .int g324602), (4, .ref q322855), (3, .int g322192), (0, .ref q269174), (1, .ref q269175), (2, .int p269176)]) dr_cX17_graph_208 (Nat.le_of_ble_eq_true rfl) rfl ?_
                              have hlp210_325601 : ∀ (n210_325601 : Nat) (F325597 : Nat → va_E) (g325596 : Int32), gB g325596 0 32 → RS D I P269172 F325597 γ el → rStr γ [] F269173 F325597 → (gIp (p269176.toInt = 0) (rGr γ el F269173 q269175 (γ 6 (γ 1 q269175)) (cB (F325597 (γ 9 3))) (vB (g322192.toInt : Int).toNat (g324602.toInt : Int).toNat))) → (F325597 q269174 = F269173 q269174) → ((33 : Int) - g325596.toInt).toNat < n210_325601 → G (gV D I) l (gRm 5 111 0 0) (gMA (gV D I) (pt_269178_SpillForgeModel_graph D I γ el P269172 F269173 q269174 q269175 p269176) gNA 0 0) ky_269178_SpillForgeModel_graph 210 [(10, .int g325596), (9, .int 0), (8, .int p324660), (7, .int o324698), (6, .ref q324645), (5, .int g324602), (4, .ref q322855), (3, .int g322192), (0, .ref q269174), (1, .ref q269175), (2, .int p269176)] [] (va_pl P269172 F325597) 0 0 := by
                                intro n210_325601
                                induction n210_325601 with
                                | zero => intro F325597 g325596 bg325596 hT325598 hs325599 x325600 x325601 hm210_325601; exact absurd hm210_325601 (Nat.not_lt_zero _)
                                | succ n210_325601 ih210_325601 =>
                                  intro F325597 g325596 bg325596 hT325598 hs325599 x325600 x325601 hm210_325601
                                  have hs325603 : rStr γ [] F324676 F325597 := fun b h0 hb hw => (hs325599 b h0 hb hw).trans (hs324686 b h0 hb hw).symm
                                  have he325604 : F325597 q269175 = .inr (18, [.ref q322205, .ref q322206, .int p322207, .int p322208]) := (hs325603 q269175 (rT0 htq269175 (by decide)) (rT1 htq269175 (by decide)) (rT2 htq269175 (by decide))).trans he324679
                                  have he325605 : F325597 q322205 = .inr (4, [.int p322836, .ref q322838, .int p322837]) := (hs325603 q322205 (rT0 ht322209 (by decide)) (rT1 ht322209 (by decide)) (rT2 ht322209 (by decide))).trans he324680
                                  have he325606 : F325597 q322838 = .inl (I (.object "java/lang/Object"), n322852, .inr (.inr (.inr (.inr f322853)))) := (hs325603 q322838 (rT0 r322844 (by decide)) (rT1 r322844 (by decide)) (rT2 r322844 (by decide))).trans he324681
                                  have he325607 : F325597 q322855 = .inr (17, [.ref q322864, .ref q322865, .int p322866, .int p322867]) := (hs325603 q322855 (rT0 ht322860 (by decide)) (rT1 ht322860 (by decide)) (rT2 ht322860 (by decide))).trans he324682
                                  have he325608 : F325597 q322864 = .inr (4, [.int p324626, .ref q324628, .int p324627]) := (hs325603 q322864 (rT0 ht322868 (by decide)) (rT1 ht322868 (by decide)) (rT2 ht322868 (by decide))).trans he324683
                                  have he325609 : F325597 q324628 = .inl (I (.object "java/lang/Object"), n324642, .inr (.inr (.inr (.inr f324643)))) := (hs325603 q324628 (rT0 r324634 (by decide)) (rT1 r324634 (by decide)) (rT2 r324634 (by decide))).trans he324684
                                  have he325610 : F325597 q324645 = .inr (20, [.int p324658, .int p324659, .int p324660, .int p324661, .int p324662, .int p324663, .int p324664]) := (hs325603 q324645 (rT0 ht324648 (by decide)) (rT1 ht324648 (by decide)) (rT2 ht324648 (by decide))).trans he324685
                                  have hs325611 : rStr γ [] F269173 F325597 := rStr_tr hs324686 hs325603
                                  have he325612 : F325597 q269174 = .inr (22, [.ref (γ 9 0), .ref (γ 9 1), .ref (γ 9 2), .ref (γ 9 3), .ref (γ 9 4), .ref (γ 9 5), .ref (γ 9 6), .ref (γ 9 7), .ref (γ 9 8), .int p269183, .int p269184, .int p269185, .int p269186, .int p269187, .int p269188, .ref (γ 9 15), .ref (γ 9 16), .ref (γ 9 17), .ref (γ 9 18), .ref (γ 9 19), .ref (γ 9 20), .ref (γ 9 21), .ref (γ 9 22), .int p269189, .int p269190, .int p269191, .int p269192, .int p269193, .ref q269181, .ref (γ 9 29), .int p269194, .ref (γ 9 31), .int p269195, .int p269196, .int p269197, .ref q269182]) := x325601.trans he269180
                                  have hm325613 : q269174 ∈ P269172 := RS_m hT325598 htq269174 (by decide)
                                  refine G_iload 0 dr_cX17_graph_210 rfl ?_
                                  refine G_bipush 32 dr_cX17_graph_212 (by decide +kernel) ?_
                                  refine G_icmp_ge 243 dr_cX17_graph_214 (by decide +kernel) (fun hc325614 => ?_) (fun hc325614 => ?_)
                                  · have r325615 : 32 ≤ g325596.toInt := gj_leL hc325614 (show Int32.toInt 32 = 32 by decide)
                                    have bg325596' : gB g325596 32 32 := ⟨by omega, by omega⟩
                                    refine G_iload 2 dr_cX17_graph_243 rfl ?_
                                    refine G_if_lt 265 dr_cX17_graph_245 (by decide +kernel) (fun _ => ?_) (fun hc => absurd (show False by have := gj_nlt hc (show Int32.toInt 0 = 0 by decide); omega) not_false)
                                    refine G_aload_n 8 dr_cX17_graph_265 rfl ?_
                                    refine Gp_get 1 hm325613 he325612 dr_cX17_graph_266 (gk_X17 D I) (Nat.le_of_ble_eq_true rfl) wr_7_75 rfl ?_
                                    refine G_iload 3 dr_cX17_graph_269 rfl ?_
                                    have hm325616 : (γ 9 1) ∈ P269172 := RS_m hT325598 ht269201 (by decide)
                                    obtain ⟨f325618, he325617, hg325619⟩ := show rk_13 I γ (F325597 (γ 9 1)) from RS_o hT325598 ht269201
                                    obtain ⟨q325620, hx325622⟩ : ∃ x, x = γ 11 o324698.toInt.toNat := ⟨_, rfl⟩
                                    have ht325621 : rKd γ q325620 36 := by rw [hx325622]; exact (hg325619 _ (show o324698.toInt.toNat < 2000 by omega)).2.1
                                    refine Gp_aald 5 hm325616 he325617 dr_cX17_graph_271 rfl rfl (gB_in bo324698' (by decide) (by decide)) ?_
                                    rw [show f325618 o324698.toNatClampNeg = some q325620 from (hg325619 _ (show o324698.toInt.toNat < 2000 by omega)).1.trans (by rw [hx325622])]
                                    change G _ _ _ _ _ _ _ (.ref q325620 :: _) _ _ _
                                    refine G_iload 3 dr_cX17_graph_272 rfl ?_
                                    have hm325623 : q325620 ∈ P269172 := RS_m hT325598 ht325621 (by decide)
                                    obtain ⟨f325625, he325624, wf325625⟩ := show rk_36 I (F325597 q325620) from RS_o hT325598 ht325621
                                    refine Gw_callS (As := [.ref q325620, .int o324698]) (gV_ok D I) (cp_1873_SpillForgeModel_clear l hl0 D I P269172 F325597 q325620 o324698 f325625 hm325623 he325624 bo324698' wf325625) dr_cX17_graph_274 ⟨wr_10_185, wr_1_14, wr_10_187, by decide, rfl, (Nat.le_of_ble_eq_true rfl), (Nat.le_of_ble_eq_true rfl)⟩ wr_10_186 (show 0 + 0 ≤ 0 by first | omega | decide) (show 0 + 0 ≤ 0 by first | omega | decide) (Nat.le_of_ble_eq_true rfl) (fun r325629 w325630 dc325626 ds325627 hp325628 => ?_) (fun _ _ _ _ _ z => z.elim)
                                    obtain ⟨F325633, f325631, rfl, rfl, hfr325635, he325636, hdc, hds, x325632⟩ := hp325628
                                    have he325637 : F325633 q269175 = .inr (18, [.ref q322205, .ref q322206, .int p322207, .int p322208]) := (hfr325635 q269175 hm322203 (nm_c (rn_oa he325604 he325624) nm_n)).trans he325604
                                    have he325638 : F325633 q322205 = .inr (4, [.int p322836, .ref q322838, .int p322837]) := (hfr325635 q322205 hm322834 (nm_c (rn_oa he325605 he325624) nm_n)).trans he325605
                                    have he325639 : F325633 q322838 = .inl (I (.object "java/lang/Object"), n322852, .inr (.inr (.inr (.inr f322853)))) := (hfr325635 q322838 hm322854 (nm_c (rn_ref_long he325606 he325624) nm_n)).trans he325606
                                    have he325640 : F325633 q322855 = .inr (17, [.ref q322864, .ref q322865, .int p322866, .int p322867]) := (hfr325635 q322855 hm322862 (nm_c (rn_oa he325607 he325624) nm_n)).trans he325607
                                    have he325641 : F325633 q322864 = .inr (4, [.int p324626, .ref q324628, .int p324627]) := (hfr325635 q322864 hm324624 (nm_c (rn_oa he325608 he325624) nm_n)).trans he325608
                                    have he325642 : F325633 q324628 = .inl (I (.object "java/lang/Object"), n324642, .inr (.inr (.inr (.inr f324643)))) := (hfr325635 q324628 hm324644 (nm_c (rn_ref_long he325609 he325624) nm_n)).trans he325609
                                    have he325643 : F325633 q324645 = .inr (20, [.int p324658, .int p324659, .int p324660, .int p324661, .int p324662, .int p324663, .int p324664]) := (hfr325635 q324645 hm324656 (nm_c (rn_oa he325610 he325624) nm_n)).trans he325610
                                    have he325644 : F325633 q269174 = .inr (22, [.ref (γ 9 0), .ref (γ 9 1), .ref (γ 9 2), .ref (γ 9 3), .ref (γ 9 4), .ref (γ 9 5), .ref (γ 9 6), .ref (γ 9 7), .ref (γ 9 8), .int p269183, .int p269184, .int p269185, .int p269186, .int p269187, .int p269188, .ref (γ 9 15), .ref (γ 9 16), .ref (γ 9 17), .ref (γ 9 18), .ref (γ 9 19), .ref (γ 9 20), .ref (γ 9 21), .ref (γ 9 22), .int p269189, .int p269190, .int p269191, .int p269192, .int p269193, .ref q269181, .ref (γ 9 29), .int p269194, .ref (γ 9 31), .int p269195, .int p269196, .int p269197, .ref q269182]) := (hfr325635 q269174 hm325613 (nm_c (rn_oa he325612 he325624) nm_n)).trans he325612
                                    have he325645 : F325633 (γ 9 1) = .inl (I (.array .long), 2000, .inr (.inr (.inr (.inr f325618)))) := (hfr325635 (γ 9 1) hm325616 (nm_c (rn_ref_long he325617 he325624) nm_n)).trans he325617
                                    have hfr325646 : rFr [q325620] P269172 F325597 F325633 := rFr_call (rSub_rf (P := P269172)) (rFr_rf (W := []) (P := P269172) (F := F325597)) hfr325635 (fun b hb hn => ⟨nm_n, (nm_c (fun e => hn (e ▸ List.mem_cons_self)) nm_n)⟩)
                                    change G _ _ _ _ _ _ _ _ _ _ _
                                    refine G_widen (cs' := 0) (sl' := 0) (by omega) (by omega) ?_
                                    have hT325647 : RS D I P269172 F325633 γ el := RS_fr hT325598 hfr325646 ht325621 (by decide) ⟨f325631, he325636, x325632⟩
                                    have hs325648 : rStr γ [] F269173 F325633 := rStr_fr hT325598 hs325599 hfr325646 ht325621 (by decide)
                                    have kp325649 : F325633 q269174 = F269173 q269174 := (hfr325646 q269174 (RS_m hT325598 htq269174 (by decide)) (nm_c (rn_ty htq269174 ht325621 (by decide)) nm_n)).trans x325601
                                    have kp325650 : F325633 (γ 9 3) = F325597 (γ 9 3) := hfr325646 (γ 9 3) (RS_m hT325598 ht269203 (by decide)) (nm_c (rn_ty ht269203 ht325621 (by decide)) nm_n)
                                    refine G_aload_n 8 dr_cX17_graph_277 rfl ?_
                                    refine G_aload 4 dr_cX17_graph_278 rfl ?_
                                    refine G_iload_n 10 dr_cX17_graph_280 rfl ?_
                                    refine Gw_callV (As := [.ref q324645, .int p269176]) (gV_ok D I) (ct_275878_SpillForgeModel_back l hl0 D I γ el P269172 F325633 q269174 q324645 p269176 hT325647 htq269174 ht324648 (gB_w bp269176' (by decide) (by decide))) dr_cX17_graph_281 ⟨wr_10_174, wr_1_14, wr_10_177, by decide, rfl, (Nat.le_of_ble_eq_true rfl), (Nat.le_of_ble_eq_true rfl)⟩ wr_10_176 wr_p_96 hm325613 he325644 rfl (show 0 + 0 ≤ 0 by first | omega | decide) (show 0 + 0 ≤ 0 by first | omega | decide) (Nat.le_of_ble_eq_true rfl) (fun r325654 w325655 dc325651 ds325652 hp325653 => ?_) (fun _ _ _ _ _ z => z.elim)
                                    obtain ⟨F325658, rfl, rfl, hT325659, hs325660, hdc, hds, x325656, x325657⟩ := hp325653
                                    have he325661 : F325658 q269175 = .inr (18, [.ref q322205, .ref q322206, .int p322207, .int p322208]) := (hs325660 q269175 (rT0 htq269175 (by decide)) (rT1 htq269175 (by decide)) (rT2 htq269175 (by decide))).trans he325637
                                    have he325662 : F325658 q322205 = .inr (4, [.int p322836, .ref q322838, .int p322837]) := (hs325660 q322205 (rT0 ht322209 (by decide)) (rT1 ht322209 (by decide)) (rT2 ht322209 (by decide))).trans he325638
                                    have he325663 : F325658 q322838 = .inl (I (.object "java/lang/Object"), n322852, .inr (.inr (.inr (.inr f322853)))) := (hs325660 q322838 (rT0 r322844 (by decide)) (rT1 r322844 (by decide)) (rT2 r322844 (by decide))).trans he325639
                                    have he325664 : F325658 q322855 = .inr (17, [.ref q322864, .ref q322865, .int p322866, .int p322867]) := (hs325660 q322855 (rT0 ht322860 (by decide)) (rT1 ht322860 (by decide)) (rT2 ht322860 (by decide))).trans he325640
                                    have he325665 : F325658 q322864 = .inr (4, [.int p324626, .ref q324628, .int p324627]) := (hs325660 q322864 (rT0 ht322868 (by decide)) (rT1 ht322868 (by decide)) (rT2 ht322868 (by decide))).trans he325641
                                    have he325666 : F325658 q324628 = .inl (I (.object "java/lang/Object"), n324642, .inr (.inr (.inr (.inr f324643)))) := (hs325660 q324628 (rT0 r324634 (by decide)) (rT1 r324634 (by decide)) (rT2 r324634 (by decide))).trans he325642
                                    have he325667 : F325658 q324645 = .inr (20, [.int p324658, .int p324659, .int p324660, .int p324661, .int p324662, .int p324663, .int p324664]) := (hs325660 q324645 (rT0 ht324648 (by decide)) (rT1 ht324648 (by decide)) (rT2 ht324648 (by decide))).trans he325643
                                    have hs325668 : rStr γ [] F269173 F325658 := rStr_tr hs325648 hs325660
                                    have kp325669 : F325658 q269174 = F269173 q269174 := (x325656).trans kp325649
                                    have kp325670 : F325658 (γ 9 3) = F325597 (γ 9 3) := (x325657).trans kp325650
                                    have he325671 : F325658 q269174 = .inr (22, [.ref (γ 9 0), .ref (γ 9 1), .ref (γ 9 2), .ref (γ 9 3), .ref (γ 9 4), .ref (γ 9 5), .ref (γ 9 6), .ref (γ 9 7), .ref (γ 9 8), .int p269183, .int p269184, .int p269185, .int p269186, .int p269187, .int p269188, .ref (γ 9 15), .ref (γ 9 16), .ref (γ 9 17), .ref (γ 9 18), .ref (γ 9 19), .ref (γ 9 20), .ref (γ 9 21), .ref (γ 9 22), .int p269189, .int p269190, .int p269191, .int p269192, .int p269193, .ref q269181, .ref (γ 9 29), .int p269194, .ref (γ 9 31), .int p269195, .int p269196, .int p269197, .ref q269182]) := (x325656).trans he325644
                                    change G _ _ _ _ _ _ _ _ _ _ _
                                    refine G_widen (cs' := 0) (sl' := 0) (by omega) (by omega) ?_
                                    obtain ⟨z325672, hz325672⟩ : ∃ z : Int32, z = g324602 + Int32.ofInt (-1) := ⟨_, rfl⟩
                                    have ez325672 : z325672.toInt = g324602.toInt + (-1) := gI_inc hz325672 (by decide) bg324602' (by decide) (by decide)
                                    have bz325672 : gB z325672 (-1) 999998 := ⟨by omega, by omega⟩
                                    refine G_iinc (L' := [(5, .int z325672), (10, .int g325596), (9, .int 0), (8, .int p324660), (7, .int o324698), (6, .ref q324645), (4, .ref q322855), (3, .int g322192), (0, .ref q269174), (1, .ref q269175), (2, .int p269176)]) z325672 5 dr_cX17_graph_284 rfl hz325672.symm (Nat.le_of_ble_eq_true rfl) rfl ?_
                                    refine G_goto 109 dr_cX17_graph_287 (by decide +kernel) ?_
                                    refine G_lv (L' := [(5, .int z325672), (4, .ref q322855), (3, .int g322192), (0, .ref q269174), (1, .ref q269175), (2, .int p269176)]) [0, 6, 7, 8, 9, 10] rfl ?_
                                    exact ih109_324608 F325658 z325672 (gB_w bz325672 (by decide) (by decide)) hT325659 hs325668 (by omega) (fun h0 => by have z := x325600 h0; rw [← kp325670] at z; rw [show ((g324602.toInt : Int).toNat : Nat) = (z325672.toInt + 1 : Int).toNat by omega] at z; exact z) kp325669 (mz_dn ez325672 (Int.le_trans (by decide) bg324602'.1) hm109_324608)
                                  · have r325673 : g325596.toInt < 32 := gj_nleL hc325614 (show Int32.toInt 32 = 32 by decide)
                                    have bg325596' : gB g325596 0 31 := ⟨by omega, by omega⟩
                                    refine G_aload_n 8 dr_cX17_graph_217 rfl ?_
                                    refine Gp_get 1 hm325613 he325612 dr_cX17_graph_218 (gk_X17 D I) (Nat.le_of_ble_eq_true rfl) wr_7_75 rfl ?_
                                    refine G_iload 3 dr_cX17_graph_221 rfl ?_
                                    have hm325674 : (γ 9 1) ∈ P269172 := RS_m hT325598 ht269201 (by decide)
                                    obtain ⟨f325676, he325675, hg325677⟩ := show rk_13 I γ (F325597 (γ 9 1)) from RS_o hT325598 ht269201
                                    obtain ⟨q325678, hx325680⟩ : ∃ x, x = γ 11 o324698.toInt.toNat := ⟨_, rfl⟩
                                    have ht325679 : rKd γ q325678 36 := by rw [hx325680]; exact (hg325677 _ (show o324698.toInt.toNat < 2000 by omega)).2.1
                                    refine Gp_aald 5 hm325674 he325675 dr_cX17_graph_223 rfl rfl (gB_in bo324698' (by decide) (by decide)) ?_
                                    rw [show f325676 o324698.toNatClampNeg = some q325678 from (hg325677 _ (show o324698.toInt.toNat < 2000 by omega)).1.trans (by rw [hx325680])]
                                    change G _ _ _ _ _ _ _ (.ref q325678 :: _) _ _ _
                                    refine G_iload 0 dr_cX17_graph_224 rfl ?_
                                    refine G_dup2_11 dr_cX17_graph_226 rfl rfl ?_
                                    have hm325681 : q325678 ∈ P269172 := RS_m hT325598 ht325679 (by decide)
                                    obtain ⟨f325683, he325682, wf325683⟩ := show rk_36 I (F325597 q325678) from RS_o hT325598 ht325679
                                    refine Gp_lald 2 hm325681 he325682 dr_cX17_graph_227 rfl (gB_in bg325596' (by decide) (by decide)) (G_namL fun u325684 hu325684 => ?_)
                                    have qu325684 : lb_Q u325684 (2000 - 64 * g325596.toInt) := lb_Wld hu325684 wf325683 (by omega) (by omega) (lb_Mod0 (by omega) (by omega))
                                    refine G_aload_n 8 dr_cX17_graph_228 rfl ?_
                                    refine Gp_get 2 hm325613 he325612 dr_cX17_graph_229 (gk_X17 D I) (Nat.le_of_ble_eq_true rfl) wr_7_76 rfl ?_
                                    refine G_iload 0 dr_cX17_graph_232 rfl ?_
                                    have hm325685 : (γ 9 2) ∈ P269172 := RS_m hT325598 ht269202 (by decide)
                                    obtain ⟨f325687, he325686, wf325687⟩ := show rk_35 I (F325597 (γ 9 2)) from RS_o hT325598 ht269202
                                    refine Gp_lald 2 hm325685 he325686 dr_cX17_graph_234 rfl (gB_in bg325596' (by decide) (by decide)) (G_namL fun u325688 hu325688 => ?_)
                                    have qu325688 : lb_Q u325688 (2000 - 64 * g325596.toInt) := lb_Wld hu325688 wf325687 (by omega) (by omega) (lb_Mod0 (by omega) (by omega))
                                    refine G_lor dr_cX17_graph_235 (G_namL fun u325689 hu325689 => ?_)
                                    have qu325689 : lb_Q u325689 (2000 - 64 * g325596.toInt) := lb_Qor hu325689 qu325684 qu325688
                                    refine Gp_last 2 hm325681 he325682 dr_cX17_graph_236 rfl (gB_in bg325596' (by decide) (by decide)) (fun F325690 e325691 n325692 => ?_)
                                    obtain ⟨f325693, hf325693⟩ : ∃ z, z = vp_updL f325683 g325596.toNatClampNeg u325689 := ⟨_, rfl⟩
                                    rw [← hf325693] at e325691
                                    have he325694 : F325690 q269175 = .inr (18, [.ref q322205, .ref q322206, .int p322207, .int p322208]) := (n325692 q269175 (rn_oa he325604 he325682)).trans he325604
                                    have he325695 : F325690 q322205 = .inr (4, [.int p322836, .ref q322838, .int p322837]) := (n325692 q322205 (rn_oa he325605 he325682)).trans he325605
                                    have he325696 : F325690 q322838 = .inl (I (.object "java/lang/Object"), n322852, .inr (.inr (.inr (.inr f322853)))) := (n325692 q322838 (rn_ref_long he325606 he325682)).trans he325606
                                    have he325697 : F325690 q322855 = .inr (17, [.ref q322864, .ref q322865, .int p322866, .int p322867]) := (n325692 q322855 (rn_oa he325607 he325682)).trans he325607
                                    have he325698 : F325690 q322864 = .inr (4, [.int p324626, .ref q324628, .int p324627]) := (n325692 q322864 (rn_oa he325608 he325682)).trans he325608
                                    have he325699 : F325690 q324628 = .inl (I (.object "java/lang/Object"), n324642, .inr (.inr (.inr (.inr f324643)))) := (n325692 q324628 (rn_ref_long he325609 he325682)).trans he325609
                                    have he325700 : F325690 q324645 = .inr (20, [.int p324658, .int p324659, .int p324660, .int p324661, .int p324662, .int p324663, .int p324664]) := (n325692 q324645 (rn_oa he325610 he325682)).trans he325610
                                    have he325701 : F325690 q269174 = .inr (22, [.ref (γ 9 0), .ref (γ 9 1), .ref (γ 9 2), .ref (γ 9 3), .ref (γ 9 4), .ref (γ 9 5), .ref (γ 9 6), .ref (γ 9 7), .ref (γ 9 8), .int p269183, .int p269184, .int p269185, .int p269186, .int p269187, .int p269188, .ref (γ 9 15), .ref (γ 9 16), .ref (γ 9 17), .ref (γ 9 18), .ref (γ 9 19), .ref (γ 9 20), .ref (γ 9 21), .ref (γ 9 22), .int p269189, .int p269190, .int p269191, .int p269192, .int p269193, .ref q269181, .ref (γ 9 29), .int p269194, .ref (γ 9 31), .int p269195, .int p269196, .int p269197, .ref q269182]) := (n325692 q269174 (rn_oa he325612 he325682)).trans he325612
                                    have he325702 : F325690 (γ 9 1) = .inl (I (.array .long), 2000, .inr (.inr (.inr (.inr f325676)))) := (n325692 (γ 9 1) (rn_ref_long he325675 he325682)).trans he325675
                                    have he325703 : F325690 (γ 9 2) = .inl (I .long, 32, .inr (.inl f325687)) := (n325692 (γ 9 2) (rn_ty ht269202 ht325679 (by decide))).trans he325686
                                    have he325704 : F325690 q325678 = .inl (I .long, 32, .inr (.inl f325693)) := e325691
                                    have hs325705 : rStr γ [] F269173 F325690 := rStr_put hs325599 n325692 ht325679 (by decide)
                                    have kp325706 : F325690 q269174 = F269173 q269174 := (n325692 q269174 (rn_ty htq269174 ht325679 (by decide))).trans x325601
                                    have kp325707 : F325690 (γ 9 3) = F325597 (γ 9 3) := n325692 (γ 9 3) (rn_ty ht269203 ht325679 (by decide))
                                    have wf325693 : lb_W f325693 (32) (32) (2000) := lb_Wst hf325693 wf325683 (by omega) (lb_Mod0 (by omega) (by omega)) qu325689
                                    obtain ⟨z325708, hz325708⟩ : ∃ z : Int32, z = g325596 + Int32.ofInt 1 := ⟨_, rfl⟩
                                    have ez325708 : z325708.toInt = g325596.toInt + 1 := gI_inc hz325708 (by decide) bg325596' (by decide) (by decide)
                                    have bz325708 : gB z325708 1 32 := ⟨by omega, by omega⟩
                                    refine G_iinc (L' := [(10, .int z325708), (9, .int 0), (8, .int p324660), (7, .int o324698), (6, .ref q324645), (5, .int g324602), (4, .ref q322855), (3, .int g322192), (0, .ref q269174), (1, .ref q269175), (2, .int p269176)]) z325708 0 dr_cX17_graph_237 rfl hz325708.symm (Nat.le_of_ble_eq_true rfl) rfl ?_
                                    refine G_goto 210 dr_cX17_graph_240 (by decide +kernel) ?_
                                    have hT325709 : RS D I P269172 F325690 γ el := RS_set hT325598 n325692 ht325679 (by decide) ⟨f325693, he325704, wf325693⟩
                                    exact ih210_325601 F325690 z325708 (gB_w bz325708 (by decide) (by decide)) hT325709 hs325705 (by rw [kp325707]; exact x325600) kp325706 (mz_up ez325708 (Int.le_trans bg325596'.2 (by decide)) hm210_325601)
                              exact hlp210_325601 (((33 : Int) - 0).toNat + 1) F324676 0 (gB_w (gBl (show Int32.toInt 0 = 0 by decide)) (by decide) (by decide)) hT324677 hs324686 gr324692 kp324687 (Nat.lt_succ_self _)
                            · have r325710 : 0 ≤ p324660.toInt := gj_nlt hc325483 (show Int32.toInt 0 = 0 by decide)
                              have bp324660' : gB p324660 0 2147483647 := ⟨by omega, by omega⟩
                              refine G_aload_n 6 dr_cX17_graph_185 rfl ?_
                              refine Gp_get 1 hm324618 he324688 dr_cX17_graph_186 (gk_X17 D I) (Nat.le_of_ble_eq_true rfl) wr_7_75 rfl ?_
                              refine G_iload 1 dr_cX17_graph_189 rfl ?_
                              have hm325711 : (γ 9 1) ∈ P269172 := RS_m hT324677 ht269201 (by decide)
                              obtain ⟨f325713, he325712, hg325714⟩ := show rk_13 I γ (F324676 (γ 9 1)) from RS_o hT324677 ht269201
                              obtain ⟨q325715, hx325717⟩ : ∃ x, x = γ 11 o324698.toInt.toNat := ⟨_, rfl⟩
                              have ht325716 : rKd γ q325715 36 := by rw [hx325717]; exact (hg325714 _ (show o324698.toInt.toNat < 2000 by omega)).2.1
                              refine Gp_aald 5 hm325711 he325712 dr_cX17_graph_191 rfl rfl (gB_in bo324698' (by decide) (by decide)) ?_
                              rw [show f325713 o324698.toNatClampNeg = some q325715 from (hg325714 _ (show o324698.toInt.toNat < 2000 by omega)).1.trans (by rw [hx325717])]
                              change G _ _ _ _ _ _ _ (.ref q325715 :: _) _ _ _
                              refine G_iload 0 dr_cX17_graph_192 rfl ?_
                              have hm325718 : q325715 ∈ P269172 := RS_m hT324677 ht325716 (by decide)
                              obtain ⟨f325720, he325719, wf325720⟩ := show rk_36 I (F324676 q325715) from RS_o hT324677 ht325716
                              refine Gw_callS (As := [.ref q325715, .int p324660]) (gV_ok D I) (cp_1838_SpillForgeModel_has l hl0 D I P269172 F324676 q325715 p324660 f325720 hm325718 he325719 ⟨by omega, by omega⟩) dr_cX17_graph_194 ⟨wr_10_203, wr_1_14, wr_10_205, by decide, rfl, (Nat.le_of_ble_eq_true rfl), (Nat.le_of_ble_eq_true rfl)⟩ wr_10_204 (show 0 + 0 ≤ 0 by first | omega | decide) (show 0 + 0 ≤ 0 by first | omega | decide) (Nat.le_of_ble_eq_true rfl) (fun r325724 w325725 dc325721 ds325722 hp325723 => ?_) (fun _ _ _ _ _ z => z.elim)
                              rcases hp325723 with ⟨z325726, z325727, rfl, rfl, hdc, hds, r325728, r325729, r325730, r325731⟩ | ⟨z325732, z325733, rfl, rfl, hdc, hds, r325734, r325735, r325736, r325737⟩
                              · change G _ _ _ _ _ _ _ (.int 0 :: _) _ _ _
                                refine G_widen (cs' := 0) (sl' := 0) (by omega) (by omega) ?_
                                refine G_if_eq 204 dr_cX17_graph_197 (by decide +kernel) (fun _ => ?_) (fun hc => absurd hc (by decide))
                                refine G_iconst 0 dr_cX17_graph_204 (by decide +kernel) ?_
                                refine G_istore (L' := [(9, .int 0), (8, .int p324660), (7, .int o324698), (6, .ref q324645), (5, .int g324602), (4, .ref q322855), (3, .int g322192), (0, .ref q269174), (1, .ref q269175), (2, .int p269176)]) dr_cX17_graph_205 (Nat.le_of_ble_eq_true rfl) rfl ?_
                                refine G_iconst 0 dr_cX17_graph_207 (by decide +kernel) ?_
                                refine G_istore (L' := [(10, .int 0), (9, .int 0), (8, .int p324660), (7, .int o324698), (6, .ref q324645), (5, .int g324602), (4, .ref q322855), (3, .int g322192), (0, .ref q269174), (1, .ref q269175), (2, .int p269176)]) dr_cX17_graph_208 (Nat.le_of_ble_eq_true rfl) rfl ?_
                                have hlp210_325886 : ∀ (n210_325886 : Nat) (F325882 : Nat → va_E) (g325881 : Int32), gB g325881 0 32 → RS D I P269172 F325882 γ el → rStr γ [] F269173 F325882 → (gIp (p269176.toInt = 0) (rGr γ el F269173 q269175 (γ 6 (γ 1 q269175)) (cB (F325882 (γ 9 3))) (vB (g322192.toInt : Int).toNat (g324602.toInt : Int).toNat))) → (F325882 q269174 = F269173 q269174) → ((33 : Int) - g325881.toInt).toNat < n210_325886 → G (gV D I) l (gRm 5 111 0 0) (gMA (gV D I) (pt_269178_SpillForgeModel_graph D I γ el P269172 F269173 q269174 q269175 p269176) gNA 0 0) ky_269178_SpillForgeModel_graph 210 [(10, .int g325881), (9, .int 0), (8, .int p324660), (7, .int o324698), (6, .ref q324645), (5, .int g324602), (4, .ref q322855), (3, .int g322192), (0, .ref q269174), (1, .ref q269175), (2, .int p269176)] [] (va_pl P269172 F325882) 0 0 := by
                                  intro n210_325886
                                  induction n210_325886 with
                                  | zero => intro F325882 g325881 bg325881 hT325883 hs325884 x325885 x325886 hm210_325886; exact absurd hm210_325886 (Nat.not_lt_zero _)
                                  | succ n210_325886 ih210_325886 =>
                                    intro F325882 g325881 bg325881 hT325883 hs325884 x325885 x325886 hm210_325886
                                    have hs325888 : rStr γ [] F324676 F325882 := fun b h0 hb hw => (hs325884 b h0 hb hw).trans (hs324686 b h0 hb hw).symm
                                    have he325889 : F325882 q269175 = .inr (18, [.ref q322205, .ref q322206, .int p322207, .int p322208]) := (hs325888 q269175 (rT0 htq269175 (by decide)) (rT1 htq269175 (by decide)) (rT2 htq269175 (by decide))).trans he324679
                                    have he325890 : F325882 q322205 = .inr (4, [.int p322836, .ref q322838, .int p322837]) := (hs325888 q322205 (rT0 ht322209 (by decide)) (rT1 ht322209 (by decide)) (rT2 ht322209 (by decide))).trans he324680
                                    have he325891 : F325882 q322838 = .inl (I (.object "java/lang/Object"), n322852, .inr (.inr (.inr (.inr f322853)))) := (hs325888 q322838 (rT0 r322844 (by decide)) (rT1 r322844 (by decide)) (rT2 r322844 (by decide))).trans he324681
                                    have he325892 : F325882 q322855 = .inr (17, [.ref q322864, .ref q322865, .int p322866, .int p322867]) := (hs325888 q322855 (rT0 ht322860 (by decide)) (rT1 ht322860 (by decide)) (rT2 ht322860 (by decide))).trans he324682
                                    have he325893 : F325882 q322864 = .inr (4, [.int p324626, .ref q324628, .int p324627]) := (hs325888 q322864 (rT0 ht322868 (by decide)) (rT1 ht322868 (by decide)) (rT2 ht322868 (by decide))).trans he324683
                                    have he325894 : F325882 q324628 = .inl (I (.object "java/lang/Object"), n324642, .inr (.inr (.inr (.inr f324643)))) := (hs325888 q324628 (rT0 r324634 (by decide)) (rT1 r324634 (by decide)) (rT2 r324634 (by decide))).trans he324684
                                    have he325895 : F325882 q324645 = .inr (20, [.int p324658, .int p324659, .int p324660, .int p324661, .int p324662, .int p324663, .int p324664]) := (hs325888 q324645 (rT0 ht324648 (by decide)) (rT1 ht324648 (by decide)) (rT2 ht324648 (by decide))).trans he324685
                                    have hs325896 : rStr γ [] F269173 F325882 := rStr_tr hs324686 hs325888
                                    have he325897 : F325882 q269174 = .inr (22, [.ref (γ 9 0), .ref (γ 9 1), .ref (γ 9 2), .ref (γ 9 3), .ref (γ 9 4), .ref (γ 9 5), .ref (γ 9 6), .ref (γ 9 7), .ref (γ 9 8), .int p269183, .int p269184, .int p269185, .int p269186, .int p269187, .int p269188, .ref (γ 9 15), .ref (γ 9 16), .ref (γ 9 17), .ref (γ 9 18), .ref (γ 9 19), .ref (γ 9 20), .ref (γ 9 21), .ref (γ 9 22), .int p269189, .int p269190, .int p269191, .int p269192, .int p269193, .ref q269181, .ref (γ 9 29), .int p269194, .ref (γ 9 31), .int p269195, .int p269196, .int p269197, .ref q269182]) := x325886.trans he269180
                                    have hm325898 : q269174 ∈ P269172 := RS_m hT325883 htq269174 (by decide)
                                    refine G_iload 0 dr_cX17_graph_210 rfl ?_
                                    refine G_bipush 32 dr_cX17_graph_212 (by decide +kernel) ?_
                                    refine G_icmp_ge 243 dr_cX17_graph_214 (by decide +kernel) (fun hc325899 => ?_) (fun hc325899 => ?_)
                                    · have r325900 : 32 ≤ g325881.toInt := gj_leL hc325899 (show Int32.toInt 32 = 32 by decide)
                                      have bg325881' : gB g325881 32 32 := ⟨by omega, by omega⟩
                                      refine G_iload 2 dr_cX17_graph_243 rfl ?_
                                      refine G_if_lt 265 dr_cX17_graph_245 (by decide +kernel) (fun hc => absurd (show False by have := gj_lt hc (show Int32.toInt 0 = 0 by decide); omega) not_false) (fun _ => ?_)
                                      refine G_iload 1 dr_cX17_graph_248 rfl ?_
                                      refine G_if_ne 265 dr_cX17_graph_250 (by decide +kernel) (fun hc => absurd hc (by decide)) (fun _ => ?_)
                                      refine G_aload_n 8 dr_cX17_graph_253 rfl ?_
                                      refine Gp_get 1 hm325898 he325897 dr_cX17_graph_254 (gk_X17 D I) (Nat.le_of_ble_eq_true rfl) wr_7_75 rfl ?_
                                      refine G_iload 3 dr_cX17_graph_257 rfl ?_
                                      have hm325901 : (γ 9 1) ∈ P269172 := RS_m hT325883 ht269201 (by decide)
                                      obtain ⟨f325903, he325902, hg325904⟩ := show rk_13 I γ (F325882 (γ 9 1)) from RS_o hT325883 ht269201
                                      obtain ⟨q325905, hx325907⟩ : ∃ x, x = γ 11 o324698.toInt.toNat := ⟨_, rfl⟩
                                      have ht325906 : rKd γ q325905 36 := by rw [hx325907]; exact (hg325904 _ (show o324698.toInt.toNat < 2000 by omega)).2.1
                                      refine Gp_aald 5 hm325901 he325902 dr_cX17_graph_259 rfl rfl (gB_in bo324698' (by decide) (by decide)) ?_
                                      rw [show f325903 o324698.toNatClampNeg = some q325905 from (hg325904 _ (show o324698.toInt.toNat < 2000 by omega)).1.trans (by rw [hx325907])]
                                      change G _ _ _ _ _ _ _ (.ref q325905 :: _) _ _ _
                                      refine G_iload 2 dr_cX17_graph_260 rfl ?_
                                      have hm325908 : q325905 ∈ P269172 := RS_m hT325883 ht325906 (by decide)
                                      obtain ⟨f325910, he325909, wf325910⟩ := show rk_36 I (F325882 q325905) from RS_o hT325883 ht325906
                                      refine Gw_callS (As := [.ref q325905, .int p324660]) (gV_ok D I) (cp_1873_SpillForgeModel_clear l hl0 D I P269172 F325882 q325905 p324660 f325910 hm325908 he325909 ⟨by omega, by omega⟩ wf325910) dr_cX17_graph_262 ⟨wr_10_185, wr_1_14, wr_10_187, by decide, rfl, (Nat.le_of_ble_eq_true rfl), (Nat.le_of_ble_eq_true rfl)⟩ wr_10_186 (show 0 + 0 ≤ 0 by first | omega | decide) (show 0 + 0 ≤ 0 by first | omega | decide) (Nat.le_of_ble_eq_true rfl) (fun r325914 w325915 dc325911 ds325912 hp325913 => ?_) (fun _ _ _ _ _ z => z.elim)
                                      obtain ⟨F325918, f325916, rfl, rfl, hfr325920, he325921, hdc, hds, x325917⟩ := hp325913
                                      have he325922 : F325918 q269175 = .inr (18, [.ref q322205, .ref q322206, .int p322207, .int p322208]) := (hfr325920 q269175 hm322203 (nm_c (rn_oa he325889 he325909) nm_n)).trans he325889
                                      have he325923 : F325918 q322205 = .inr (4, [.int p322836, .ref q322838, .int p322837]) := (hfr325920 q322205 hm322834 (nm_c (rn_oa he325890 he325909) nm_n)).trans he325890
                                      have he325924 : F325918 q322838 = .inl (I (.object "java/lang/Object"), n322852, .inr (.inr (.inr (.inr f322853)))) := (hfr325920 q322838 hm322854 (nm_c (rn_ref_long he325891 he325909) nm_n)).trans he325891
                                      have he325925 : F325918 q322855 = .inr (17, [.ref q322864, .ref q322865, .int p322866, .int p322867]) := (hfr325920 q322855 hm322862 (nm_c (rn_oa he325892 he325909) nm_n)).trans he325892
                                      have he325926 : F325918 q322864 = .inr (4, [.int p324626, .ref q324628, .int p324627]) := (hfr325920 q322864 hm324624 (nm_c (rn_oa he325893 he325909) nm_n)).trans he325893
                                      have he325927 : F325918 q324628 = .inl (I (.object "java/lang/Object"), n324642, .inr (.inr (.inr (.inr f324643)))) := (hfr325920 q324628 hm324644 (nm_c (rn_ref_long he325894 he325909) nm_n)).trans he325894
                                      have he325928 : F325918 q324645 = .inr (20, [.int p324658, .int p324659, .int p324660, .int p324661, .int p324662, .int p324663, .int p324664]) := (hfr325920 q324645 hm324656 (nm_c (rn_oa he325895 he325909) nm_n)).trans he325895
                                      have he325929 : F325918 q269174 = .inr (22, [.ref (γ 9 0), .ref (γ 9 1), .ref (γ 9 2), .ref (γ 9 3), .ref (γ 9 4), .ref (γ 9 5), .ref (γ 9 6), .ref (γ 9 7), .ref (γ 9 8), .int p269183, .int p269184, .int p269185, .int p269186, .int p269187, .int p269188, .ref (γ 9 15), .ref (γ 9 16), .ref (γ 9 17), .ref (γ 9 18), .ref (γ 9 19), .ref (γ 9 20), .ref (γ 9 21), .ref (γ 9 22), .int p269189, .int p269190, .int p269191, .int p269192, .int p269193, .ref q269181, .ref (γ 9 29), .int p269194, .ref (γ 9 31), .int p269195, .int p269196, .int p269197, .ref q269182]) := (hfr325920 q269174 hm325898 (nm_c (rn_oa he325897 he325909) nm_n)).trans he325897
                                      have he325930 : F325918 (γ 9 1) = .inl (I (.array .long), 2000, .inr (.inr (.inr (.inr f325903)))) := (hfr325920 (γ 9 1) hm325901 (nm_c (rn_ref_long he325902 he325909) nm_n)).trans he325902
                                      have hfr325931 : rFr [q325905] P269172 F325882 F325918 := rFr_call (rSub_rf (P := P269172)) (rFr_rf (W := []) (P := P269172) (F := F325882)) hfr325920 (fun b hb hn => ⟨nm_n, (nm_c (fun e => hn (e ▸ List.mem_cons_self)) nm_n)⟩)
                                      change G _ _ _ _ _ _ _ _ _ _ _
                                      refine G_widen (cs' := 0) (sl' := 0) (by omega) (by omega) ?_
                                      have hT325932 : RS D I P269172 F325918 γ el := RS_fr hT325883 hfr325931 ht325906 (by decide) ⟨f325916, he325921, x325917⟩
                                      have hs325933 : rStr γ [] F269173 F325918 := rStr_fr hT325883 hs325884 hfr325931 ht325906 (by decide)
                                      have kp325934 : F325918 q269174 = F269173 q269174 := (hfr325931 q269174 (RS_m hT325883 htq269174 (by decide)) (nm_c (rn_ty htq269174 ht325906 (by decide)) nm_n)).trans x325886
                                      have kp325935 : F325918 (γ 9 3) = F325882 (γ 9 3) := hfr325931 (γ 9 3) (RS_m hT325883 ht269203 (by decide)) (nm_c (rn_ty ht269203 ht325906 (by decide)) nm_n)
                                      refine G_aload_n 8 dr_cX17_graph_265 rfl ?_
                                      refine Gp_get 1 hm325898 he325929 dr_cX17_graph_266 (gk_X17 D I) (Nat.le_of_ble_eq_true rfl) wr_7_75 rfl ?_
                                      refine G_iload 3 dr_cX17_graph_269 rfl ?_
                                      obtain ⟨q325936, hx325938⟩ : ∃ x, x = γ 11 o324698.toInt.toNat := ⟨_, rfl⟩
                                      have ht325937 : rKd γ q325936 36 := by rw [hx325938]; exact (hg325904 _ (show o324698.toInt.toNat < 2000 by omega)).2.1
                                      refine Gp_aald 5 hm325901 he325930 dr_cX17_graph_271 rfl rfl (gB_in bo324698' (by decide) (by decide)) ?_
                                      rw [show f325903 o324698.toNatClampNeg = some q325936 from (hg325904 _ (show o324698.toInt.toNat < 2000 by omega)).1.trans (by rw [hx325938])]
                                      change G _ _ _ _ _ _ _ (.ref q325936 :: _) _ _ _
                                      refine G_iload 3 dr_cX17_graph_272 rfl ?_
                                      have hm325939 : q325936 ∈ P269172 := RS_m hT325932 ht325937 (by decide)
                                      obtain ⟨f325941, he325940, wf325941⟩ := show rk_36 I (F325918 q325936) from RS_o hT325932 ht325937
                                      refine Gw_callS (As := [.ref q325936, .int o324698]) (gV_ok D I) (cp_1873_SpillForgeModel_clear l hl0 D I P269172 F325918 q325936 o324698 f325941 hm325939 he325940 bo324698' wf325941) dr_cX17_graph_274 ⟨wr_10_185, wr_1_14, wr_10_187, by decide, rfl, (Nat.le_of_ble_eq_true rfl), (Nat.le_of_ble_eq_true rfl)⟩ wr_10_186 (show 0 + 0 ≤ 0 by first | omega | decide) (show 0 + 0 ≤ 0 by first | omega | decide) (Nat.le_of_ble_eq_true rfl) (fun r325945 w325946 dc325942 ds325943 hp325944 => ?_) (fun _ _ _ _ _ z => z.elim)
                                      obtain ⟨F325949, f325947, rfl, rfl, hfr325951, he325952, hdc, hds, x325948⟩ := hp325944
                                      have he325953 : F325949 q269175 = .inr (18, [.ref q322205, .ref q322206, .int p322207, .int p322208]) := (hfr325951 q269175 hm322203 (nm_c (rn_oa he325922 he325940) nm_n)).trans he325922
                                      have he325954 : F325949 q322205 = .inr (4, [.int p322836, .ref q322838, .int p322837]) := (hfr325951 q322205 hm322834 (nm_c (rn_oa he325923 he325940) nm_n)).trans he325923
                                      have he325955 : F325949 q322838 = .inl (I (.object "java/lang/Object"), n322852, .inr (.inr (.inr (.inr f322853)))) := (hfr325951 q322838 hm322854 (nm_c (rn_ref_long he325924 he325940) nm_n)).trans he325924
                                      have he325956 : F325949 q322855 = .inr (17, [.ref q322864, .ref q322865, .int p322866, .int p322867]) := (hfr325951 q322855 hm322862 (nm_c (rn_oa he325925 he325940) nm_n)).trans he325925
                                      have he325957 : F325949 q322864 = .inr (4, [.int p324626, .ref q324628, .int p324627]) := (hfr325951 q322864 hm324624 (nm_c (rn_oa he325926 he325940) nm_n)).trans he325926
                                      have he325958 : F325949 q324628 = .inl (I (.object "java/lang/Object"), n324642, .inr (.inr (.inr (.inr f324643)))) := (hfr325951 q324628 hm324644 (nm_c (rn_ref_long he325927 he325940) nm_n)).trans he325927
                                      have he325959 : F325949 q324645 = .inr (20, [.int p324658, .int p324659, .int p324660, .int p324661, .int p324662, .int p324663, .int p324664]) := (hfr325951 q324645 hm324656 (nm_c (rn_oa he325928 he325940) nm_n)).trans he325928
                                      have he325960 : F325949 q269174 = .inr (22, [.ref (γ 9 0), .ref (γ 9 1), .ref (γ 9 2), .ref (γ 9 3), .ref (γ 9 4), .ref (γ 9 5), .ref (γ 9 6), .ref (γ 9 7), .ref (γ 9 8), .int p269183, .int p269184, .int p269185, .int p269186, .int p269187, .int p269188, .ref (γ 9 15), .ref (γ 9 16), .ref (γ 9 17), .ref (γ 9 18), .ref (γ 9 19), .ref (γ 9 20), .ref (γ 9 21), .ref (γ 9 22), .int p269189, .int p269190, .int p269191, .int p269192, .int p269193, .ref q269181, .ref (γ 9 29), .int p269194, .ref (γ 9 31), .int p269195, .int p269196, .int p269197, .ref q269182]) := (hfr325951 q269174 hm325898 (nm_c (rn_oa he325929 he325940) nm_n)).trans he325929
                                      have he325961 : F325949 (γ 9 1) = .inl (I (.array .long), 2000, .inr (.inr (.inr (.inr f325903)))) := (hfr325951 (γ 9 1) hm325901 (nm_c (rn_ref_long he325930 he325940) nm_n)).trans he325930
                                      have hfr325962 : rFr [q325936] P269172 F325918 F325949 := rFr_call (rSub_rf (P := P269172)) (rFr_rf (W := []) (P := P269172) (F := F325918)) hfr325951 (fun b hb hn => ⟨nm_n, (nm_c (fun e => hn (e ▸ List.mem_cons_self)) nm_n)⟩)
                                      change G _ _ _ _ _ _ _ _ _ _ _
                                      refine G_widen (cs' := 0) (sl' := 0) (by omega) (by omega) ?_
                                      have hT325963 : RS D I P269172 F325949 γ el := RS_fr hT325932 hfr325962 ht325937 (by decide) ⟨f325947, he325952, x325948⟩
                                      have hs325964 : rStr γ [] F269173 F325949 := rStr_fr hT325932 hs325933 hfr325962 ht325937 (by decide)
                                      have kp325965 : F325949 q269174 = F269173 q269174 := (hfr325962 q269174 (RS_m hT325932 htq269174 (by decide)) (nm_c (rn_ty htq269174 ht325937 (by decide)) nm_n)).trans kp325934
                                      have kp325966 : F325949 (γ 9 3) = F325882 (γ 9 3) := (hfr325962 (γ 9 3) (RS_m hT325932 ht269203 (by decide)) (nm_c (rn_ty ht269203 ht325937 (by decide)) nm_n)).trans kp325935
                                      refine G_aload_n 8 dr_cX17_graph_277 rfl ?_
                                      refine G_aload 4 dr_cX17_graph_278 rfl ?_
                                      refine G_iload_n 10 dr_cX17_graph_280 rfl ?_
                                      refine Gw_callV (As := [.ref q324645, .int p269176]) (gV_ok D I) (ct_275878_SpillForgeModel_back l hl0 D I γ el P269172 F325949 q269174 q324645 p269176 hT325963 htq269174 ht324648 (gB_w bp269176' (by decide) (by decide))) dr_cX17_graph_281 ⟨wr_10_174, wr_1_14, wr_10_177, by decide, rfl, (Nat.le_of_ble_eq_true rfl), (Nat.le_of_ble_eq_true rfl)⟩ wr_10_176 wr_p_96 hm325898 he325960 rfl (show 0 + 0 ≤ 0 by first | omega | decide) (show 0 + 0 ≤ 0 by first | omega | decide) (Nat.le_of_ble_eq_true rfl) (fun r325970 w325971 dc325967 ds325968 hp325969 => ?_) (fun _ _ _ _ _ z => z.elim)
                                      obtain ⟨F325974, rfl, rfl, hT325975, hs325976, hdc, hds, x325972, x325973⟩ := hp325969
                                      have he325977 : F325974 q269175 = .inr (18, [.ref q322205, .ref q322206, .int p322207, .int p322208]) := (hs325976 q269175 (rT0 htq269175 (by decide)) (rT1 htq269175 (by decide)) (rT2 htq269175 (by decide))).trans he325953
                                      have he325978 : F325974 q322205 = .inr (4, [.int p322836, .ref q322838, .int p322837]) := (hs325976 q322205 (rT0 ht322209 (by decide)) (rT1 ht322209 (by decide)) (rT2 ht322209 (by decide))).trans he325954
                                      have he325979 : F325974 q322838 = .inl (I (.object "java/lang/Object"), n322852, .inr (.inr (.inr (.inr f322853)))) := (hs325976 q322838 (rT0 r322844 (by decide)) (rT1 r322844 (by decide)) (rT2 r322844 (by decide))).trans he325955
                                      have he325980 : F325974 q322855 = .inr (17, [.ref q322864, .ref q322865, .int p322866, .int p322867]) := (hs325976 q322855 (rT0 ht322860 (by decide)) (rT1 ht322860 (by decide)) (rT2 ht322860 (by decide))).trans he325956
                                      have he325981 : F325974 q322864 = .inr (4, [.int p324626, .ref q324628, .int p324627]) := (hs325976 q322864 (rT0 ht322868 (by decide)) (rT1 ht322868 (by decide)) (rT2 ht322868 (by decide))).trans he325957
                                      have he325982 : F325974 q324628 = .inl (I (.object "java/lang/Object"), n324642, .inr (.inr (.inr (.inr f324643)))) := (hs325976 q324628 (rT0 r324634 (by decide)) (rT1 r324634 (by decide)) (rT2 r324634 (by decide))).trans he325958
                                      have he325983 : F325974 q324645 = .inr (20, [.int p324658, .int p324659, .int p324660, .int p324661, .int p324662, .int p324663, .int p324664]) := (hs325976 q324645 (rT0 ht324648 (by decide)) (rT1 ht324648 (by decide)) (rT2 ht324648 (by decide))).trans he325959
                                      have hs325984 : rStr γ [] F269173 F325974 := rStr_tr hs325964 hs325976
                                      have kp325985 : F325974 q269174 = F269173 q269174 := (x325972).trans kp325965
                                      have kp325986 : F325974 (γ 9 3) = F325882 (γ 9 3) := (x325973).trans kp325966
                                      have he325987 : F325974 q269174 = .inr (22, [.ref (γ 9 0), .ref (γ 9 1), .ref (γ 9 2), .ref (γ 9 3), .ref (γ 9 4), .ref (γ 9 5), .ref (γ 9 6), .ref (γ 9 7), .ref (γ 9 8), .int p269183, .int p269184, .int p269185, .int p269186, .int p269187, .int p269188, .ref (γ 9 15), .ref (γ 9 16), .ref (γ 9 17), .ref (γ 9 18), .ref (γ 9 19), .ref (γ 9 20), .ref (γ 9 21), .ref (γ 9 22), .int p269189, .int p269190, .int p269191, .int p269192, .int p269193, .ref q269181, .ref (γ 9 29), .int p269194, .ref (γ 9 31), .int p269195, .int p269196, .int p269197, .ref q269182]) := (x325972).trans he325960
                                      change G _ _ _ _ _ _ _ _ _ _ _
                                      refine G_widen (cs' := 0) (sl' := 0) (by omega) (by omega) ?_
                                      obtain ⟨z325988, hz325988⟩ : ∃ z : Int32, z = g324602 + Int32.ofInt (-1) := ⟨_, rfl⟩
                                      have ez325988 : z325988.toInt = g324602.toInt + (-1) := gI_inc hz325988 (by decide) bg324602' (by decide) (by decide)
                                      have bz325988 : gB z325988 (-1) 999998 := ⟨by omega, by omega⟩
                                      refine G_iinc (L' := [(5, .int z325988), (10, .int g325881), (9, .int 0), (8, .int p324660), (7, .int o324698), (6, .ref q324645), (4, .ref q322855), (3, .int g322192), (0, .ref q269174), (1, .ref q269175), (2, .int p269176)]) z325988 5 dr_cX17_graph_284 rfl hz325988.symm (Nat.le_of_ble_eq_true rfl) rfl ?_
                                      refine G_goto 109 dr_cX17_graph_287 (by decide +kernel) ?_
                                      refine G_lv (L' := [(5, .int z325988), (4, .ref q322855), (3, .int g322192), (0, .ref q269174), (1, .ref q269175), (2, .int p269176)]) [0, 6, 7, 8, 9, 10] rfl ?_
                                      exact ih109_324608 F325974 z325988 (gB_w bz325988 (by decide) (by decide)) hT325975 hs325984 (by omega) (fun h0 => by have z := x325885 h0; rw [← kp325986] at z; rw [show ((g324602.toInt : Int).toNat : Nat) = (z325988.toInt + 1 : Int).toNat by omega] at z; exact z) kp325985 (mz_dn ez325988 (Int.le_trans (by decide) bg324602'.1) hm109_324608)
                                    · have r325989 : g325881.toInt < 32 := gj_nleL hc325899 (show Int32.toInt 32 = 32 by decide)
                                      have bg325881' : gB g325881 0 31 := ⟨by omega, by omega⟩
                                      refine G_aload_n 8 dr_cX17_graph_217 rfl ?_
                                      refine Gp_get 1 hm325898 he325897 dr_cX17_graph_218 (gk_X17 D I) (Nat.le_of_ble_eq_true rfl) wr_7_75 rfl ?_
                                      refine G_iload 3 dr_cX17_graph_221 rfl ?_
                                      have hm325990 : (γ 9 1) ∈ P269172 := RS_m hT325883 ht269201 (by decide)
                                      obtain ⟨f325992, he325991, hg325993⟩ := show rk_13 I γ (F325882 (γ 9 1)) from RS_o hT325883 ht269201
                                      obtain ⟨q325994, hx325996⟩ : ∃ x, x = γ 11 o324698.toInt.toNat := ⟨_, rfl⟩
                                      have ht325995 : rKd γ q325994 36 := by rw [hx325996]; exact (hg325993 _ (show o324698.toInt.toNat < 2000 by omega)).2.1
                                      refine Gp_aald 5 hm325990 he325991 dr_cX17_graph_223 rfl rfl (gB_in bo324698' (by decide) (by decide)) ?_
                                      rw [show f325992 o324698.toNatClampNeg = some q325994 from (hg325993 _ (show o324698.toInt.toNat < 2000 by omega)).1.trans (by rw [hx325996])]
                                      change G _ _ _ _ _ _ _ (.ref q325994 :: _) _ _ _
                                      refine G_iload 0 dr_cX17_graph_224 rfl ?_
                                      refine G_dup2_11 dr_cX17_graph_226 rfl rfl ?_
                                      have hm325997 : q325994 ∈ P269172 := RS_m hT325883 ht325995 (by decide)
                                      obtain ⟨f325999, he325998, wf325999⟩ := show rk_36 I (F325882 q325994) from RS_o hT325883 ht325995
                                      refine Gp_lald 2 hm325997 he325998 dr_cX17_graph_227 rfl (gB_in bg325881' (by decide) (by decide)) (G_namL fun u326000 hu326000 => ?_)
                                      have qu326000 : lb_Q u326000 (2000 - 64 * g325881.toInt) := lb_Wld hu326000 wf325999 (by omega) (by omega) (lb_Mod0 (by omega) (by omega))
                                      refine G_aload_n 8 dr_cX17_graph_228 rfl ?_
                                      refine Gp_get 2 hm325898 he325897 dr_cX17_graph_229 (gk_X17 D I) (Nat.le_of_ble_eq_true rfl) wr_7_76 rfl ?_
                                      refine G_iload 0 dr_cX17_graph_232 rfl ?_
                                      have hm326001 : (γ 9 2) ∈ P269172 := RS_m hT325883 ht269202 (by decide)
                                      obtain ⟨f326003, he326002, wf326003⟩ := show rk_35 I (F325882 (γ 9 2)) from RS_o hT325883 ht269202
                                      refine Gp_lald 2 hm326001 he326002 dr_cX17_graph_234 rfl (gB_in bg325881' (by decide) (by decide)) (G_namL fun u326004 hu326004 => ?_)
                                      have qu326004 : lb_Q u326004 (2000 - 64 * g325881.toInt) := lb_Wld hu326004 wf326003 (by omega) (by omega) (lb_Mod0 (by omega) (by omega))
                                      refine G_lor dr_cX17_graph_235 (G_namL fun u326005 hu326005 => ?_)
                                      have qu326005 : lb_Q u326005 (2000 - 64 * g325881.toInt) := lb_Qor hu326005 qu326000 qu326004
                                      refine Gp_last 2 hm325997 he325998 dr_cX17_graph_236 rfl (gB_in bg325881' (by decide) (by decide)) (fun F326006 e326007 n326008 => ?_)
                                      obtain ⟨f326009, hf326009⟩ : ∃ z, z = vp_updL f325999 g325881.toNatClampNeg u326005 := ⟨_, rfl⟩
                                      rw [← hf326009] at e326007
                                      have he326010 : F326006 q269175 = .inr (18, [.ref q322205, .ref q322206, .int p322207, .int p322208]) := (n326008 q269175 (rn_oa he325889 he325998)).trans he325889
                                      have he326011 : F326006 q322205 = .inr (4, [.int p322836, .ref q322838, .int p322837]) := (n326008 q322205 (rn_oa he325890 he325998)).trans he325890
                                      have he326012 : F326006 q322838 = .inl (I (.object "java/lang/Object"), n322852, .inr (.inr (.inr (.inr f322853)))) := (n326008 q322838 (rn_ref_long he325891 he325998)).trans he325891
                                      have he326013 : F326006 q322855 = .inr (17, [.ref q322864, .ref q322865, .int p322866, .int p322867]) := (n326008 q322855 (rn_oa he325892 he325998)).trans he325892
                                      have he326014 : F326006 q322864 = .inr (4, [.int p324626, .ref q324628, .int p324627]) := (n326008 q322864 (rn_oa he325893 he325998)).trans he325893
                                      have he326015 : F326006 q324628 = .inl (I (.object "java/lang/Object"), n324642, .inr (.inr (.inr (.inr f324643)))) := (n326008 q324628 (rn_ref_long he325894 he325998)).trans he325894
                                      have he326016 : F326006 q324645 = .inr (20, [.int p324658, .int p324659, .int p324660, .int p324661, .int p324662, .int p324663, .int p324664]) := (n326008 q324645 (rn_oa he325895 he325998)).trans he325895
                                      have he326017 : F326006 q269174 = .inr (22, [.ref (γ 9 0), .ref (γ 9 1), .ref (γ 9 2), .ref (γ 9 3), .ref (γ 9 4), .ref (γ 9 5), .ref (γ 9 6), .ref (γ 9 7), .ref (γ 9 8), .int p269183, .int p269184, .int p269185, .int p269186, .int p269187, .int p269188, .ref (γ 9 15), .ref (γ 9 16), .ref (γ 9 17), .ref (γ 9 18), .ref (γ 9 19), .ref (γ 9 20), .ref (γ 9 21), .ref (γ 9 22), .int p269189, .int p269190, .int p269191, .int p269192, .int p269193, .ref q269181, .ref (γ 9 29), .int p269194, .ref (γ 9 31), .int p269195, .int p269196, .int p269197, .ref q269182]) := (n326008 q269174 (rn_oa he325897 he325998)).trans he325897
                                      have he326018 : F326006 (γ 9 1) = .inl (I (.array .long), 2000, .inr (.inr (.inr (.inr f325992)))) := (n326008 (γ 9 1) (rn_ref_long he325991 he325998)).trans he325991
                                      have he326019 : F326006 (γ 9 2) = .inl (I .long, 32, .inr (.inl f326003)) := (n326008 (γ 9 2) (rn_ty ht269202 ht325995 (by decide))).trans he326002
                                      have he326020 : F326006 q325994 = .inl (I .long, 32, .inr (.inl f326009)) := e326007
                                      have hs326021 : rStr γ [] F269173 F326006 := rStr_put hs325884 n326008 ht325995 (by decide)
                                      have kp326022 : F326006 q269174 = F269173 q269174 := (n326008 q269174 (rn_ty htq269174 ht325995 (by decide))).trans x325886
                                      have kp326023 : F326006 (γ 9 3) = F325882 (γ 9 3) := n326008 (γ 9 3) (rn_ty ht269203 ht325995 (by decide))
                                      have wf326009 : lb_W f326009 (32) (32) (2000) := lb_Wst hf326009 wf325999 (by omega) (lb_Mod0 (by omega) (by omega)) qu326005
                                      obtain ⟨z326024, hz326024⟩ : ∃ z : Int32, z = g325881 + Int32.ofInt 1 := ⟨_, rfl⟩
                                      have ez326024 : z326024.toInt = g325881.toInt + 1 := gI_inc hz326024 (by decide) bg325881' (by decide) (by decide)
                                      have bz326024 : gB z326024 1 32 := ⟨by omega, by omega⟩
                                      refine G_iinc (L' := [(10, .int z326024), (9, .int 0), (8, .int p324660), (7, .int o324698), (6, .ref q324645), (5, .int g324602), (4, .ref q322855), (3, .int g322192), (0, .ref q269174), (1, .ref q269175), (2, .int p269176)]) z326024 0 dr_cX17_graph_237 rfl hz326024.symm (Nat.le_of_ble_eq_true rfl) rfl ?_
                                      refine G_goto 210 dr_cX17_graph_240 (by decide +kernel) ?_
                                      have hT326025 : RS D I P269172 F326006 γ el := RS_set hT325883 n326008 ht325995 (by decide) ⟨f326009, he326020, wf326009⟩
                                      exact ih210_325886 F326006 z326024 (gB_w bz326024 (by decide) (by decide)) hT326025 hs326021 (by rw [kp326023]; exact x325885) kp326022 (mz_up ez326024 (Int.le_trans bg325881'.2 (by decide)) hm210_325886)
                                exact hlp210_325886 (((33 : Int) - 0).toNat + 1) F324676 0 (gB_w (gBl (show Int32.toInt 0 = 0 by decide)) (by decide) (by decide)) hT324677 hs324686 gr324692 kp324687 (Nat.lt_succ_self _)
                              · change G _ _ _ _ _ _ _ (.int 1 :: _) _ _ _
                                refine G_widen (cs' := 0) (sl' := 0) (by omega) (by omega) ?_
                                refine G_if_eq 204 dr_cX17_graph_197 (by decide +kernel) (fun hc => absurd hc (by decide)) (fun _ => ?_)
                                refine G_iconst 1 dr_cX17_graph_200 (by decide +kernel) ?_
                                refine G_goto 205 dr_cX17_graph_201 (by decide +kernel) ?_
                                refine G_istore (L' := [(9, .int 1), (8, .int p324660), (7, .int o324698), (6, .ref q324645), (5, .int g324602), (4, .ref q322855), (3, .int g322192), (0, .ref q269174), (1, .ref q269175), (2, .int p269176)]) dr_cX17_graph_205 (Nat.le_of_ble_eq_true rfl) rfl ?_
                                refine G_iconst 0 dr_cX17_graph_207 (by decide +kernel) ?_
                                refine G_istore (L' := [(10, .int 0), (9, .int 1), (8, .int p324660), (7, .int o324698), (6, .ref q324645), (5, .int g324602), (4, .ref q322855), (3, .int g322192), (0, .ref q269174), (1, .ref q269175), (2, .int p269176)]) dr_cX17_graph_208 (Nat.le_of_ble_eq_true rfl) rfl ?_
                                have hlp210_326142 : ∀ (n210_326142 : Nat) (F326138 : Nat → va_E) (g326137 : Int32), gB g326137 0 32 → RS D I P269172 F326138 γ el → rStr γ [] F269173 F326138 → (gIp (p269176.toInt = 0) (rGr γ el F269173 q269175 (γ 6 (γ 1 q269175)) (cB (F326138 (γ 9 3))) (vB (g322192.toInt : Int).toNat (g324602.toInt : Int).toNat))) → (F326138 q269174 = F269173 q269174) → ((33 : Int) - g326137.toInt).toNat < n210_326142 → G (gV D I) l (gRm 5 111 0 0) (gMA (gV D I) (pt_269178_SpillForgeModel_graph D I γ el P269172 F269173 q269174 q269175 p269176) gNA 0 0) ky_269178_SpillForgeModel_graph 210 [(10, .int g326137), (9, .int 1), (8, .int p324660), (7, .int o324698), (6, .ref q324645), (5, .int g324602), (4, .ref q322855), (3, .int g322192), (0, .ref q269174), (1, .ref q269175), (2, .int p269176)] [] (va_pl P269172 F326138) 0 0 := by
                                  intro n210_326142
                                  induction n210_326142 with
                                  | zero => intro F326138 g326137 bg326137 hT326139 hs326140 x326141 x326142 hm210_326142; exact absurd hm210_326142 (Nat.not_lt_zero _)
                                  | succ n210_326142 ih210_326142 =>
                                    intro F326138 g326137 bg326137 hT326139 hs326140 x326141 x326142 hm210_326142
                                    have hs326144 : rStr γ [] F324676 F326138 := fun b h0 hb hw => (hs326140 b h0 hb hw).trans (hs324686 b h0 hb hw).symm
                                    have he326145 : F326138 q269175 = .inr (18, [.ref q322205, .ref q322206, .int p322207, .int p322208]) := (hs326144 q269175 (rT0 htq269175 (by decide)) (rT1 htq269175 (by decide)) (rT2 htq269175 (by decide))).trans he324679
                                    have he326146 : F326138 q322205 = .inr (4, [.int p322836, .ref q322838, .int p322837]) := (hs326144 q322205 (rT0 ht322209 (by decide)) (rT1 ht322209 (by decide)) (rT2 ht322209 (by decide))).trans he324680
                                    have he326147 : F326138 q322838 = .inl (I (.object "java/lang/Object"), n322852, .inr (.inr (.inr (.inr f322853)))) := (hs326144 q322838 (rT0 r322844 (by decide)) (rT1 r322844 (by decide)) (rT2 r322844 (by decide))).trans he324681
                                    have he326148 : F326138 q322855 = .inr (17, [.ref q322864, .ref q322865, .int p322866, .int p322867]) := (hs326144 q322855 (rT0 ht322860 (by decide)) (rT1 ht322860 (by decide)) (rT2 ht322860 (by decide))).trans he324682
                                    have he326149 : F326138 q322864 = .inr (4, [.int p324626, .ref q324628, .int p324627]) := (hs326144 q322864 (rT0 ht322868 (by decide)) (rT1 ht322868 (by decide)) (rT2 ht322868 (by decide))).trans he324683
                                    have he326150 : F326138 q324628 = .inl (I (.object "java/lang/Object"), n324642, .inr (.inr (.inr (.inr f324643)))) := (hs326144 q324628 (rT0 r324634 (by decide)) (rT1 r324634 (by decide)) (rT2 r324634 (by decide))).trans he324684
                                    have he326151 : F326138 q324645 = .inr (20, [.int p324658, .int p324659, .int p324660, .int p324661, .int p324662, .int p324663, .int p324664]) := (hs326144 q324645 (rT0 ht324648 (by decide)) (rT1 ht324648 (by decide)) (rT2 ht324648 (by decide))).trans he324685
                                    have hs326152 : rStr γ [] F269173 F326138 := rStr_tr hs324686 hs326144
                                    have he326153 : F326138 q269174 = .inr (22, [.ref (γ 9 0), .ref (γ 9 1), .ref (γ 9 2), .ref (γ 9 3), .ref (γ 9 4), .ref (γ 9 5), .ref (γ 9 6), .ref (γ 9 7), .ref (γ 9 8), .int p269183, .int p269184, .int p269185, .int p269186, .int p269187, .int p269188, .ref (γ 9 15), .ref (γ 9 16), .ref (γ 9 17), .ref (γ 9 18), .ref (γ 9 19), .ref (γ 9 20), .ref (γ 9 21), .ref (γ 9 22), .int p269189, .int p269190, .int p269191, .int p269192, .int p269193, .ref q269181, .ref (γ 9 29), .int p269194, .ref (γ 9 31), .int p269195, .int p269196, .int p269197, .ref q269182]) := x326142.trans he269180
                                    have hm326154 : q269174 ∈ P269172 := RS_m hT326139 htq269174 (by decide)
                                    refine G_iload 0 dr_cX17_graph_210 rfl ?_
                                    refine G_bipush 32 dr_cX17_graph_212 (by decide +kernel) ?_
                                    refine G_icmp_ge 243 dr_cX17_graph_214 (by decide +kernel) (fun hc326155 => ?_) (fun hc326155 => ?_)
                                    · have r326156 : 32 ≤ g326137.toInt := gj_leL hc326155 (show Int32.toInt 32 = 32 by decide)
                                      have bg326137' : gB g326137 32 32 := ⟨by omega, by omega⟩
                                      refine G_iload 2 dr_cX17_graph_243 rfl ?_
                                      refine G_if_lt 265 dr_cX17_graph_245 (by decide +kernel) (fun hc => absurd (show False by have := gj_lt hc (show Int32.toInt 0 = 0 by decide); omega) not_false) (fun _ => ?_)
                                      refine G_iload 1 dr_cX17_graph_248 rfl ?_
                                      refine G_if_ne 265 dr_cX17_graph_250 (by decide +kernel) (fun _ => ?_) (fun hc => absurd hc (by decide))
                                      refine G_aload_n 8 dr_cX17_graph_265 rfl ?_
                                      refine Gp_get 1 hm326154 he326153 dr_cX17_graph_266 (gk_X17 D I) (Nat.le_of_ble_eq_true rfl) wr_7_75 rfl ?_
                                      refine G_iload 3 dr_cX17_graph_269 rfl ?_
                                      have hm326157 : (γ 9 1) ∈ P269172 := RS_m hT326139 ht269201 (by decide)
                                      obtain ⟨f326159, he326158, hg326160⟩ := show rk_13 I γ (F326138 (γ 9 1)) from RS_o hT326139 ht269201
                                      obtain ⟨q326161, hx326163⟩ : ∃ x, x = γ 11 o324698.toInt.toNat := ⟨_, rfl⟩
                                      have ht326162 : rKd γ q326161 36 := by rw [hx326163]; exact (hg326160 _ (show o324698.toInt.toNat < 2000 by omega)).2.1
                                      refine Gp_aald 5 hm326157 he326158 dr_cX17_graph_271 rfl rfl (gB_in bo324698' (by decide) (by decide)) ?_
                                      rw [show f326159 o324698.toNatClampNeg = some q326161 from (hg326160 _ (show o324698.toInt.toNat < 2000 by omega)).1.trans (by rw [hx326163])]
                                      change G _ _ _ _ _ _ _ (.ref q326161 :: _) _ _ _
                                      refine G_iload 3 dr_cX17_graph_272 rfl ?_
                                      have hm326164 : q326161 ∈ P269172 := RS_m hT326139 ht326162 (by decide)
                                      obtain ⟨f326166, he326165, wf326166⟩ := show rk_36 I (F326138 q326161) from RS_o hT326139 ht326162
                                      refine Gw_callS (As := [.ref q326161, .int o324698]) (gV_ok D I) (cp_1873_SpillForgeModel_clear l hl0 D I P269172 F326138 q326161 o324698 f326166 hm326164 he326165 bo324698' wf326166) dr_cX17_graph_274 ⟨wr_10_185, wr_1_14, wr_10_187, by decide, rfl, (Nat.le_of_ble_eq_true rfl), (Nat.le_of_ble_eq_true rfl)⟩ wr_10_186 (show 0 + 0 ≤ 0 by first | omega | decide) (show 0 + 0 ≤ 0 by first | omega | decide) (Nat.le_of_ble_eq_true rfl) (fun r326170 w326171 dc326167 ds326168 hp326169 => ?_) (fun _ _ _ _ _ z => z.elim)
                                      obtain ⟨F326174, f326172, rfl, rfl, hfr326176, he326177, hdc, hds, x326173⟩ := hp326169
                                      have he326178 : F326174 q269175 = .inr (18, [.ref q322205, .ref q322206, .int p322207, .int p322208]) := (hfr326176 q269175 hm322203 (nm_c (rn_oa he326145 he326165) nm_n)).trans he326145
                                      have he326179 : F326174 q322205 = .inr (4, [.int p322836, .ref q322838, .int p322837]) := (hfr326176 q322205 hm322834 (nm_c (rn_oa he326146 he326165) nm_n)).trans he326146
                                      have he326180 : F326174 q322838 = .inl (I (.object "java/lang/Object"), n322852, .inr (.inr (.inr (.inr f322853)))) := (hfr326176 q322838 hm322854 (nm_c (rn_ref_long he326147 he326165) nm_n)).trans he326147
                                      have he326181 : F326174 q322855 = .inr (17, [.ref q322864, .ref q322865, .int p322866, .int p322867]) := (hfr326176 q322855 hm322862 (nm_c (rn_oa he326148 he326165) nm_n)).trans he326148
                                      have he326182 : F326174 q322864 = .inr (4, [.int p324626, .ref q324628, .int p324627]) := (hfr326176 q322864 hm324624 (nm_c (rn_oa he326149 he326165) nm_n)).trans he326149
                                      have he326183 : F326174 q324628 = .inl (I (.object "java/lang/Object"), n324642, .inr (.inr (.inr (.inr f324643)))) := (hfr326176 q324628 hm324644 (nm_c (rn_ref_long he326150 he326165) nm_n)).trans he326150
                                      have he326184 : F326174 q324645 = .inr (20, [.int p324658, .int p324659, .int p324660, .int p324661, .int p324662, .int p324663, .int p324664]) := (hfr326176 q324645 hm324656 (nm_c (rn_oa he326151 he326165) nm_n)).trans he326151
                                      have he326185 : F326174 q269174 = .inr (22, [.ref (γ 9 0), .ref (γ 9 1), .ref (γ 9 2), .ref (γ 9 3), .ref (γ 9 4), .ref (γ 9 5), .ref (γ 9 6), .ref (γ 9 7), .ref (γ 9 8), .int p269183, .int p269184, .int p269185, .int p269186, .int p269187, .int p269188, .ref (γ 9 15), .ref (γ 9 16), .ref (γ 9 17), .ref (γ 9 18), .ref (γ 9 19), .ref (γ 9 20), .ref (γ 9 21), .ref (γ 9 22), .int p269189, .int p269190, .int p269191, .int p269192, .int p269193, .ref q269181, .ref (γ 9 29), .int p269194, .ref (γ 9 31), .int p269195, .int p269196, .int p269197, .ref q269182]) := (hfr326176 q269174 hm326154 (nm_c (rn_oa he326153 he326165) nm_n)).trans he326153
                                      have he326186 : F326174 (γ 9 1) = .inl (I (.array .long), 2000, .inr (.inr (.inr (.inr f326159)))) := (hfr326176 (γ 9 1) hm326157 (nm_c (rn_ref_long he326158 he326165) nm_n)).trans he326158
                                      have hfr326187 : rFr [q326161] P269172 F326138 F326174 := rFr_call (rSub_rf (P := P269172)) (rFr_rf (W := []) (P := P269172) (F := F326138)) hfr326176 (fun b hb hn => ⟨nm_n, (nm_c (fun e => hn (e ▸ List.mem_cons_self)) nm_n)⟩)
                                      change G _ _ _ _ _ _ _ _ _ _ _
                                      refine G_widen (cs' := 0) (sl' := 0) (by omega) (by omega) ?_
                                      have hT326188 : RS D I P269172 F326174 γ el := RS_fr hT326139 hfr326187 ht326162 (by decide) ⟨f326172, he326177, x326173⟩
                                      have hs326189 : rStr γ [] F269173 F326174 := rStr_fr hT326139 hs326140 hfr326187 ht326162 (by decide)
                                      have kp326190 : F326174 q269174 = F269173 q269174 := (hfr326187 q269174 (RS_m hT326139 htq269174 (by decide)) (nm_c (rn_ty htq269174 ht326162 (by decide)) nm_n)).trans x326142
                                      have kp326191 : F326174 (γ 9 3) = F326138 (γ 9 3) := hfr326187 (γ 9 3) (RS_m hT326139 ht269203 (by decide)) (nm_c (rn_ty ht269203 ht326162 (by decide)) nm_n)
                                      refine G_aload_n 8 dr_cX17_graph_277 rfl ?_
                                      refine G_aload 4 dr_cX17_graph_278 rfl ?_
                                      refine G_iload_n 10 dr_cX17_graph_280 rfl ?_
                                      refine Gw_callV (As := [.ref q324645, .int p269176]) (gV_ok D I) (ct_275878_SpillForgeModel_back l hl0 D I γ el P269172 F326174 q269174 q324645 p269176 hT326188 htq269174 ht324648 (gB_w bp269176' (by decide) (by decide))) dr_cX17_graph_281 ⟨wr_10_174, wr_1_14, wr_10_177, by decide, rfl, (Nat.le_of_ble_eq_true rfl), (Nat.le_of_ble_eq_true rfl)⟩ wr_10_176 wr_p_96 hm326154 he326185 rfl (show 0 + 0 ≤ 0 by first | omega | decide) (show 0 + 0 ≤ 0 by first | omega | decide) (Nat.le_of_ble_eq_true rfl) (fun r326195 w326196 dc326192 ds326193 hp326194 => ?_) (fun _ _ _ _ _ z => z.elim)
                                      obtain ⟨F326199, rfl, rfl, hT326200, hs326201, hdc, hds, x326197, x326198⟩ := hp326194
                                      have he326202 : F326199 q269175 = .inr (18, [.ref q322205, .ref q322206, .int p322207, .int p322208]) := (hs326201 q269175 (rT0 htq269175 (by decide)) (rT1 htq269175 (by decide)) (rT2 htq269175 (by decide))).trans he326178
                                      have he326203 : F326199 q322205 = .inr (4, [.int p322836, .ref q322838, .int p322837]) := (hs326201 q322205 (rT0 ht322209 (by decide)) (rT1 ht322209 (by decide)) (rT2 ht322209 (by decide))).trans he326179
                                      have he326204 : F326199 q322838 = .inl (I (.object "java/lang/Object"), n322852, .inr (.inr (.inr (.inr f322853)))) := (hs326201 q322838 (rT0 r322844 (by decide)) (rT1 r322844 (by decide)) (rT2 r322844 (by decide))).trans he326180
                                      have he326205 : F326199 q322855 = .inr (17, [.ref q322864, .ref q322865, .int p322866, .int p322867]) := (hs326201 q322855 (rT0 ht322860 (by decide)) (rT1 ht322860 (by decide)) (rT2 ht322860 (by decide))).trans he326181
                                      have he326206 : F326199 q322864 = .inr (4, [.int p324626, .ref q324628, .int p324627]) := (hs326201 q322864 (rT0 ht322868 (by decide)) (rT1 ht322868 (by decide)) (rT2 ht322868 (by decide))).trans he326182
                                      have he326207 : F326199 q324628 = .inl (I (.object "java/lang/Object"), n324642, .inr (.inr (.inr (.inr f324643)))) := (hs326201 q324628 (rT0 r324634 (by decide)) (rT1 r324634 (by decide)) (rT2 r324634 (by decide))).trans he326183
                                      have he326208 : F326199 q324645 = .inr (20, [.int p324658, .int p324659, .int p324660, .int p324661, .int p324662, .int p324663, .int p324664]) := (hs326201 q324645 (rT0 ht324648 (by decide)) (rT1 ht324648 (by decide)) (rT2 ht324648 (by decide))).trans he326184
                                      have hs326209 : rStr γ [] F269173 F326199 := rStr_tr hs326189 hs326201
                                      have kp326210 : F326199 q269174 = F269173 q269174 := (x326197).trans kp326190
                                      have kp326211 : F326199 (γ 9 3) = F326138 (γ 9 3) := (x326198).trans kp326191
                                      have he326212 : F326199 q269174 = .inr (22, [.ref (γ 9 0), .ref (γ 9 1), .ref (γ 9 2), .ref (γ 9 3), .ref (γ 9 4), .ref (γ 9 5), .ref (γ 9 6), .ref (γ 9 7), .ref (γ 9 8), .int p269183, .int p269184, .int p269185, .int p269186, .int p269187, .int p269188, .ref (γ 9 15), .ref (γ 9 16), .ref (γ 9 17), .ref (γ 9 18), .ref (γ 9 19), .ref (γ 9 20), .ref (γ 9 21), .ref (γ 9 22), .int p269189, .int p269190, .int p269191, .int p269192, .int p269193, .ref q269181, .ref (γ 9 29), .int p269194, .ref (γ 9 31), .int p269195, .int p269196, .int p269197, .ref q269182]) := (x326197).trans he326185
                                      change G _ _ _ _ _ _ _ _ _ _ _
                                      refine G_widen (cs' := 0) (sl' := 0) (by omega) (by omega) ?_
                                      obtain ⟨z326213, hz326213⟩ : ∃ z : Int32, z = g324602 + Int32.ofInt (-1) := ⟨_, rfl⟩
                                      have ez326213 : z326213.toInt = g324602.toInt + (-1) := gI_inc hz326213 (by decide) bg324602' (by decide) (by decide)
                                      have bz326213 : gB z326213 (-1) 999998 := ⟨by omega, by omega⟩
                                      refine G_iinc (L' := [(5, .int z326213), (10, .int g326137), (9, .int 1), (8, .int p324660), (7, .int o324698), (6, .ref q324645), (4, .ref q322855), (3, .int g322192), (0, .ref q269174), (1, .ref q269175), (2, .int p269176)]) z326213 5 dr_cX17_graph_284 rfl hz326213.symm (Nat.le_of_ble_eq_true rfl) rfl ?_
                                      refine G_goto 109 dr_cX17_graph_287 (by decide +kernel) ?_
                                      refine G_lv (L' := [(5, .int z326213), (4, .ref q322855), (3, .int g322192), (0, .ref q269174), (1, .ref q269175), (2, .int p269176)]) [0, 6, 7, 8, 9, 10] rfl ?_
                                      exact ih109_324608 F326199 z326213 (gB_w bz326213 (by decide) (by decide)) hT326200 hs326209 (by omega) (fun h0 => by have z := x326141 h0; rw [← kp326211] at z; rw [show ((g324602.toInt : Int).toNat : Nat) = (z326213.toInt + 1 : Int).toNat by omega] at z; exact z) kp326210 (mz_dn ez326213 (Int.le_trans (by decide) bg324602'.1) hm109_324608)
                                    · have r326214 : g326137.toInt < 32 := gj_nleL hc326155 (show Int32.toInt 32 = 32 by decide)
                                      have bg326137' : gB g326137 0 31 := ⟨by omega, by omega⟩
                                      refine G_aload_n 8 dr_cX17_graph_217 rfl ?_
                                      refine Gp_get 1 hm326154 he326153 dr_cX17_graph_218 (gk_X17 D I) (Nat.le_of_ble_eq_true rfl) wr_7_75 rfl ?_
                                      refine G_iload 3 dr_cX17_graph_221 rfl ?_
                                      have hm326215 : (γ 9 1) ∈ P269172 := RS_m hT326139 ht269201 (by decide)
                                      obtain ⟨f326217, he326216, hg326218⟩ := show rk_13 I γ (F326138 (γ 9 1)) from RS_o hT326139 ht269201
                                      obtain ⟨q326219, hx326221⟩ : ∃ x, x = γ 11 o324698.toInt.toNat := ⟨_, rfl⟩
                                      have ht326220 : rKd γ q326219 36 := by rw [hx326221]; exact (hg326218 _ (show o324698.toInt.toNat < 2000 by omega)).2.1
                                      refine Gp_aald 5 hm326215 he326216 dr_cX17_graph_223 rfl rfl (gB_in bo324698' (by decide) (by decide)) ?_
                                      rw [show f326217 o324698.toNatClampNeg = some q326219 from (hg326218 _ (show o324698.toInt.toNat < 2000 by omega)).1.trans (by rw [hx326221])]
                                      change G _ _ _ _ _ _ _ (.ref q326219 :: _) _ _ _
                                      refine G_iload 0 dr_cX17_graph_224 rfl ?_
                                      refine G_dup2_11 dr_cX17_graph_226 rfl rfl ?_
                                      have hm326222 : q326219 ∈ P269172 := RS_m hT326139 ht326220 (by decide)
                                      obtain ⟨f326224, he326223, wf326224⟩ := show rk_36 I (F326138 q326219) from RS_o hT326139 ht326220
                                      refine Gp_lald 2 hm326222 he326223 dr_cX17_graph_227 rfl (gB_in bg326137' (by decide) (by decide)) (G_namL fun u326225 hu326225 => ?_)
                                      have qu326225 : lb_Q u326225 (2000 - 64 * g326137.toInt) := lb_Wld hu326225 wf326224 (by omega) (by omega) (lb_Mod0 (by omega) (by omega))
                                      refine G_aload_n 8 dr_cX17_graph_228 rfl ?_
                                      refine Gp_get 2 hm326154 he326153 dr_cX17_graph_229 (gk_X17 D I) (Nat.le_of_ble_eq_true rfl) wr_7_76 rfl ?_
                                      refine G_iload 0 dr_cX17_graph_232 rfl ?_
                                      have hm326226 : (γ 9 2) ∈ P269172 := RS_m hT326139 ht269202 (by decide)
                                      obtain ⟨f326228, he326227, wf326228⟩ := show rk_35 I (F326138 (γ 9 2)) from RS_o hT326139 ht269202
                                      refine Gp_lald 2 hm326226 he326227 dr_cX17_graph_234 rfl (gB_in bg326137' (by decide) (by decide)) (G_namL fun u326229 hu326229 => ?_)
                                      have qu326229 : lb_Q u326229 (2000 - 64 * g326137.toInt) := lb_Wld hu326229 wf326228 (by omega) (by omega) (lb_Mod0 (by omega) (by omega))
                                      refine G_lor dr_cX17_graph_235 (G_namL fun u326230 hu326230 => ?_)
                                      have qu326230 : lb_Q u326230 (2000 - 64 * g326137.toInt) := lb_Qor hu326230 qu326225 qu326229
                                      refine Gp_last 2 hm326222 he326223 dr_cX17_graph_236 rfl (gB_in bg326137' (by decide) (by decide)) (fun F326231 e326232 n326233 => ?_)
                                      obtain ⟨f326234, hf326234⟩ : ∃ z, z = vp_updL f326224 g326137.toNatClampNeg u326230 := ⟨_, rfl⟩
                                      rw [← hf326234] at e326232
                                      have he326235 : F326231 q269175 = .inr (18, [.ref q322205, .ref q322206, .int p322207, .int p322208]) := (n326233 q269175 (rn_oa he326145 he326223)).trans he326145
                                      have he326236 : F326231 q322205 = .inr (4, [.int p322836, .ref q322838, .int p322837]) := (n326233 q322205 (rn_oa he326146 he326223)).trans he326146
                                      have he326237 : F326231 q322838 = .inl (I (.object "java/lang/Object"), n322852, .inr (.inr (.inr (.inr f322853)))) := (n326233 q322838 (rn_ref_long he326147 he326223)).trans he326147
                                      have he326238 : F326231 q322855 = .inr (17, [.ref q322864, .ref q322865, .int p322866, .int p322867]) := (n326233 q322855 (rn_oa he326148 he326223)).trans he326148
                                      have he326239 : F326231 q322864 = .inr (4, [.int p324626, .ref q324628, .int p324627]) := (n326233 q322864 (rn_oa he326149 he326223)).trans he326149
                                      have he326240 : F326231 q324628 = .inl (I (.object "java/lang/Object"), n324642, .inr (.inr (.inr (.inr f324643)))) := (n326233 q324628 (rn_ref_long he326150 he326223)).trans he326150
                                      have he326241 : F326231 q324645 = .inr (20, [.int p324658, .int p324659, .int p324660, .int p324661, .int p324662, .int p324663, .int p324664]) := (n326233 q324645 (rn_oa he326151 he326223)).trans he326151
                                      have he326242 : F326231 q269174 = .inr (22, [.ref (γ 9 0), .ref (γ 9 1), .ref (γ 9 2), .ref (γ 9 3), .ref (γ 9 4), .ref (γ 9 5), .ref (γ 9 6), .ref (γ 9 7), .ref (γ 9 8), .int p269183, .int p269184, .int p269185, .int p269186, .int p269187, .int p269188, .ref (γ 9 15), .ref (γ 9 16), .ref (γ 9 17), .ref (γ 9 18), .ref (γ 9 19), .ref (γ 9 20), .ref (γ 9 21), .ref (γ 9 22), .int p269189, .int p269190, .int p269191, .int p269192, .int p269193, .ref q269181, .ref (γ 9 29), .int p269194, .ref (γ 9 31), .int p269195, .int p269196, .int p269197, .ref q269182]) := (n326233 q269174 (rn_oa he326153 he326223)).trans he326153
                                      have he326243 : F326231 (γ 9 1) = .inl (I (.array .long), 2000, .inr (.inr (.inr (.inr f326217)))) := (n326233 (γ 9 1) (rn_ref_long he326216 he326223)).trans he326216
                                      have he326244 : F326231 (γ 9 2) = .inl (I .long, 32, .inr (.inl f326228)) := (n326233 (γ 9 2) (rn_ty ht269202 ht326220 (by decide))).trans he326227
                                      have he326245 : F326231 q326219 = .inl (I .long, 32, .inr (.inl f326234)) := e326232
                                      have hs326246 : rStr γ [] F269173 F326231 := rStr_put hs326140 n326233 ht326220 (by decide)
                                      have kp326247 : F326231 q269174 = F269173 q269174 := (n326233 q269174 (rn_ty htq269174 ht326220 (by decide))).trans x326142
                                      have kp326248 : F326231 (γ 9 3) = F326138 (γ 9 3) := n326233 (γ 9 3) (rn_ty ht269203 ht326220 (by decide))
                                      have wf326234 : lb_W f326234 (32) (32) (2000) := lb_Wst hf326234 wf326224 (by omega) (lb_Mod0 (by omega) (by omega)) qu326230
                                      obtain ⟨z326249, hz326249⟩ : ∃ z : Int32, z = g326137 + Int32.ofInt 1 := ⟨_, rfl⟩
                                      have ez326249 : z326249.toInt = g326137.toInt + 1 := gI_inc hz326249 (by decide) bg326137' (by decide) (by decide)
                                      have bz326249 : gB z326249 1 32 := ⟨by omega, by omega⟩
                                      refine G_iinc (L' := [(10, .int z326249), (9, .int 1), (8, .int p324660), (7, .int o324698), (6, .ref q324645), (5, .int g324602), (4, .ref q322855), (3, .int g322192), (0, .ref q269174), (1, .ref q269175), (2, .int p269176)]) z326249 0 dr_cX17_graph_237 rfl hz326249.symm (Nat.le_of_ble_eq_true rfl) rfl ?_
                                      refine G_goto 210 dr_cX17_graph_240 (by decide +kernel) ?_
                                      have hT326250 : RS D I P269172 F326231 γ el := RS_set hT326139 n326233 ht326220 (by decide) ⟨f326234, he326245, wf326234⟩
                                      exact ih210_326142 F326231 z326249 (gB_w bz326249 (by decide) (by decide)) hT326250 hs326246 (by rw [kp326248]; exact x326141) kp326247 (mz_up ez326249 (Int.le_trans bg326137'.2 (by decide)) hm210_326142)
                                exact hlp210_326142 (((33 : Int) - 0).toNat + 1) F324676 0 (gB_w (gBl (show Int32.toInt 0 = 0 by decide)) (by decide) (by decide)) hT324677 hs324686 gr324692 kp324687 (Nat.lt_succ_self _)
              exact hlp109_324608 (((z322956.toInt : Int) - (-2)).toNat + 1) F322929 z322956 bz322956 hT322930 hs322936 (by omega) (fun h0 => by have z := gr322921 h0; rw [← kp322938] at z; rw [show (γ 2 q322864 : Nat) = (z322956.toInt + 1 : Int).toNat by omega] at z; exact z) kp322937 (Nat.lt_succ_self _)
        exact hlp56_322197 (((1000001 : Int) - 0).toNat + 1) F318124 0 (gB_w (gBl (show Int32.toInt 0 = 0 by decide)) (by decide) (by decide)) hT318125 hs318126 (fun _ => gq_0 (fun m hm => x318127 m (by omega))) x318128 (Nat.lt_succ_self _)
      · have r326251 : g318123.toInt < 2000 := gj_nleL hc318134 (show Int32.toInt 2000 = 2000 by decide)
        have bg318123' : gB g318123 0 1999 := ⟨by omega, by omega⟩
        refine G_aload_n 1 dr_cX17_graph_15 rfl ?_
        refine Gp_get 3 hm318133 he318132 dr_cX17_graph_16 (gk_X17 D I) (Nat.le_of_ble_eq_true rfl) wr_7_77 rfl ?_
        refine G_iload_n 0 dr_cX17_graph_19 rfl ?_
        refine G_iconst 0 dr_cX17_graph_20 (by decide +kernel) ?_
        have hm326252 : (γ 9 3) ∈ P269172 := RS_m hT318125 ht269203 (by decide)
        obtain ⟨f326254, he326253, bf326254⟩ := show rk_14 I (F318124 (γ 9 3)) from RS_o hT318125 ht269203
        refine Gp_zast 3 hm326252 he326253 dr_cX17_graph_21 rfl (gB_in bg318123' (by decide) (by decide)) (fun F326255 e326256 n326257 => ?_)
        obtain ⟨f326258, hf326258⟩ : ∃ z, z = upd f326254 g318123.toNatClampNeg (vp_nar .boolean 0) := ⟨_, rfl⟩
        rw [← hf326258] at e326256
        have he326259 : F326255 q269174 = .inr (22, [.ref (γ 9 0), .ref (γ 9 1), .ref (γ 9 2), .ref (γ 9 3), .ref (γ 9 4), .ref (γ 9 5), .ref (γ 9 6), .ref (γ 9 7), .ref (γ 9 8), .int p269183, .int p269184, .int p269185, .int p269186, .int p269187, .int p269188, .ref (γ 9 15), .ref (γ 9 16), .ref (γ 9 17), .ref (γ 9 18), .ref (γ 9 19), .ref (γ 9 20), .ref (γ 9 21), .ref (γ 9 22), .int p269189, .int p269190, .int p269191, .int p269192, .int p269193, .ref q269181, .ref (γ 9 29), .int p269194, .ref (γ 9 31), .int p269195, .int p269196, .int p269197, .ref q269182]) := (n326257 q269174 (rn_oa he318132 he326253)).trans he318132
        have he326260 : F326255 (γ 9 3) = .inl (I .boolean, 2000, .inl f326258) := e326256
        have hs326261 : rStr γ [] F269173 F326255 := rStr_put hs318126 n326257 ht269203 (by decide)
        have kp326262 : F326255 q269174 = F269173 q269174 := (n326257 q269174 (rn_ty htq269174 ht269203 (by decide))).trans x318128
        have bf326258 : gF f326258 0 1 := gF_upd hf326258 bf326254 (gB_w (gBl (show Int32.toInt 0 = 0 by decide)) (by decide) (by decide))
        refine G_iconst 0 dr_cX17_graph_22 (by decide +kernel) ?_
        refine G_istore (L' := [(4, .int 0), (3, .int g318123), (0, .ref q269174), (1, .ref q269175), (2, .int p269176)]) dr_cX17_graph_23 (Nat.le_of_ble_eq_true rfl) rfl ?_
        have hT326263 : RS D I P269172 F326255 γ el := RS_set hT318125 n326257 ht269203 (by decide) ⟨f326258, he326260, bf326258⟩
        have hlp25_326303 : ∀ (n25_326303 : Nat) (F326299 : Nat → va_E) (g326298 : Int32), gB g326298 0 32 → RS D I P269172 F326299 γ el → rStr γ [] F269173 F326299 → (∀ n : Nat, (n : Int) < g318123.toInt + 1 → ¬ rSd (cB (F326299 (γ 9 3))) n) → (F326299 q269174 = F269173 q269174) → ((33 : Int) - g326298.toInt).toNat < n25_326303 → G (gV D I) l (gRm 5 111 0 0) (gMA (gV D I) (pt_269178_SpillForgeModel_graph D I γ el P269172 F269173 q269174 q269175 p269176) gNA 0 0) ky_269178_SpillForgeModel_graph 25 [(4, .int g326298), (3, .int g318123), (0, .ref q269174), (1, .ref q269175), (2, .int p269176)] [] (va_pl P269172 F326299) 0 0 := by
          intro n25_326303
          induction n25_326303 with
          | zero => intro F326299 g326298 bg326298 hT326300 hs326301 x326302 x326303 hm25_326303; exact absurd hm25_326303 (Nat.not_lt_zero _)
          | succ n25_326303 ih25_326303 =>
            intro F326299 g326298 bg326298 hT326300 hs326301 x326302 x326303 hm25_326303
            have hs326305 : rStr γ [] F326255 F326299 := fun b h0 hb hw => (hs326301 b h0 hb hw).trans (hs326261 b h0 hb hw).symm
            have hs326306 : rStr γ [] F269173 F326299 := rStr_tr hs326261 hs326305
            have he326307 : F326299 q269174 = .inr (22, [.ref (γ 9 0), .ref (γ 9 1), .ref (γ 9 2), .ref (γ 9 3), .ref (γ 9 4), .ref (γ 9 5), .ref (γ 9 6), .ref (γ 9 7), .ref (γ 9 8), .int p269183, .int p269184, .int p269185, .int p269186, .int p269187, .int p269188, .ref (γ 9 15), .ref (γ 9 16), .ref (γ 9 17), .ref (γ 9 18), .ref (γ 9 19), .ref (γ 9 20), .ref (γ 9 21), .ref (γ 9 22), .int p269189, .int p269190, .int p269191, .int p269192, .int p269193, .ref q269181, .ref (γ 9 29), .int p269194, .ref (γ 9 31), .int p269195, .int p269196, .int p269197, .ref q269182]) := x326303.trans he269180
            have hm326308 : q269174 ∈ P269172 := RS_m hT326300 htq269174 (by decide)
            refine G_iload 0 dr_cX17_graph_25 rfl ?_
            refine G_bipush 32 dr_cX17_graph_27 (by decide +kernel) ?_
            refine G_icmp_ge 48 dr_cX17_graph_29 (by decide +kernel) (fun hc326309 => ?_) (fun hc326309 => ?_)
            · have r326310 : 32 ≤ g326298.toInt := gj_leL hc326309 (show Int32.toInt 32 = 32 by decide)
              have bg326298' : gB g326298 32 32 := ⟨by omega, by omega⟩
              obtain ⟨z326311, hz326311⟩ : ∃ z : Int32, z = g318123 + Int32.ofInt 1 := ⟨_, rfl⟩
              have ez326311 : z326311.toInt = g318123.toInt + 1 := gI_inc hz326311 (by decide) bg318123' (by decide) (by decide)
              have bz326311 : gB z326311 1 2000 := ⟨by omega, by omega⟩
              refine G_iinc (L' := [(3, .int z326311), (4, .int g326298), (0, .ref q269174), (1, .ref q269175), (2, .int p269176)]) z326311 1 dr_cX17_graph_48 rfl hz326311.symm (Nat.le_of_ble_eq_true rfl) rfl ?_
              refine G_goto 8 dr_cX17_graph_51 (by decide +kernel) ?_
              refine G_lv (L' := [(3, .int z326311), (0, .ref q269174), (1, .ref q269175), (2, .int p269176)]) [0, 2, 3, 4] rfl ?_
              exact ih8_318128 F326299 z326311 (gB_w bz326311 (by decide) (by decide)) hT326300 hs326301 (by rw [ez326311]; exact x326302) x326303 (mz_up ez326311 (Int.le_trans bg318123'.2 (by decide)) hm8_318128)
            · have r326312 : g326298.toInt < 32 := gj_nleL hc326309 (show Int32.toInt 32 = 32 by decide)
              have bg326298' : gB g326298 0 31 := ⟨by omega, by omega⟩
              refine G_aload_n 2 dr_cX17_graph_32 rfl ?_
              refine Gp_get 1 hm326308 he326307 dr_cX17_graph_33 (gk_X17 D I) (Nat.le_of_ble_eq_true rfl) wr_7_75 rfl ?_
              refine G_iload_n 1 dr_cX17_graph_36 rfl ?_
              have hm326313 : (γ 9 1) ∈ P269172 := RS_m hT326300 ht269201 (by decide)
              obtain ⟨f326315, he326314, hg326316⟩ := show rk_13 I γ (F326299 (γ 9 1)) from RS_o hT326300 ht269201
              obtain ⟨q326317, hx326319⟩ : ∃ x, x = γ 11 g318123.toInt.toNat := ⟨_, rfl⟩
              have ht326318 : rKd γ q326317 36 := by rw [hx326319]; exact (hg326316 _ (show g318123.toInt.toNat < 2000 by omega)).2.1
              refine Gp_aald 5 hm326313 he326314 dr_cX17_graph_37 rfl rfl (gB_in bg318123' (by decide) (by decide)) ?_
              rw [show f326315 g318123.toNatClampNeg = some q326317 from (hg326316 _ (show g318123.toInt.toNat < 2000 by omega)).1.trans (by rw [hx326319])]
              change G _ _ _ _ _ _ _ (.ref q326317 :: _) _ _ _
              refine G_iload 0 dr_cX17_graph_38 rfl ?_
              refine G_lconst 0 dr_cX17_graph_40 rfl ?_
              have hm326320 : q326317 ∈ P269172 := RS_m hT326300 ht326318 (by decide)
              obtain ⟨f326322, he326321, wf326322⟩ := show rk_36 I (F326299 q326317) from RS_o hT326300 ht326318
              refine Gp_last 2 hm326320 he326321 dr_cX17_graph_41 rfl (gB_in bg326298' (by decide) (by decide)) (fun F326323 e326324 n326325 => ?_)
              obtain ⟨f326326, hf326326⟩ : ∃ z, z = vp_updL f326322 g326298.toNatClampNeg 0 := ⟨_, rfl⟩
              rw [← hf326326] at e326324
              have he326327 : F326323 q269174 = .inr (22, [.ref (γ 9 0), .ref (γ 9 1), .ref (γ 9 2), .ref (γ 9 3), .ref (γ 9 4), .ref (γ 9 5), .ref (γ 9 6), .ref (γ 9 7), .ref (γ 9 8), .int p269183, .int p269184, .int p269185, .int p269186, .int p269187, .int p269188, .ref (γ 9 15), .ref (γ 9 16), .ref (γ 9 17), .ref (γ 9 18), .ref (γ 9 19), .ref (γ 9 20), .ref (γ 9 21), .ref (γ 9 22), .int p269189, .int p269190, .int p269191, .int p269192, .int p269193, .ref q269181, .ref (γ 9 29), .int p269194, .ref (γ 9 31), .int p269195, .int p269196, .int p269197, .ref q269182]) := (n326325 q269174 (rn_oa he326307 he326321)).trans he326307
              have he326328 : F326323 (γ 9 1) = .inl (I (.array .long), 2000, .inr (.inr (.inr (.inr f326315)))) := (n326325 (γ 9 1) (rn_ref_long he326314 he326321)).trans he326314
              have he326329 : F326323 q326317 = .inl (I .long, 32, .inr (.inl f326326)) := e326324
              have hs326330 : rStr γ [] F269173 F326323 := rStr_put hs326301 n326325 ht326318 (by decide)
              have kp326331 : F326323 q269174 = F269173 q269174 := (n326325 q269174 (rn_ty htq269174 ht326318 (by decide))).trans x326303
              have kp326332 : F326323 (γ 9 3) = F326299 (γ 9 3) := n326325 (γ 9 3) (rn_ty ht269203 ht326318 (by decide))
              have wf326326 : lb_W f326326 (32) (32) (2000) := lb_Wst hf326326 wf326322 (by omega) (lb_Mod0 (by omega) (by omega)) lb_Q0
              obtain ⟨z326333, hz326333⟩ : ∃ z : Int32, z = g326298 + Int32.ofInt 1 := ⟨_, rfl⟩
              have ez326333 : z326333.toInt = g326298.toInt + 1 := gI_inc hz326333 (by decide) bg326298' (by decide) (by decide)
              have bz326333 : gB z326333 1 32 := ⟨by omega, by omega⟩
              refine G_iinc (L' := [(4, .int z326333), (3, .int g318123), (0, .ref q269174), (1, .ref q269175), (2, .int p269176)]) z326333 0 dr_cX17_graph_42 rfl hz326333.symm (Nat.le_of_ble_eq_true rfl) rfl ?_
              refine G_goto 25 dr_cX17_graph_45 (by decide +kernel) ?_
              have hT326334 : RS D I P269172 F326323 γ el := RS_set hT326300 n326325 ht326318 (by decide) ⟨f326326, he326329, wf326326⟩
              exact ih25_326303 F326323 z326333 (gB_w bz326333 (by decide) (by decide)) hT326334 hs326330 (by rw [kp326332]; exact x326302) kp326331 (mz_up ez326333 (Int.le_trans bg326298'.2 (by decide)) hm25_326303)
        exact hlp25_326303 (((33 : Int) - 0).toNat + 1) F326255 0 (gB_w (gBl (show Int32.toInt 0 = 0 by decide)) (by decide) (by decide)) hT326263 hs326261 (by rw [cB_of he326260]; exact sd_z hf326258 (by omega) (by have q := x318127; rw [cB_of he326253] at q; exact q)) kp326262 (Nat.lt_succ_self _)
  exact hlp8_318128 (((2001 : Int) - 0).toNat + 1) F269232 0 (gB_w (gBl (show Int32.toInt 0 = 0 by decide)) (by decide) (by decide)) hT269233 hs269235 (fun n hn => absurd hn (by have qa : Int32.toInt 0 = 0 := (by decide); omega)) kp269236 (Nat.lt_succ_self _)
