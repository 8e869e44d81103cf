theorem dr_cX17_graph_0 : decode cX17_graph 0 = .ok (.aload_n 0, 1) := by decide +kernel
theorem dr_cX17_graph_1 : decode cX17_graph 1 = .ok (.aload_n 1, 1) := by decide +kernel
theorem dr_cX17_graph_2 : decode cX17_graph 2 = .ok (.iload_n 2, 1) := by decide +kernel
theorem dr_cX17_graph_3 : decode cX17_graph 3 = .ok (.invokevirtual 127, 3) := by decide +kernel
theorem wr_10_156 : (Jvm.Cond.methodLink "SpillForgeModel" (127 : Nat) ({ cls := "SpillForgeModel", name := "findLive", desc := "(LSpillForgeModel$Code;Z)V" } : Jvm.MethodName)) ∈ gw := gw_10 156 rfl rfl
theorem wr_10_159 : (Jvm.Cond.code ({ cls := "SpillForgeModel", name := "findLive", desc := "(LSpillForgeModel$Code;Z)V" } : Jvm.MethodName) prog_14_method_9_code (7 : Nat) (Option.none : Option Jvm.ClassFile.FieldType)) ∈ gw := gw_10 159 rfl rfl
theorem wr_10_158 : (Jvm.Cond.instanceMethod ({ cls := "SpillForgeModel", name := "findLive", desc := "(LSpillForgeModel$Code;Z)V" } : Jvm.MethodName)) ∈ gw := gw_10 158 rfl rfl
theorem wr_p_94 : Cond.selects "SpillForgeModel" ⟨"SpillForgeModel", "findLive", "(LSpillForgeModel$Code;Z)V"⟩ ⟨"SpillForgeModel", "findLive", "(LSpillForgeModel$Code;Z)V"⟩ ∈ gw := gw_p _ 94 rfl rfl rfl
theorem dr_cX17_graph_6 : decode cX17_graph 6 = .ok (.iconst 0, 1) := by decide +kernel
theorem dr_cX17_graph_7 : decode cX17_graph 7 = .ok (.istore_n 3, 1) := by decide +kernel
theorem dr_cX17_graph_8 : decode cX17_graph 8 = .ok (.iload_n 3, 1) := by decide +kernel
theorem dr_cX17_graph_9 : decode cX17_graph 9 = .ok (.sipush 2000, 3) := by decide +kernel
theorem dr_cX17_graph_12 : decode cX17_graph 12 = .ok (.if_icmp .ge 42, 3) := by decide +kernel
theorem dr_cX17_graph_54 : decode cX17_graph 54 = .ok (.iconst 0, 1) := by decide +kernel
theorem dr_cX17_graph_55 : decode cX17_graph 55 = .ok (.istore_n 3, 1) := by decide +kernel
theorem dr_cX17_graph_56 : decode cX17_graph 56 = .ok (.iload_n 3, 1) := by decide +kernel
theorem dr_cX17_graph_57 : decode cX17_graph 57 = .ok (.aload_n 1, 1) := by decide +kernel
theorem dr_cX17_graph_58 : decode cX17_graph 58 = .ok (.invokevirtual 96, 3) := by decide +kernel
theorem dr_cX17_graph_61 : decode cX17_graph 61 = .ok (.if_icmp .ge 235, 3) := by decide +kernel
theorem dr_cX17_graph_296 : decode cX17_graph 296 = .ok (.iconst 0, 1) := by decide +kernel
theorem dr_cX17_graph_297 : decode cX17_graph 297 = .ok (.istore_n 3, 1) := by decide +kernel
theorem dr_cX17_graph_298 : decode cX17_graph 298 = .ok (.iload_n 3, 1) := by decide +kernel
theorem dr_cX17_graph_299 : decode cX17_graph 299 = .ok (.sipush 2000, 3) := by decide +kernel
theorem dr_cX17_graph_302 : decode cX17_graph 302 = .ok (.if_icmp .ge 87, 3) := by decide +kernel
theorem dr_cX17_graph_389 : decode cX17_graph 389 = .ok (.return_, 1) := by decide +kernel
theorem dr_cX17_graph_305 : decode cX17_graph 305 = .ok (.aload_n 0, 1) := by decide +kernel
theorem dr_cX17_graph_306 : decode cX17_graph 306 = .ok (.getfield 131, 3) := by decide +kernel
theorem dr_cX17_graph_309 : decode cX17_graph 309 = .ok (.iload_n 3, 1) := by decide +kernel
theorem dr_cX17_graph_310 : decode cX17_graph 310 = .ok (.baload, 1) := by decide +kernel
theorem dr_cX17_graph_311 : decode cX17_graph 311 = .ok (.ifCond .ne 6, 3) := by decide +kernel
theorem dr_cX17_graph_317 : decode cX17_graph 317 = .ok (.iconst 0, 1) := by decide +kernel
theorem dr_cX17_graph_318 : decode cX17_graph 318 = .ok (.istore 4, 2) := by decide +kernel
theorem dr_cX17_graph_320 : decode cX17_graph 320 = .ok (.iload 4, 2) := by decide +kernel
theorem dr_cX17_graph_322 : decode cX17_graph 322 = .ok (.bipush 32, 2) := by decide +kernel
theorem dr_cX17_graph_324 : decode cX17_graph 324 = .ok (.if_icmp .ge 59, 3) := by decide +kernel
theorem dr_cX17_graph_383 : decode cX17_graph 383 = .ok (.iinc 3 1, 3) := by decide +kernel
theorem dr_cX17_graph_386 : decode cX17_graph 386 = .ok (.goto (-88), 3) := by decide +kernel
theorem dr_cX17_graph_327 : decode cX17_graph 327 = .ok (.aload_n 0, 1) := by decide +kernel
theorem dr_cX17_graph_328 : decode cX17_graph 328 = .ok (.getfield 135, 3) := by decide +kernel
theorem dr_cX17_graph_331 : decode cX17_graph 331 = .ok (.iload_n 3, 1) := by decide +kernel
theorem dr_cX17_graph_332 : decode cX17_graph 332 = .ok (.aaload, 1) := by decide +kernel
theorem dr_cX17_graph_333 : decode cX17_graph 333 = .ok (.iload 4, 2) := by decide +kernel
theorem dr_cX17_graph_335 : decode cX17_graph 335 = .ok (.laload, 1) := by decide +kernel
theorem dr_cX17_graph_336 : decode cX17_graph 336 = .ok (.lstore 5, 2) := by decide +kernel
theorem dr_cX17_graph_338 : decode cX17_graph 338 = .ok (.lload 5, 2) := by decide +kernel
theorem dr_cX17_graph_340 : decode cX17_graph 340 = .ok (.lconst 0, 1) := by decide +kernel
theorem dr_cX17_graph_341 : decode cX17_graph 341 = .ok (.lcmp, 1) := by decide +kernel
theorem dr_cX17_graph_342 : decode cX17_graph 342 = .ok (.ifCond .eq 35, 3) := by decide +kernel
theorem dr_cX17_graph_377 : decode cX17_graph 377 = .ok (.iinc 4 1, 3) := by decide +kernel
theorem dr_cX17_graph_380 : decode cX17_graph 380 = .ok (.goto (-60), 3) := by decide +kernel
theorem dr_cX17_graph_345 : decode cX17_graph 345 = .ok (.aload_n 0, 1) := by decide +kernel
theorem dr_cX17_graph_346 : decode cX17_graph 346 = .ok (.getfield 135, 3) := by decide +kernel
theorem dr_cX17_graph_349 : decode cX17_graph 349 = .ok (.bipush 64, 2) := by decide +kernel
theorem dr_cX17_graph_351 : decode cX17_graph 351 = .ok (.iload 4, 2) := by decide +kernel
theorem dr_cX17_graph_353 : decode cX17_graph 353 = .ok (.imul, 1) := by decide +kernel
theorem dr_cX17_graph_354 : decode cX17_graph 354 = .ok (.lload 5, 2) := by decide +kernel
theorem dr_cX17_graph_356 : decode cX17_graph 356 = .ok (.invokestatic 149, 3) := by decide +kernel
theorem wr_11_1 : (Jvm.Cond.methodLink "SpillForgeModel" (149 : Nat) ({ cls := "java/lang/Long", name := "numberOfTrailingZeros", desc := "(J)I" } : Jvm.MethodName)) ∈ gw := gw_11 1 rfl rfl
theorem wr_11_3 : (Jvm.Cond.code ({ cls := "java/lang/Long", name := "numberOfTrailingZeros", desc := "(J)I" } : Jvm.MethodName) prog_31_method_49_code (3 : Nat) (Option.some Jvm.ClassFile.FieldType.int)) ∈ gw := gw_11 3 rfl rfl
theorem wr_11_2 : (Jvm.Cond.static ({ cls := "java/lang/Long", name := "numberOfTrailingZeros", desc := "(J)I" } : Jvm.MethodName)) ∈ gw := gw_11 2 rfl rfl
theorem dr_cX17_graph_359 : decode cX17_graph 359 = .ok (.iadd, 1) := by decide +kernel
theorem dr_cX17_graph_360 : decode cX17_graph 360 = .ok (.aaload, 1) := by decide +kernel
theorem dr_cX17_graph_361 : decode cX17_graph 361 = .ok (.iload_n 3, 1) := by decide +kernel
theorem dr_cX17_graph_362 : decode cX17_graph 362 = .ok (.invokestatic 67, 3) := by decide +kernel
theorem dr_cX17_graph_365 : decode cX17_graph 365 = .ok (.lload 5, 2) := by decide +kernel
theorem dr_cX17_graph_367 : decode cX17_graph 367 = .ok (.lload 5, 2) := by decide +kernel
theorem dr_cX17_graph_369 : decode cX17_graph 369 = .ok (.lconst 1, 1) := by decide +kernel
theorem dr_cX17_graph_370 : decode cX17_graph 370 = .ok (.lsub, 1) := by decide +kernel
theorem dr_cX17_graph_371 : decode cX17_graph 371 = .ok (.land, 1) := by decide +kernel
theorem dr_cX17_graph_372 : decode cX17_graph 372 = .ok (.lstore 5, 2) := by decide +kernel
theorem dr_cX17_graph_374 : decode cX17_graph 374 = .ok (.goto (-36), 3) := by decide +kernel
theorem dr_cX17_graph_314 : decode cX17_graph 314 = .ok (.goto 69, 3) := by decide +kernel
theorem dr_cX17_graph_64 : decode cX17_graph 64 = .ok (.aload_n 1, 1) := by decide +kernel
theorem dr_cX17_graph_65 : decode cX17_graph 65 = .ok (.iload_n 3, 1) := by decide +kernel
theorem dr_cX17_graph_66 : decode cX17_graph 66 = .ok (.invokevirtual 101, 3) := by decide +kernel
theorem dr_cX17_graph_69 : decode cX17_graph 69 = .ok (.astore 4, 2) := by decide +kernel
theorem dr_cX17_graph_71 : decode cX17_graph 71 = .ok (.aload_n 0, 1) := by decide +kernel
theorem dr_cX17_graph_72 : decode cX17_graph 72 = .ok (.aload 4, 2) := by decide +kernel
theorem dr_cX17_graph_74 : decode cX17_graph 74 = .ok (.invokevirtual 105, 3) := by decide +kernel
theorem dr_cX17_graph_77 : decode cX17_graph 77 = .ok (.aload_n 0, 1) := by decide +kernel
theorem dr_cX17_graph_78 : decode cX17_graph 78 = .ok (.aload 4, 2) := by decide +kernel
theorem dr_cX17_graph_80 : decode cX17_graph 80 = .ok (.getfield 109, 3) := by decide +kernel
theorem dr_cX17_graph_83 : decode cX17_graph 83 = .ok (.iload_n 2, 1) := by decide +kernel
theorem dr_cX17_graph_84 : decode cX17_graph 84 = .ok (.invokevirtual 138, 3) := by decide +kernel
theorem wr_10_237 : (Jvm.Cond.methodLink "SpillForgeModel" (138 : Nat) ({ cls := "SpillForgeModel", name := "stand", desc := "(LSpillForgeModel$Row;Z)V" } : Jvm.MethodName)) ∈ gw := gw_10 237 rfl rfl
theorem wr_11_0 : (Jvm.Cond.code ({ cls := "SpillForgeModel", name := "stand", desc := "(LSpillForgeModel$Row;Z)V" } : Jvm.MethodName) prog_14_method_11_code (4 : Nat) (Option.none : Option Jvm.ClassFile.FieldType)) ∈ gw := gw_11 0 rfl rfl
theorem wr_10_239 : (Jvm.Cond.instanceMethod ({ cls := "SpillForgeModel", name := "stand", desc := "(LSpillForgeModel$Row;Z)V" } : Jvm.MethodName)) ∈ gw := gw_10 239 rfl rfl
theorem wr_p_100 : Cond.selects "SpillForgeModel" ⟨"SpillForgeModel", "stand", "(LSpillForgeModel$Row;Z)V"⟩ ⟨"SpillForgeModel", "stand", "(LSpillForgeModel$Row;Z)V"⟩ ∈ gw := gw_p _ 100 rfl rfl rfl
theorem dr_cX17_graph_87 : decode cX17_graph 87 = .ok (.aload_n 0, 1) := by decide +kernel
theorem dr_cX17_graph_88 : decode cX17_graph 88 = .ok (.aload 4, 2) := by decide +kernel
theorem dr_cX17_graph_90 : decode cX17_graph 90 = .ok (.getfield 109, 3) := by decide +kernel
theorem dr_cX17_graph_93 : decode cX17_graph 93 = .ok (.iload_n 2, 1) := by decide +kernel
theorem dr_cX17_graph_94 : decode cX17_graph 94 = .ok (.invokevirtual 113, 3) := by decide +kernel
theorem dr_cX17_graph_97 : decode cX17_graph 97 = .ok (.aload 4, 2) := by decide +kernel
theorem dr_cX17_graph_99 : decode cX17_graph 99 = .ok (.getfield 117, 3) := by decide +kernel
theorem dr_cX17_graph_102 : decode cX17_graph 102 = .ok (.invokevirtual 121, 3) := by decide +kernel
theorem dr_cX17_graph_105 : decode cX17_graph 105 = .ok (.iconst 1, 1) := by decide +kernel
theorem dr_cX17_graph_106 : decode cX17_graph 106 = .ok (.isub, 1) := by decide +kernel
theorem dr_cX17_graph_107 : decode cX17_graph 107 = .ok (.istore 5, 2) := by decide +kernel
theorem dr_cX17_graph_109 : decode cX17_graph 109 = .ok (.iload 5, 2) := by decide +kernel
theorem dr_cX17_graph_111 : decode cX17_graph 111 = .ok (.ifCond .lt 179, 3) := by decide +kernel
theorem dr_cX17_graph_290 : decode cX17_graph 290 = .ok (.iinc 3 1, 3) := by decide +kernel
theorem dr_cX17_graph_293 : decode cX17_graph 293 = .ok (.goto (-237), 3) := by decide +kernel
theorem dr_cX17_graph_114 : decode cX17_graph 114 = .ok (.aload 4, 2) := by decide +kernel
theorem dr_cX17_graph_116 : decode cX17_graph 116 = .ok (.getfield 117, 3) := by decide +kernel
theorem dr_cX17_graph_119 : decode cX17_graph 119 = .ok (.iload 5, 2) := by decide +kernel
theorem dr_cX17_graph_121 : decode cX17_graph 121 = .ok (.invokevirtual 124, 3) := by decide +kernel
theorem dr_cX17_graph_124 : decode cX17_graph 124 = .ok (.checkcast 40, 3) := by decide +kernel
theorem dr_cX17_graph_127 : decode cX17_graph 127 = .ok (.astore 6, 2) := by decide +kernel
theorem dr_cX17_graph_129 : decode cX17_graph 129 = .ok (.aload_n 0, 1) := by decide +kernel
theorem dr_cX17_graph_130 : decode cX17_graph 130 = .ok (.aload 6, 2) := by decide +kernel
theorem dr_cX17_graph_132 : decode cX17_graph 132 = .ok (.iload_n 2, 1) := by decide +kernel
theorem dr_cX17_graph_133 : decode cX17_graph 133 = .ok (.invokevirtual 138, 3) := by decide +kernel
theorem dr_cX17_graph_136 : decode cX17_graph 136 = .ok (.aload 6, 2) := by decide +kernel
theorem dr_cX17_graph_138 : decode cX17_graph 138 = .ok (.iload_n 2, 1) := by decide +kernel
theorem dr_cX17_graph_139 : decode cX17_graph 139 = .ok (.invokestatic 55, 3) := by decide +kernel
theorem dr_cX17_graph_142 : decode cX17_graph 142 = .ok (.istore 7, 2) := by decide +kernel
theorem dr_cX17_graph_144 : decode cX17_graph 144 = .ok (.iload_n 2, 1) := by decide +kernel
theorem dr_cX17_graph_145 : decode cX17_graph 145 = .ok (.ifCond .ne 27, 3) := by decide +kernel
theorem dr_cX17_graph_172 : decode cX17_graph 172 = .ok (.iconst (-1), 1) := by decide +kernel
theorem dr_cX17_graph_173 : decode cX17_graph 173 = .ok (.istore 8, 2) := by decide +kernel
theorem dr_cX17_graph_175 : decode cX17_graph 175 = .ok (.iload 7, 2) := by decide +kernel
theorem dr_cX17_graph_177 : decode cX17_graph 177 = .ok (.ifCond .lt 100, 3) := by decide +kernel
theorem dr_cX17_graph_277 : decode cX17_graph 277 = .ok (.aload_n 0, 1) := by decide +kernel
theorem dr_cX17_graph_278 : decode cX17_graph 278 = .ok (.aload 6, 2) := by decide +kernel
theorem dr_cX17_graph_280 : decode cX17_graph 280 = .ok (.iload_n 2, 1) := by decide +kernel
theorem dr_cX17_graph_281 : decode cX17_graph 281 = .ok (.invokevirtual 113, 3) := by decide +kernel
theorem dr_cX17_graph_284 : decode cX17_graph 284 = .ok (.iinc 5 (-1), 3) := by decide +kernel
theorem dr_cX17_graph_287 : decode cX17_graph 287 = .ok (.goto (-178), 3) := by decide +kernel
theorem dr_cX17_graph_180 : decode cX17_graph 180 = .ok (.iload 8, 2) := by decide +kernel
theorem dr_cX17_graph_182 : decode cX17_graph 182 = .ok (.ifCond .lt 22, 3) := by decide +kernel
theorem dr_cX17_graph_204 : decode cX17_graph 204 = .ok (.iconst 0, 1) := by decide +kernel
theorem dr_cX17_graph_205 : decode cX17_graph 205 = .ok (.istore 9, 2) := by decide +kernel
theorem dr_cX17_graph_207 : decode cX17_graph 207 = .ok (.iconst 0, 1) := by decide +kernel
theorem dr_cX17_graph_208 : decode cX17_graph 208 = .ok (.istore 10, 2) := by decide +kernel
theorem dr_cX17_graph_210 : decode cX17_graph 210 = .ok (.iload 10, 2) := by decide +kernel
theorem dr_cX17_graph_212 : decode cX17_graph 212 = .ok (.bipush 32, 2) := by decide +kernel
theorem dr_cX17_graph_214 : decode cX17_graph 214 = .ok (.if_icmp .ge 29, 3) := by decide +kernel
theorem dr_cX17_graph_243 : decode cX17_graph 243 = .ok (.iload 8, 2) := by decide +kernel
theorem dr_cX17_graph_245 : decode cX17_graph 245 = .ok (.ifCond .lt 20, 3) := by decide +kernel
theorem dr_cX17_graph_265 : decode cX17_graph 265 = .ok (.aload_n 0, 1) := by decide +kernel
theorem dr_cX17_graph_266 : decode cX17_graph 266 = .ok (.getfield 135, 3) := by decide +kernel
theorem dr_cX17_graph_269 : decode cX17_graph 269 = .ok (.iload 7, 2) := by decide +kernel
theorem dr_cX17_graph_271 : decode cX17_graph 271 = .ok (.aaload, 1) := by decide +kernel
theorem dr_cX17_graph_272 : decode cX17_graph 272 = .ok (.iload 7, 2) := by decide +kernel
theorem dr_cX17_graph_274 : decode cX17_graph 274 = .ok (.invokestatic 63, 3) := by decide +kernel
theorem dr_cX17_graph_217 : decode cX17_graph 217 = .ok (.aload_n 0, 1) := by decide +kernel
theorem dr_cX17_graph_218 : decode cX17_graph 218 = .ok (.getfield 135, 3) := by decide +kernel
theorem dr_cX17_graph_221 : decode cX17_graph 221 = .ok (.iload 7, 2) := by decide +kernel
theorem dr_cX17_graph_223 : decode cX17_graph 223 = .ok (.aaload, 1) := by decide +kernel
theorem dr_cX17_graph_224 : decode cX17_graph 224 = .ok (.iload 10, 2) := by decide +kernel
theorem dr_cX17_graph_226 : decode cX17_graph 226 = .ok (.dup2, 1) := by decide +kernel
theorem dr_cX17_graph_227 : decode cX17_graph 227 = .ok (.laload, 1) := by decide +kernel
theorem dr_cX17_graph_228 : decode cX17_graph 228 = .ok (.aload_n 0, 1) := by decide +kernel
theorem dr_cX17_graph_229 : decode cX17_graph 229 = .ok (.getfield 59, 3) := by decide +kernel
theorem dr_cX17_graph_232 : decode cX17_graph 232 = .ok (.iload 10, 2) := by decide +kernel
theorem dr_cX17_graph_234 : decode cX17_graph 234 = .ok (.laload, 1) := by decide +kernel
theorem dr_cX17_graph_235 : decode cX17_graph 235 = .ok (.lor, 1) := by decide +kernel
theorem dr_cX17_graph_236 : decode cX17_graph 236 = .ok (.lastore, 1) := by decide +kernel
theorem dr_cX17_graph_237 : decode cX17_graph 237 = .ok (.iinc 10 1, 3) := by decide +kernel
theorem dr_cX17_graph_240 : decode cX17_graph 240 = .ok (.goto (-30), 3) := by decide +kernel
theorem dr_cX17_graph_148 : decode cX17_graph 148 = .ok (.aload 6, 2) := by decide +kernel
theorem dr_cX17_graph_150 : decode cX17_graph 150 = .ok (.getfield 39, 3) := by decide +kernel
theorem dr_cX17_graph_153 : decode cX17_graph 153 = .ok (.ifCond .ne 19, 3) := by decide +kernel
theorem dr_cX17_graph_156 : decode cX17_graph 156 = .ok (.aload 6, 2) := by decide +kernel
theorem dr_cX17_graph_158 : decode cX17_graph 158 = .ok (.getfield 141, 3) := by decide +kernel
theorem dr_cX17_graph_161 : decode cX17_graph 161 = .ok (.ifCond .eq 11, 3) := by decide +kernel
theorem dr_cX17_graph_164 : decode cX17_graph 164 = .ok (.aload 6, 2) := by decide +kernel
theorem dr_cX17_graph_166 : decode cX17_graph 166 = .ok (.getfield 73, 3) := by decide +kernel
theorem dr_cX17_graph_169 : decode cX17_graph 169 = .ok (.goto 4, 3) := by decide +kernel
theorem dr_cX17_graph_185 : decode cX17_graph 185 = .ok (.aload_n 0, 1) := by decide +kernel
theorem dr_cX17_graph_186 : decode cX17_graph 186 = .ok (.getfield 135, 3) := by decide +kernel
theorem dr_cX17_graph_189 : decode cX17_graph 189 = .ok (.iload 7, 2) := by decide +kernel
theorem dr_cX17_graph_191 : decode cX17_graph 191 = .ok (.aaload, 1) := by decide +kernel
theorem dr_cX17_graph_192 : decode cX17_graph 192 = .ok (.iload 8, 2) := by decide +kernel
theorem dr_cX17_graph_194 : decode cX17_graph 194 = .ok (.invokestatic 145, 3) := by decide +kernel
theorem dr_cX17_graph_197 : decode cX17_graph 197 = .ok (.ifCond .eq 7, 3) := by decide +kernel
theorem dr_cX17_graph_248 : decode cX17_graph 248 = .ok (.iload 9, 2) := by decide +kernel
theorem dr_cX17_graph_250 : decode cX17_graph 250 = .ok (.ifCond .ne 15, 3) := by decide +kernel
theorem dr_cX17_graph_253 : decode cX17_graph 253 = .ok (.aload_n 0, 1) := by decide +kernel
theorem dr_cX17_graph_254 : decode cX17_graph 254 = .ok (.getfield 135, 3) := by decide +kernel
theorem dr_cX17_graph_257 : decode cX17_graph 257 = .ok (.iload 7, 2) := by decide +kernel
theorem dr_cX17_graph_259 : decode cX17_graph 259 = .ok (.aaload, 1) := by decide +kernel
theorem dr_cX17_graph_260 : decode cX17_graph 260 = .ok (.iload 8, 2) := by decide +kernel
theorem dr_cX17_graph_262 : decode cX17_graph 262 = .ok (.invokestatic 63, 3) := by decide +kernel
theorem dr_cX17_graph_200 : decode cX17_graph 200 = .ok (.iconst 1, 1) := by decide +kernel
theorem dr_cX17_graph_201 : decode cX17_graph 201 = .ok (.goto 4, 3) := by decide +kernel
theorem dr_cX17_graph_15 : decode cX17_graph 15 = .ok (.aload_n 0, 1) := by decide +kernel
theorem dr_cX17_graph_16 : decode cX17_graph 16 = .ok (.getfield 131, 3) := by decide +kernel
theorem dr_cX17_graph_19 : decode cX17_graph 19 = .ok (.iload_n 3, 1) := by decide +kernel
theorem dr_cX17_graph_20 : decode cX17_graph 20 = .ok (.iconst 0, 1) := by decide +kernel
theorem dr_cX17_graph_21 : decode cX17_graph 21 = .ok (.bastore, 1) := by decide +kernel
theorem dr_cX17_graph_22 : decode cX17_graph 22 = .ok (.iconst 0, 1) := by decide +kernel
theorem dr_cX17_graph_23 : decode cX17_graph 23 = .ok (.istore 4, 2) := by decide +kernel
theorem dr_cX17_graph_25 : decode cX17_graph 25 = .ok (.iload 4, 2) := by decide +kernel
theorem dr_cX17_graph_27 : decode cX17_graph 27 = .ok (.bipush 32, 2) := by decide +kernel
theorem dr_cX17_graph_29 : decode cX17_graph 29 = .ok (.if_icmp .ge 19, 3) := by decide +kernel
theorem dr_cX17_graph_48 : decode cX17_graph 48 = .ok (.iinc 3 1, 3) := by decide +kernel
theorem dr_cX17_graph_51 : decode cX17_graph 51 = .ok (.goto (-43), 3) := by decide +kernel
theorem dr_cX17_graph_32 : decode cX17_graph 32 = .ok (.aload_n 0, 1) := by decide +kernel
theorem dr_cX17_graph_33 : decode cX17_graph 33 = .ok (.getfield 135, 3) := by decide +kernel
theorem dr_cX17_graph_36 : decode cX17_graph 36 = .ok (.iload_n 3, 1) := by decide +kernel
theorem dr_cX17_graph_37 : decode cX17_graph 37 = .ok (.aaload, 1) := by decide +kernel
theorem dr_cX17_graph_38 : decode cX17_graph 38 = .ok (.iload 4, 2) := by decide +kernel
theorem dr_cX17_graph_40 : decode cX17_graph 40 = .ok (.lconst 0, 1) := by decide +kernel
theorem dr_cX17_graph_41 : decode cX17_graph 41 = .ok (.lastore, 1) := by decide +kernel
theorem dr_cX17_graph_42 : decode cX17_graph 42 = .ok (.iinc 4 1, 3) := by decide +kernel
theorem dr_cX17_graph_45 : decode cX17_graph 45 = .ok (.goto (-20), 3) := by decide +kernel
abbrev ky_279840_SpillForgeModel_back : gKey := (cX17_back, 4, "SpillForgeModel", none, [], "back", fun _ _ => True)
def pt_279840_SpillForgeModel_back (D : va_G) (I : FieldType → ClassId) (γ el : Nat → Nat → Nat) (P279835 : List Nat) (F279836 : Nat → va_E) (q279837 : Nat) (q279838 : Nat) (p279839 : Int32) : Option Value → va_W → Nat → Nat → Prop := fun r w dc ds => ∃ (F280297 : Nat → va_E), r = none ∧ w = va_pl P279835 F280297 ∧ RS D I P279835 F280297 γ el ∧ rStr γ [] F279836 F280297 ∧ dc ≤ 0 ∧ ds ≤ 0 ∧ (F280297 q279837 = F279836 q279837) ∧ (F280297 (γ 9 3) = F279836 (γ 9 3))
set_option maxRecDepth 100000 in
set_option maxHeartbeats 4000000 in
theorem ct_279840_SpillForgeModel_back (l : Launch) (hl0 : l.stackTraces = false) (D : va_G) (I : FieldType → ClassId) (γ el : Nat → Nat → Nat) (P279835 : List Nat) (F279836 : Nat → va_E) (q279837 : Nat) (q279838 : Nat) (p279839 : Int32) (hT : RS D I P279835 F279836 γ el) (htq279837 : rKd γ q279837 10) (htq279838 : rKd γ q279838 1) (bp279839 : gB p279839 0 1) : CtA (gV D I) l yX17_back cX17_back 4 none 2 41 0 0 [.ref q279837, .ref q279838, .int p279839] (va_pl P279835 F279836) (pt_279840_SpillForgeModel_back D I γ el P279835 F279836 q279837 q279838 p279839) gNA := by
  refine CtA_of hl0 (by decide) (Nat.le_of_ble_eq_true rfl) ?_
  refine G_aload_n 1 dr_cX17_back_0 rfl ?_
  refine G_iload_n 2 dr_cX17_back_1 rfl ?_
  have hm279841 : q279838 ∈ P279835 := RS_m hT htq279838 (by decide)
  obtain ⟨p279843, p279844, p279845, p279846, p279847, p279848, p279849, he279842, bp279843, bp279844, bp279847, bp279848, bp279849, r279850, r279851, r279852, r279853⟩ := show rk_1 γ q279838 (F279836 q279838) from RS_o hT htq279838
  have bp279845 := gB_any p279845
  have bp279846 := gB_any p279846
  refine Gw_callS (As := [.ref q279838, .int p279839]) (gV_ok D I) (cp_1778_SpillForgeModel_setOf l hl0 D I P279835 F279836 q279838 p279839 p279843 p279844 p279845 p279846 p279847 p279848 p279849 hm279841 he279842 bp279839 bp279843 bp279844 bp279847 bp279848 bp279849) dr_cX17_back_2 ⟨wr_10_178, wr_1_14, wr_10_180, by decide, rfl, (Nat.le_of_ble_eq_true rfl), (Nat.le_of_ble_eq_true rfl)⟩ wr_10_179 (show 0 + 0 ≤ 0 by first | omega | decide) (show 0 + 0 ≤ 0 by first | omega | decide) (Nat.le_of_ble_eq_true rfl) (fun r279857 w279858 dc279854 ds279855 hp279856 => ?_) (fun _ _ _ _ _ z => z.elim)
  obtain ⟨o279859, rfl, rfl, hdc, hds, bo279859⟩ := hp279856
  change G _ _ _ _ _ _ _ (.int o279859 :: _) _ _ _
  refine G_widen (cs' := 0) (sl' := 0) (by omega) (by omega) ?_
  refine G_istore_n (L' := [(3, .int o279859), (0, .ref q279837), (1, .ref q279838), (2, .int p279839)]) dr_cX17_back_5 (Nat.le_of_ble_eq_true rfl) rfl ?_
  refine G_iload_n 0 dr_cX17_back_6 rfl ?_
  refine G_if_lt 18 dr_cX17_back_7 (by decide +kernel) (fun hc279860 => ?_) (fun hc279860 => ?_)
  · have r279861 : o279859.toInt < 0 := gj_lt hc279860 (show Int32.toInt 0 = 0 by decide)
    have bo279859' : gB o279859 (-1) (-1) := ⟨by omega, by omega⟩
    refine G_iload_n 3 dr_cX17_back_18 rfl ?_
    refine G_if_eq 43 dr_cX17_back_19 (by decide +kernel) (fun hc279862 => ?_) (fun hc279862 => ?_)
    · have r279863 : p279839.toInt = 0 := gj_eq hc279862 (show Int32.toInt 0 = 0 by decide)
      have bp279839' : gB p279839 0 0 := ⟨by omega, by omega⟩
      refine G_aload_n 2 dr_cX17_back_43 rfl ?_
      refine Gw_callV (As := []) (gV_ok D I) (cp_1669_Row_usesA l hl0 D I P279835 F279836 q279838 p279843 p279844 p279845 p279846 p279847 p279848 p279849 hm279841 he279842 bp279843 bp279844 bp279847 bp279848 bp279849) dr_cX17_back_44 ⟨wr_10_192, wr_1_39, wr_10_195, by decide, rfl, (Nat.le_of_ble_eq_true rfl), (Nat.le_of_ble_eq_true rfl)⟩ wr_10_193 wr_10_194 hm279841 he279842 rfl (show 0 + 0 ≤ 0 by first | omega | decide) (show 0 + 0 ≤ 0 by first | omega | decide) (Nat.le_of_ble_eq_true rfl) (fun r279867 w279868 dc279864 ds279865 hp279866 => ?_) (fun _ _ _ _ _ z => z.elim)
      obtain ⟨o279869, rfl, rfl, hdc, hds, bo279869, x279870⟩ := hp279866
      change G _ _ _ _ _ _ _ (.int o279869 :: _) _ _ _
      refine G_widen (cs' := 0) (sl' := 0) (by omega) (by omega) ?_
      refine G_if_eq 61 dr_cX17_back_47 (by decide +kernel) (fun hc279871 => ?_) (fun hc279871 => ?_)
      · have r279872 : o279869.toInt = 0 := gj_eq hc279871 (show Int32.toInt 0 = 0 by decide)
        have bo279869' : gB o279869 0 0 := ⟨by omega, by omega⟩
        refine G_aload_n 2 dr_cX17_back_61 rfl ?_
        refine Gw_callV (As := []) (gV_ok D I) (cp_1693_Row_usesB l hl0 D I P279835 F279836 q279838 p279843 p279844 p279845 p279846 p279847 p279848 p279849 hm279841 he279842 bp279843 bp279844 bp279847 bp279848 bp279849) dr_cX17_back_62 ⟨wr_10_196, wr_1_39, wr_10_199, by decide, rfl, (Nat.le_of_ble_eq_true rfl), (Nat.le_of_ble_eq_true rfl)⟩ wr_10_197 wr_10_198 hm279841 he279842 rfl (show 0 + 0 ≤ 0 by first | omega | decide) (show 0 + 0 ≤ 0 by first | omega | decide) (Nat.le_of_ble_eq_true rfl) (fun r279876 w279877 dc279873 ds279874 hp279875 => ?_) (fun _ _ _ _ _ z => z.elim)
        obtain ⟨o279878, rfl, rfl, hdc, hds, bo279878, x279879⟩ := hp279875
        change G _ _ _ _ _ _ _ (.int o279878 :: _) _ _ _
        refine G_widen (cs' := 0) (sl' := 0) (by omega) (by omega) ?_
        refine G_if_eq 79 dr_cX17_back_65 (by decide +kernel) (fun hc279880 => ?_) (fun hc279880 => ?_)
        · have r279881 : o279878.toInt = 0 := gj_eq hc279880 (show Int32.toInt 0 = 0 by decide)
          have bo279878' : gB o279878 0 0 := ⟨by omega, by omega⟩
          exact G_vretA dr_cX17_back_79 rfl (Nat.le_of_ble_eq_true rfl) (Nat.le_of_ble_eq_true rfl) ⟨F279836, rfl, rfl, hT, (rStr_rf (γ := γ) (W := []) (F := F279836)), (Nat.le_of_ble_eq_true rfl), (Nat.le_of_ble_eq_true rfl), rfl, rfl⟩
        · have r279882 : o279878.toInt ≠ 0 := gj_neq hc279880 (show Int32.toInt 0 = 0 by decide)
          have bo279878' : gB o279878 1 1 := ⟨by omega, by omega⟩
          refine G_aload_n 1 dr_cX17_back_68 rfl ?_
          have hm279883 : q279837 ∈ P279835 := RS_m hT htq279837 (by decide)
          obtain ⟨q279885, q279886, p279887, p279888, p279889, p279890, p279891, p279892, p279893, p279894, p279895, p279896, p279897, p279898, p279899, p279900, p279901, he279884, hB279928, ht279902, ht279903, ht279904, ht279905, ht279906, ht279907, ht279908, ht279909, ht279910, ht279911, ht279912, ht279913, ht279914, ht279915, ht279916, ht279917, ht279918, ht279919, ht279920, ht279921, ht279922, ht279923, ht279924, ht279925, hB279929⟩ := show rk_10 γ (F279836 q279837) from RS_o hT htq279837
          refine Gp_get 2 hm279883 he279884 dr_cX17_back_69 (gk_X17 D I) (Nat.le_of_ble_eq_true rfl) wr_7_76 rfl ?_
          refine G_aload_n 2 dr_cX17_back_72 rfl ?_
          refine Gp_get 3 hm279841 he279842 dr_cX17_back_73 (gk_X15 D I) (Nat.le_of_ble_eq_true rfl) wr_9_190 rfl ?_
          have hm279930 : (γ 9 2) ∈ P279835 := RS_m hT ht279906 (by decide)
          obtain ⟨f279932, he279931, wf279932⟩ := show rk_35 I (F279836 (γ 9 2)) from RS_o hT ht279906
          refine Gw_callS (As := [.ref (γ 9 2), .int p279846]) (gV_ok D I) (cp_1853_SpillForgeModel_set l hl0 D I P279835 F279836 (γ 9 2) p279846 f279932 hm279930 he279931 ⟨by omega, by omega⟩ wf279932) dr_cX17_back_76 ⟨wr_10_189, wr_1_14, wr_10_191, by decide, rfl, (Nat.le_of_ble_eq_true rfl), (Nat.le_of_ble_eq_true rfl)⟩ wr_10_190 (show 0 + 0 ≤ 0 by first | omega | decide) (show 0 + 0 ≤ 0 by first | omega | decide) (Nat.le_of_ble_eq_true rfl) (fun r279936 w279937 dc279933 ds279934 hp279935 => ?_) (fun _ _ _ _ _ z => z.elim)
          obtain ⟨F279940, f279938, rfl, rfl, hfr279942, he279943, hdc, hds, x279939⟩ := hp279935
          have he279944 : F279940 q279838 = .inr (20, [.int p279843, .int p279844, .int p279845, .int p279846, .int p279847, .int p279848, .int p279849]) := (hfr279942 q279838 hm279841 (nm_c (rn_oa he279842 he279931) nm_n)).trans he279842
          have he279945 : F279940 q279837 = .inr (22, [.ref (γ 9 0), .ref (γ 9 1), .ref (γ 9 2), .ref (γ 9 3), .ref (γ 9 4), .ref (γ 9 5), .ref (γ 9 6), .ref (γ 9 7), .ref (γ 9 8), .int p279887, .int p279888, .int p279889, .int p279890, .int p279891, .int p279892, .ref (γ 9 15), .ref (γ 9 16), .ref (γ 9 17), .ref (γ 9 18), .ref (γ 9 19), .ref (γ 9 20), .ref (γ 9 21), .ref (γ 9 22), .int p279893, .int p279894, .int p279895, .int p279896, .int p279897, .ref q279885, .ref (γ 9 29), .int p279898, .ref (γ 9 31), .int p279899, .int p279900, .int p279901, .ref q279886]) := (hfr279942 q279837 hm279883 (nm_c (rn_oa he279884 he279931) nm_n)).trans he279884
          have hfr279946 : rFr [(γ 9 2)] P279835 F279836 F279940 := rFr_call (rSub_rf (P := P279835)) (rFr_rf (W := []) (P := P279835) (F := F279836)) hfr279942 (fun b hb hn => ⟨nm_n, (nm_c (fun e => hn (e ▸ List.mem_cons_self)) nm_n)⟩)
          change G _ _ _ _ _ _ _ _ _ _ _
          refine G_widen (cs' := 0) (sl' := 0) (by omega) (by omega) ?_
          have hT279947 : RS D I P279835 F279940 γ el := RS_fr hT hfr279946 ht279906 (by decide) ⟨f279938, he279943, x279939⟩
          have hs279948 : rStr γ [] F279836 F279940 := rStr_fr hT (rStr_rf (γ := γ) (W := []) (F := F279836)) hfr279946 ht279906 (by decide)
          have kp279949 : F279940 q279837 = F279836 q279837 := hfr279946 q279837 (RS_m hT htq279837 (by decide)) (nm_c (rn_ty htq279837 ht279906 (by decide)) nm_n)
          have kp279950 : F279940 (γ 9 3) = F279836 (γ 9 3) := hfr279946 (γ 9 3) (RS_m hT ht279907 (by decide)) (nm_c (rn_ty ht279907 ht279906 (by decide)) nm_n)
          exact G_vretA dr_cX17_back_79 rfl (Nat.le_of_ble_eq_true rfl) (Nat.le_of_ble_eq_true rfl) ⟨F279940, rfl, rfl, hT279947, hs279948, (Nat.le_of_ble_eq_true rfl), (Nat.le_of_ble_eq_true rfl), kp279949, kp279950⟩
      · have r279951 : o279869.toInt ≠ 0 := gj_neq hc279871 (show Int32.toInt 0 = 0 by decide)
        have bo279869' : gB o279869 1 1 := ⟨by omega, by omega⟩
        refine G_aload_n 1 dr_cX17_back_50 rfl ?_
        have hm279952 : q279837 ∈ P279835 := RS_m hT htq279837 (by decide)
        obtain ⟨q279954, q279955, p279956, p279957, p279958, p279959, p279960, p279961, p279962, p279963, p279964, p279965, p279966, p279967, p279968, p279969, p279970, he279953, hB279997, ht279971, ht279972, ht279973, ht279974, ht279975, ht279976, ht279977, ht279978, ht279979, ht279980, ht279981, ht279982, ht279983, ht279984, ht279985, ht279986, ht279987, ht279988, ht279989, ht279990, ht279991, ht279992, ht279993, ht279994, hB279998⟩ := show rk_10 γ (F279836 q279837) from RS_o hT htq279837
        refine Gp_get 2 hm279952 he279953 dr_cX17_back_51 (gk_X17 D I) (Nat.le_of_ble_eq_true rfl) wr_7_76 rfl ?_
        refine G_aload_n 2 dr_cX17_back_54 rfl ?_
        refine Gp_get 2 hm279841 he279842 dr_cX17_back_55 (gk_X15 D I) (Nat.le_of_ble_eq_true rfl) wr_9_186 rfl ?_
        have hm279999 : (γ 9 2) ∈ P279835 := RS_m hT ht279975 (by decide)
        obtain ⟨f280001, he280000, wf280001⟩ := show rk_35 I (F279836 (γ 9 2)) from RS_o hT ht279975
        refine Gw_callS (As := [.ref (γ 9 2), .int p279845]) (gV_ok D I) (cp_1853_SpillForgeModel_set l hl0 D I P279835 F279836 (γ 9 2) p279845 f280001 hm279999 he280000 ⟨by omega, by omega⟩ wf280001) dr_cX17_back_58 ⟨wr_10_189, wr_1_14, wr_10_191, by decide, rfl, (Nat.le_of_ble_eq_true rfl), (Nat.le_of_ble_eq_true rfl)⟩ wr_10_190 (show 0 + 0 ≤ 0 by first | omega | decide) (show 0 + 0 ≤ 0 by first | omega | decide) (Nat.le_of_ble_eq_true rfl) (fun r280005 w280006 dc280002 ds280003 hp280004 => ?_) (fun _ _ _ _ _ z => z.elim)
        obtain ⟨F280009, f280007, rfl, rfl, hfr280011, he280012, hdc, hds, x280008⟩ := hp280004
        have he280013 : F280009 q279838 = .inr (20, [.int p279843, .int p279844, .int p279845, .int p279846, .int p279847, .int p279848, .int p279849]) := (hfr280011 q279838 hm279841 (nm_c (rn_oa he279842 he280000) nm_n)).trans he279842
        have he280014 : F280009 q279837 = .inr (22, [.ref (γ 9 0), .ref (γ 9 1), .ref (γ 9 2), .ref (γ 9 3), .ref (γ 9 4), .ref (γ 9 5), .ref (γ 9 6), .ref (γ 9 7), .ref (γ 9 8), .int p279956, .int p279957, .int p279958, .int p279959, .int p279960, .int p279961, .ref (γ 9 15), .ref (γ 9 16), .ref (γ 9 17), .ref (γ 9 18), .ref (γ 9 19), .ref (γ 9 20), .ref (γ 9 21), .ref (γ 9 22), .int p279962, .int p279963, .int p279964, .int p279965, .int p279966, .ref q279954, .ref (γ 9 29), .int p279967, .ref (γ 9 31), .int p279968, .int p279969, .int p279970, .ref q279955]) := (hfr280011 q279837 hm279952 (nm_c (rn_oa he279953 he280000) nm_n)).trans he279953
        have hfr280015 : rFr [(γ 9 2)] P279835 F279836 F280009 := rFr_call (rSub_rf (P := P279835)) (rFr_rf (W := []) (P := P279835) (F := F279836)) hfr280011 (fun b hb hn => ⟨nm_n, (nm_c (fun e => hn (e ▸ List.mem_cons_self)) nm_n)⟩)
        change G _ _ _ _ _ _ _ _ _ _ _
        refine G_widen (cs' := 0) (sl' := 0) (by omega) (by omega) ?_
        have hT280016 : RS D I P279835 F280009 γ el := RS_fr hT hfr280015 ht279975 (by decide) ⟨f280007, he280012, x280008⟩
        have hs280017 : rStr γ [] F279836 F280009 := rStr_fr hT (rStr_rf (γ := γ) (W := []) (F := F279836)) hfr280015 ht279975 (by decide)
        have kp280018 : F280009 q279837 = F279836 q279837 := hfr280015 q279837 (RS_m hT htq279837 (by decide)) (nm_c (rn_ty htq279837 ht279975 (by decide)) nm_n)
        have kp280019 : F280009 (γ 9 3) = F279836 (γ 9 3) := hfr280015 (γ 9 3) (RS_m hT ht279976 (by decide)) (nm_c (rn_ty ht279976 ht279975 (by decide)) nm_n)
        refine G_aload_n 2 dr_cX17_back_61 rfl ?_
        refine Gw_callV (As := []) (gV_ok D I) (cp_1693_Row_usesB l hl0 D I P279835 F280009 q279838 p279843 p279844 p279845 p279846 p279847 p279848 p279849 hm279841 he280013 bp279843 bp279844 bp279847 bp279848 bp279849) dr_cX17_back_62 ⟨wr_10_196, wr_1_39, wr_10_199, by decide, rfl, (Nat.le_of_ble_eq_true rfl), (Nat.le_of_ble_eq_true rfl)⟩ wr_10_197 wr_10_198 hm279841 he280013 rfl (show 0 + 0 ≤ 0 by first | omega | decide) (show 0 + 0 ≤ 0 by first | omega | decide) (Nat.le_of_ble_eq_true rfl) (fun r280023 w280024 dc280020 ds280021 hp280022 => ?_) (fun _ _ _ _ _ z => z.elim)
        obtain ⟨o280025, rfl, rfl, hdc, hds, bo280025, x280026⟩ := hp280022
        change G _ _ _ _ _ _ _ (.int o280025 :: _) _ _ _
        refine G_widen (cs' := 0) (sl' := 0) (by omega) (by omega) ?_
        refine G_if_eq 79 dr_cX17_back_65 (by decide +kernel) (fun hc280027 => ?_) (fun hc280027 => ?_)
        · have r280028 : o280025.toInt = 0 := gj_eq hc280027 (show Int32.toInt 0 = 0 by decide)
          have bo280025' : gB o280025 0 0 := ⟨by omega, by omega⟩
          exact G_vretA dr_cX17_back_79 rfl (Nat.le_of_ble_eq_true rfl) (Nat.le_of_ble_eq_true rfl) ⟨F280009, rfl, rfl, hT280016, hs280017, (Nat.le_of_ble_eq_true rfl), (Nat.le_of_ble_eq_true rfl), kp280018, kp280019⟩
        · have r280029 : o280025.toInt ≠ 0 := gj_neq hc280027 (show Int32.toInt 0 = 0 by decide)
          have bo280025' : gB o280025 1 1 := ⟨by omega, by omega⟩
          refine G_aload_n 1 dr_cX17_back_68 rfl ?_
          refine Gp_get 2 hm279952 he280014 dr_cX17_back_69 (gk_X17 D I) (Nat.le_of_ble_eq_true rfl) wr_7_76 rfl ?_
          refine G_aload_n 2 dr_cX17_back_72 rfl ?_
          refine Gp_get 3 hm279841 he280013 dr_cX17_back_73 (gk_X15 D I) (Nat.le_of_ble_eq_true rfl) wr_9_190 rfl ?_
          refine Gw_callS (As := [.ref (γ 9 2), .int p279846]) (gV_ok D I) (cp_1853_SpillForgeModel_set l hl0 D I P279835 F280009 (γ 9 2) p279846 f280007 hm279999 he280012 ⟨by omega, by omega⟩ x280008) dr_cX17_back_76 ⟨wr_10_189, wr_1_14, wr_10_191, by decide, rfl, (Nat.le_of_ble_eq_true rfl), (Nat.le_of_ble_eq_true rfl)⟩ wr_10_190 (show 0 + 0 ≤ 0 by first | omega | decide) (show 0 + 0 ≤ 0 by first | omega | decide) (Nat.le_of_ble_eq_true rfl) (fun r280033 w280034 dc280030 ds280031 hp280032 => ?_) (fun _ _ _ _ _ z => z.elim)
          obtain ⟨F280037, f280035, rfl, rfl, hfr280039, he280040, hdc, hds, x280036⟩ := hp280032
          have he280041 : F280037 q279838 = .inr (20, [.int p279843, .int p279844, .int p279845, .int p279846, .int p279847, .int p279848, .int p279849]) := (hfr280039 q279838 hm279841 (nm_c (rn_oa he280013 he280012) nm_n)).trans he280013
          have he280042 : F280037 q279837 = .inr (22, [.ref (γ 9 0), .ref (γ 9 1), .ref (γ 9 2), .ref (γ 9 3), .ref (γ 9 4), .ref (γ 9 5), .ref (γ 9 6), .ref (γ 9 7), .ref (γ 9 8), .int p279956, .int p279957, .int p279958, .int p279959, .int p279960, .int p279961, .ref (γ 9 15), .ref (γ 9 16), .ref (γ 9 17), .ref (γ 9 18), .ref (γ 9 19), .ref (γ 9 20), .ref (γ 9 21), .ref (γ 9 22), .int p279962, .int p279963, .int p279964, .int p279965, .int p279966, .ref q279954, .ref (γ 9 29), .int p279967, .ref (γ 9 31), .int p279968, .int p279969, .int p279970, .ref q279955]) := (hfr280039 q279837 hm279952 (nm_c (rn_oa he280014 he280012) nm_n)).trans he280014
          have hfr280043 : rFr [(γ 9 2)] P279835 F280009 F280037 := rFr_call (rSub_rf (P := P279835)) (rFr_rf (W := []) (P := P279835) (F := F280009)) hfr280039 (fun b hb hn => ⟨nm_n, (nm_c (fun e => hn (e ▸ List.mem_cons_self)) nm_n)⟩)
          change G _ _ _ _ _ _ _ _ _ _ _
          refine G_widen (cs' := 0) (sl' := 0) (by omega) (by omega) ?_
          have hT280044 : RS D I P279835 F280037 γ el := RS_fr hT280016 hfr280043 ht279975 (by decide) ⟨f280035, he280040, x280036⟩
          have hs280045 : rStr γ [] F279836 F280037 := rStr_fr hT280016 hs280017 hfr280043 ht279975 (by decide)
          have kp280046 : F280037 q279837 = F279836 q279837 := (hfr280043 q279837 (RS_m hT280016 htq279837 (by decide)) (nm_c (rn_ty htq279837 ht279975 (by decide)) nm_n)).trans kp280018
          have kp280047 : F280037 (γ 9 3) = F279836 (γ 9 3) := (hfr280043 (γ 9 3) (RS_m hT280016 ht279976 (by decide)) (nm_c (rn_ty ht279976 ht279975 (by decide)) nm_n)).trans kp280019
          exact G_vretA dr_cX17_back_79 rfl (Nat.le_of_ble_eq_true rfl) (Nat.le_of_ble_eq_true rfl) ⟨F280037, rfl, rfl, hT280044, hs280045, (Nat.le_of_ble_eq_true rfl), (Nat.le_of_ble_eq_true rfl), kp280046, kp280047⟩
    · have r280048 : p279839.toInt ≠ 0 := gj_neq hc279862 (show Int32.toInt 0 = 0 by decide)
      have bp279839' : gB p279839 1 1 := ⟨by omega, by omega⟩
      refine G_aload_n 2 dr_cX17_back_22 rfl ?_
      refine Gp_get 0 hm279841 he279842 dr_cX17_back_23 (gk_X15 D I) (Nat.le_of_ble_eq_true rfl) wr_9_177 rfl ?_
      refine G_bipush 21 dr_cX17_back_26 (by decide +kernel) ?_
      refine G_icmp_ne 42 dr_cX17_back_28 (by decide +kernel) (fun hc280049 => ?_) (fun hc280049 => ?_)
      · have r280050 : p279843.toInt ≠ 21 := gj_neq hc280049 (show Int32.toInt 21 = 21 by decide)
        exact G_vretA dr_cX17_back_42 rfl (Nat.le_of_ble_eq_true rfl) (Nat.le_of_ble_eq_true rfl) ⟨F279836, rfl, rfl, hT, (rStr_rf (γ := γ) (W := []) (F := F279836)), (Nat.le_of_ble_eq_true rfl), (Nat.le_of_ble_eq_true rfl), rfl, rfl⟩
      · have r280051 : p279843.toInt = 21 := gj_eq hc280049 (show Int32.toInt 21 = 21 by decide)
        have bp279843' : gB p279843 21 21 := ⟨by omega, by omega⟩
        refine G_aload_n 1 dr_cX17_back_31 rfl ?_
        have hm280052 : q279837 ∈ P279835 := RS_m hT htq279837 (by decide)
        obtain ⟨q280054, q280055, p280056, p280057, p280058, p280059, p280060, p280061, p280062, p280063, p280064, p280065, p280066, p280067, p280068, p280069, p280070, he280053, hB280097, ht280071, ht280072, ht280073, ht280074, ht280075, ht280076, ht280077, ht280078, ht280079, ht280080, ht280081, ht280082, ht280083, ht280084, ht280085, ht280086, ht280087, ht280088, ht280089, ht280090, ht280091, ht280092, ht280093, ht280094, hB280098⟩ := show rk_10 γ (F279836 q279837) from RS_o hT htq279837
        refine Gp_get 2 hm280052 he280053 dr_cX17_back_32 (gk_X17 D I) (Nat.le_of_ble_eq_true rfl) wr_7_76 rfl ?_
        refine G_aload_n 2 dr_cX17_back_35 rfl ?_
        refine Gp_get 4 hm279841 he279842 dr_cX17_back_36 (gk_X15 D I) (Nat.le_of_ble_eq_true rfl) wr_9_193 rfl ?_
        have hm280099 : (γ 9 2) ∈ P279835 := RS_m hT ht280075 (by decide)
        obtain ⟨f280101, he280100, wf280101⟩ := show rk_35 I (F279836 (γ 9 2)) from RS_o hT ht280075
        refine Gw_callS (As := [.ref (γ 9 2), .int p279847]) (gV_ok D I) (cp_1853_SpillForgeModel_set l hl0 D I P279835 F279836 (γ 9 2) p279847 f280101 hm280099 he280100 bp279847 wf280101) dr_cX17_back_39 ⟨wr_10_189, wr_1_14, wr_10_191, by decide, rfl, (Nat.le_of_ble_eq_true rfl), (Nat.le_of_ble_eq_true rfl)⟩ wr_10_190 (show 0 + 0 ≤ 0 by first | omega | decide) (show 0 + 0 ≤ 0 by first | omega | decide) (Nat.le_of_ble_eq_true rfl) (fun r280105 w280106 dc280102 ds280103 hp280104 => ?_) (fun _ _ _ _ _ z => z.elim)
        obtain ⟨F280109, f280107, rfl, rfl, hfr280111, he280112, hdc, hds, x280108⟩ := hp280104
        have he280113 : F280109 q279838 = .inr (20, [.int p279843, .int p279844, .int p279845, .int p279846, .int p279847, .int p279848, .int p279849]) := (hfr280111 q279838 hm279841 (nm_c (rn_oa he279842 he280100) nm_n)).trans he279842
        have he280114 : F280109 q279837 = .inr (22, [.ref (γ 9 0), .ref (γ 9 1), .ref (γ 9 2), .ref (γ 9 3), .ref (γ 9 4), .ref (γ 9 5), .ref (γ 9 6), .ref (γ 9 7), .ref (γ 9 8), .int p280056, .int p280057, .int p280058, .int p280059, .int p280060, .int p280061, .ref (γ 9 15), .ref (γ 9 16), .ref (γ 9 17), .ref (γ 9 18), .ref (γ 9 19), .ref (γ 9 20), .ref (γ 9 21), .ref (γ 9 22), .int p280062, .int p280063, .int p280064, .int p280065, .int p280066, .ref q280054, .ref (γ 9 29), .int p280067, .ref (γ 9 31), .int p280068, .int p280069, .int p280070, .ref q280055]) := (hfr280111 q279837 hm280052 (nm_c (rn_oa he280053 he280100) nm_n)).trans he280053
        have hfr280115 : rFr [(γ 9 2)] P279835 F279836 F280109 := rFr_call (rSub_rf (P := P279835)) (rFr_rf (W := []) (P := P279835) (F := F279836)) hfr280111 (fun b hb hn => ⟨nm_n, (nm_c (fun e => hn (e ▸ List.mem_cons_self)) nm_n)⟩)
        change G _ _ _ _ _ _ _ _ _ _ _
        refine G_widen (cs' := 0) (sl' := 0) (by omega) (by omega) ?_
        have hT280116 : RS D I P279835 F280109 γ el := RS_fr hT hfr280115 ht280075 (by decide) ⟨f280107, he280112, x280108⟩
        have hs280117 : rStr γ [] F279836 F280109 := rStr_fr hT (rStr_rf (γ := γ) (W := []) (F := F279836)) hfr280115 ht280075 (by decide)
        have kp280118 : F280109 q279837 = F279836 q279837 := hfr280115 q279837 (RS_m hT htq279837 (by decide)) (nm_c (rn_ty htq279837 ht280075 (by decide)) nm_n)
        have kp280119 : F280109 (γ 9 3) = F279836 (γ 9 3) := hfr280115 (γ 9 3) (RS_m hT ht280076 (by decide)) (nm_c (rn_ty ht280076 ht280075 (by decide)) nm_n)
        exact G_vretA dr_cX17_back_42 rfl (Nat.le_of_ble_eq_true rfl) (Nat.le_of_ble_eq_true rfl) ⟨F280109, rfl, rfl, hT280116, hs280117, (Nat.le_of_ble_eq_true rfl), (Nat.le_of_ble_eq_true rfl), kp280118, kp280119⟩
  · have r280120 : 0 ≤ o279859.toInt := gj_nlt hc279860 (show Int32.toInt 0 = 0 by decide)
    have bo279859' : gB o279859 0 1999 := ⟨by omega, by omega⟩
    refine G_aload_n 1 dr_cX17_back_10 rfl ?_
    have hm280121 : q279837 ∈ P279835 := RS_m hT htq279837 (by decide)
    obtain ⟨q280123, q280124, p280125, p280126, p280127, p280128, p280129, p280130, p280131, p280132, p280133, p280134, p280135, p280136, p280137, p280138, p280139, he280122, hB280166, ht280140, ht280141, ht280142, ht280143, ht280144, ht280145, ht280146, ht280147, ht280148, ht280149, ht280150, ht280151, ht280152, ht280153, ht280154, ht280155, ht280156, ht280157, ht280158, ht280159, ht280160, ht280161, ht280162, ht280163, hB280167⟩ := show rk_10 γ (F279836 q279837) from RS_o hT htq279837
    refine Gp_get 2 hm280121 he280122 dr_cX17_back_11 (gk_X17 D I) (Nat.le_of_ble_eq_true rfl) wr_7_76 rfl ?_
    refine G_iload_n 0 dr_cX17_back_14 rfl ?_
    have hm280168 : (γ 9 2) ∈ P279835 := RS_m hT ht280144 (by decide)
    obtain ⟨f280170, he280169, wf280170⟩ := show rk_35 I (F279836 (γ 9 2)) from RS_o hT ht280144
    refine Gw_callS (As := [.ref (γ 9 2), .int o279859]) (gV_ok D I) (cp_1873_SpillForgeModel_clear l hl0 D I P279835 F279836 (γ 9 2) o279859 f280170 hm280168 he280169 bo279859' wf280170) dr_cX17_back_15 ⟨wr_10_185, wr_1_14, wr_10_187, by decide, rfl, (Nat.le_of_ble_eq_true rfl), (Nat.le_of_ble_eq_true rfl)⟩ wr_10_186 (show 0 + 0 ≤ 0 by first | omega | decide) (show 0 + 0 ≤ 0 by first | omega | decide) (Nat.le_of_ble_eq_true rfl) (fun r280174 w280175 dc280171 ds280172 hp280173 => ?_) (fun _ _ _ _ _ z => z.elim)
    obtain ⟨F280178, f280176, rfl, rfl, hfr280180, he280181, hdc, hds, x280177⟩ := hp280173
    have he280182 : F280178 q279838 = .inr (20, [.int p279843, .int p279844, .int p279845, .int p279846, .int p279847, .int p279848, .int p279849]) := (hfr280180 q279838 hm279841 (nm_c (rn_oa he279842 he280169) nm_n)).trans he279842
    have he280183 : F280178 q279837 = .inr (22, [.ref (γ 9 0), .ref (γ 9 1), .ref (γ 9 2), .ref (γ 9 3), .ref (γ 9 4), .ref (γ 9 5), .ref (γ 9 6), .ref (γ 9 7), .ref (γ 9 8), .int p280125, .int p280126, .int p280127, .int p280128, .int p280129, .int p280130, .ref (γ 9 15), .ref (γ 9 16), .ref (γ 9 17), .ref (γ 9 18), .ref (γ 9 19), .ref (γ 9 20), .ref (γ 9 21), .ref (γ 9 22), .int p280131, .int p280132, .int p280133, .int p280134, .int p280135, .ref q280123, .ref (γ 9 29), .int p280136, .ref (γ 9 31), .int p280137, .int p280138, .int p280139, .ref q280124]) := (hfr280180 q279837 hm280121 (nm_c (rn_oa he280122 he280169) nm_n)).trans he280122
    have hfr280184 : rFr [(γ 9 2)] P279835 F279836 F280178 := rFr_call (rSub_rf (P := P279835)) (rFr_rf (W := []) (P := P279835) (F := F279836)) hfr280180 (fun b hb hn => ⟨nm_n, (nm_c (fun e => hn (e ▸ List.mem_cons_self)) nm_n)⟩)
    change G _ _ _ _ _ _ _ _ _ _ _
    refine G_widen (cs' := 0) (sl' := 0) (by omega) (by omega) ?_
    have hT280185 : RS D I P279835 F280178 γ el := RS_fr hT hfr280184 ht280144 (by decide) ⟨f280176, he280181, x280177⟩
    have hs280186 : rStr γ [] F279836 F280178 := rStr_fr hT (rStr_rf (γ := γ) (W := []) (F := F279836)) hfr280184 ht280144 (by decide)
    have kp280187 : F280178 q279837 = F279836 q279837 := hfr280184 q279837 (RS_m hT htq279837 (by decide)) (nm_c (rn_ty htq279837 ht280144 (by decide)) nm_n)
    have kp280188 : F280178 (γ 9 3) = F279836 (γ 9 3) := hfr280184 (γ 9 3) (RS_m hT ht280145 (by decide)) (nm_c (rn_ty ht280145 ht280144 (by decide)) nm_n)
    refine G_iload_n 3 dr_cX17_back_18 rfl ?_
    refine G_if_eq 43 dr_cX17_back_19 (by decide +kernel) (fun hc280189 => ?_) (fun hc280189 => ?_)
    · have r280190 : p279839.toInt = 0 := gj_eq hc280189 (show Int32.toInt 0 = 0 by decide)
      have bp279839' : gB p279839 0 0 := ⟨by omega, by omega⟩
      refine G_aload_n 2 dr_cX17_back_43 rfl ?_
      refine Gw_callV (As := []) (gV_ok D I) (cp_1669_Row_usesA l hl0 D I P279835 F280178 q279838 p279843 p279844 p279845 p279846 p279847 p279848 p279849 hm279841 he280182 bp279843 bp279844 bp279847 bp279848 bp279849) dr_cX17_back_44 ⟨wr_10_192, wr_1_39, wr_10_195, by decide, rfl, (Nat.le_of_ble_eq_true rfl), (Nat.le_of_ble_eq_true rfl)⟩ wr_10_193 wr_10_194 hm279841 he280182 rfl (show 0 + 0 ≤ 0 by first | omega | decide) (show 0 + 0 ≤ 0 by first | omega | decide) (Nat.le_of_ble_eq_true rfl) (fun r280194 w280195 dc280191 ds280192 hp280193 => ?_) (fun _ _ _ _ _ z => z.elim)
      obtain ⟨o280196, rfl, rfl, hdc, hds, bo280196, x280197⟩ := hp280193
      change G _ _ _ _ _ _ _ (.int o280196 :: _) _ _ _
      refine G_widen (cs' := 0) (sl' := 0) (by omega) (by omega) ?_
      refine G_if_eq 61 dr_cX17_back_47 (by decide +kernel) (fun hc280198 => ?_) (fun hc280198 => ?_)
      · have r280199 : o280196.toInt = 0 := gj_eq hc280198 (show Int32.toInt 0 = 0 by decide)
        have bo280196' : gB o280196 0 0 := ⟨by omega, by omega⟩
        refine G_aload_n 2 dr_cX17_back_61 rfl ?_
        refine Gw_callV (As := []) (gV_ok D I) (cp_1693_Row_usesB l hl0 D I P279835 F280178 q279838 p279843 p279844 p279845 p279846 p279847 p279848 p279849 hm279841 he280182 bp279843 bp279844 bp279847 bp279848 bp279849) dr_cX17_back_62 ⟨wr_10_196, wr_1_39, wr_10_199, by decide, rfl, (Nat.le_of_ble_eq_true rfl), (Nat.le_of_ble_eq_true rfl)⟩ wr_10_197 wr_10_198 hm279841 he280182 rfl (show 0 + 0 ≤ 0 by first | omega | decide) (show 0 + 0 ≤ 0 by first | omega | decide) (Nat.le_of_ble_eq_true rfl) (fun r280203 w280204 dc280200 ds280201 hp280202 => ?_) (fun _ _ _ _ _ z => z.elim)
        obtain ⟨o280205, rfl, rfl, hdc, hds, bo280205, x280206⟩ := hp280202
        change G _ _ _ _ _ _ _ (.int o280205 :: _) _ _ _
        refine G_widen (cs' := 0) (sl' := 0) (by omega) (by omega) ?_
        refine G_if_eq 79 dr_cX17_back_65 (by decide +kernel) (fun hc280207 => ?_) (fun hc280207 => ?_)
        · have r280208 : o280205.toInt = 0 := gj_eq hc280207 (show Int32.toInt 0 = 0 by decide)
          have bo280205' : gB o280205 0 0 := ⟨by omega, by omega⟩
          exact G_vretA dr_cX17_back_79 rfl (Nat.le_of_ble_eq_true rfl) (Nat.le_of_ble_eq_true rfl) ⟨F280178, rfl, rfl, hT280185, hs280186, (Nat.le_of_ble_eq_true rfl), (Nat.le_of_ble_eq_true rfl), kp280187, kp280188⟩
        · have r280209 : o280205.toInt ≠ 0 := gj_neq hc280207 (show Int32.toInt 0 = 0 by decide)
          have bo280205' : gB o280205 1 1 := ⟨by omega, by omega⟩
          refine G_aload_n 1 dr_cX17_back_68 rfl ?_
          refine Gp_get 2 hm280121 he280183 dr_cX17_back_69 (gk_X17 D I) (Nat.le_of_ble_eq_true rfl) wr_7_76 rfl ?_
          refine G_aload_n 2 dr_cX17_back_72 rfl ?_
          refine Gp_get 3 hm279841 he280182 dr_cX17_back_73 (gk_X15 D I) (Nat.le_of_ble_eq_true rfl) wr_9_190 rfl ?_
          refine Gw_callS (As := [.ref (γ 9 2), .int p279846]) (gV_ok D I) (cp_1853_SpillForgeModel_set l hl0 D I P279835 F280178 (γ 9 2) p279846 f280176 hm280168 he280181 ⟨by omega, by omega⟩ x280177) dr_cX17_back_76 ⟨wr_10_189, wr_1_14, wr_10_191, by decide, rfl, (Nat.le_of_ble_eq_true rfl), (Nat.le_of_ble_eq_true rfl)⟩ wr_10_190 (show 0 + 0 ≤ 0 by first | omega | decide) (show 0 + 0 ≤ 0 by first | omega | decide) (Nat.le_of_ble_eq_true rfl) (fun r280213 w280214 dc280210 ds280211 hp280212 => ?_) (fun _ _ _ _ _ z => z.elim)
          obtain ⟨F280217, f280215, rfl, rfl, hfr280219, he280220, hdc, hds, x280216⟩ := hp280212
          have he280221 : F280217 q279838 = .inr (20, [.int p279843, .int p279844, .int p279845, .int p279846, .int p279847, .int p279848, .int p279849]) := (hfr280219 q279838 hm279841 (nm_c (rn_oa he280182 he280181) nm_n)).trans he280182
          have he280222 : F280217 q279837 = .inr (22, [.ref (γ 9 0), .ref (γ 9 1), .ref (γ 9 2), .ref (γ 9 3), .ref (γ 9 4), .ref (γ 9 5), .ref (γ 9 6), .ref (γ 9 7), .ref (γ 9 8), .int p280125, .int p280126, .int p280127, .int p280128, .int p280129, .int p280130, .ref (γ 9 15), .ref (γ 9 16), .ref (γ 9 17), .ref (γ 9 18), .ref (γ 9 19), .ref (γ 9 20), .ref (γ 9 21), .ref (γ 9 22), .int p280131, .int p280132, .int p280133, .int p280134, .int p280135, .ref q280123, .ref (γ 9 29), .int p280136, .ref (γ 9 31), .int p280137, .int p280138, .int p280139, .ref q280124]) := (hfr280219 q279837 hm280121 (nm_c (rn_oa he280183 he280181) nm_n)).trans he280183
          have hfr280223 : rFr [(γ 9 2)] P279835 F280178 F280217 := rFr_call (rSub_rf (P := P279835)) (rFr_rf (W := []) (P := P279835) (F := F280178)) hfr280219 (fun b hb hn => ⟨nm_n, (nm_c (fun e => hn (e ▸ List.mem_cons_self)) nm_n)⟩)
          change G _ _ _ _ _ _ _ _ _ _ _
          refine G_widen (cs' := 0) (sl' := 0) (by omega) (by omega) ?_
          have hT280224 : RS D I P279835 F280217 γ el := RS_fr hT280185 hfr280223 ht280144 (by decide) ⟨f280215, he280220, x280216⟩
          have hs280225 : rStr γ [] F279836 F280217 := rStr_fr hT280185 hs280186 hfr280223 ht280144 (by decide)
          have kp280226 : F280217 q279837 = F279836 q279837 := (hfr280223 q279837 (RS_m hT280185 htq279837 (by decide)) (nm_c (rn_ty htq279837 ht280144 (by decide)) nm_n)).trans kp280187
          have kp280227 : F280217 (γ 9 3) = F279836 (γ 9 3) := (hfr280223 (γ 9 3) (RS_m hT280185 ht280145 (by decide)) (nm_c (rn_ty ht280145 ht280144 (by decide)) nm_n)).trans kp280188
          exact G_vretA dr_cX17_back_79 rfl (Nat.le_of_ble_eq_true rfl) (Nat.le_of_ble_eq_true rfl) ⟨F280217, rfl, rfl, hT280224, hs280225, (Nat.le_of_ble_eq_true rfl), (Nat.le_of_ble_eq_true rfl), kp280226, kp280227⟩
      · have r280228 : o280196.toInt ≠ 0 := gj_neq hc280198 (show Int32.toInt 0 = 0 by decide)
        have bo280196' : gB o280196 1 1 := ⟨by omega, by omega⟩
        refine G_aload_n 1 dr_cX17_back_50 rfl ?_
        refine Gp_get 2 hm280121 he280183 dr_cX17_back_51 (gk_X17 D I) (Nat.le_of_ble_eq_true rfl) wr_7_76 rfl ?_
        refine G_aload_n 2 dr_cX17_back_54 rfl ?_
        refine Gp_get 2 hm279841 he280182 dr_cX17_back_55 (gk_X15 D I) (Nat.le_of_ble_eq_true rfl) wr_9_186 rfl ?_
        refine Gw_callS (As := [.ref (γ 9 2), .int p279845]) (gV_ok D I) (cp_1853_SpillForgeModel_set l hl0 D I P279835 F280178 (γ 9 2) p279845 f280176 hm280168 he280181 ⟨by omega, by omega⟩ x280177) dr_cX17_back_58 ⟨wr_10_189, wr_1_14, wr_10_191, by decide, rfl, (Nat.le_of_ble_eq_true rfl), (Nat.le_of_ble_eq_true rfl)⟩ wr_10_190 (show 0 + 0 ≤ 0 by first | omega | decide) (show 0 + 0 ≤ 0 by first | omega | decide) (Nat.le_of_ble_eq_true rfl) (fun r280232 w280233 dc280229 ds280230 hp280231 => ?_) (fun _ _ _ _ _ z => z.elim)
        obtain ⟨F280236, f280234, rfl, rfl, hfr280238, he280239, hdc, hds, x280235⟩ := hp280231
        have he280240 : F280236 q279838 = .inr (20, [.int p279843, .int p279844, .int p279845, .int p279846, .int p279847, .int p279848, .int p279849]) := (hfr280238 q279838 hm279841 (nm_c (rn_oa he280182 he280181) nm_n)).trans he280182
        have he280241 : F280236 q279837 = .inr (22, [.ref (γ 9 0), .ref (γ 9 1), .ref (γ 9 2), .ref (γ 9 3), .ref (γ 9 4), .ref (γ 9 5), .ref (γ 9 6), .ref (γ 9 7), .ref (γ 9 8), .int p280125, .int p280126, .int p280127, .int p280128, .int p280129, .int p280130, .ref (γ 9 15), .ref (γ 9 16), .ref (γ 9 17), .ref (γ 9 18), .ref (γ 9 19), .ref (γ 9 20), .ref (γ 9 21), .ref (γ 9 22), .int p280131, .int p280132, .int p280133, .int p280134, .int p280135, .ref q280123, .ref (γ 9 29), .int p280136, .ref (γ 9 31), .int p280137, .int p280138, .int p280139, .ref q280124]) := (hfr280238 q279837 hm280121 (nm_c (rn_oa he280183 he280181) nm_n)).trans he280183
        have hfr280242 : rFr [(γ 9 2)] P279835 F280178 F280236 := rFr_call (rSub_rf (P := P279835)) (rFr_rf (W := []) (P := P279835) (F := F280178)) hfr280238 (fun b hb hn => ⟨nm_n, (nm_c (fun e => hn (e ▸ List.mem_cons_self)) nm_n)⟩)
        change G _ _ _ _ _ _ _ _ _ _ _
        refine G_widen (cs' := 0) (sl' := 0) (by omega) (by omega) ?_
        have hT280243 : RS D I P279835 F280236 γ el := RS_fr hT280185 hfr280242 ht280144 (by decide) ⟨f280234, he280239, x280235⟩
        have hs280244 : rStr γ [] F279836 F280236 := rStr_fr hT280185 hs280186 hfr280242 ht280144 (by decide)
        have kp280245 : F280236 q279837 = F279836 q279837 := (hfr280242 q279837 (RS_m hT280185 htq279837 (by decide)) (nm_c (rn_ty htq279837 ht280144 (by decide)) nm_n)).trans kp280187
        have kp280246 : F280236 (γ 9 3) = F279836 (γ 9 3) := (hfr280242 (γ 9 3) (RS_m hT280185 ht280145 (by decide)) (nm_c (rn_ty ht280145 ht280144 (by decide)) nm_n)).trans kp280188
        refine G_aload_n 2 dr_cX17_back_61 rfl ?_
        refine Gw_callV (As := []) (gV_ok D I) (cp_1693_Row_usesB l hl0 D I P279835 F280236 q279838 p279843 p279844 p279845 p279846 p279847 p279848 p279849 hm279841 he280240 bp279843 bp279844 bp279847 bp279848 bp279849) dr_cX17_back_62 ⟨wr_10_196, wr_1_39, wr_10_199, by decide, rfl, (Nat.le_of_ble_eq_true rfl), (Nat.le_of_ble_eq_true rfl)⟩ wr_10_197 wr_10_198 hm279841 he280240 rfl (show 0 + 0 ≤ 0 by first | omega | decide) (show 0 + 0 ≤ 0 by first | omega | decide) (Nat.le_of_ble_eq_true rfl) (fun r280250 w280251 dc280247 ds280248 hp280249 => ?_) (fun _ _ _ _ _ z => z.elim)
        obtain ⟨o280252, rfl, rfl, hdc, hds, bo280252, x280253⟩ := hp280249
        change G _ _ _ _ _ _ _ (.int o280252 :: _) _ _ _
        refine G_widen (cs' := 0) (sl' := 0) (by omega) (by omega) ?_
        refine G_if_eq 79 dr_cX17_back_65 (by decide +kernel) (fun hc280254 => ?_) (fun hc280254 => ?_)
        · have r280255 : o280252.toInt = 0 := gj_eq hc280254 (show Int32.toInt 0 = 0 by decide)
          have bo280252' : gB o280252 0 0 := ⟨by omega, by omega⟩
          exact G_vretA dr_cX17_back_79 rfl (Nat.le_of_ble_eq_true rfl) (Nat.le_of_ble_eq_true rfl) ⟨F280236, rfl, rfl, hT280243, hs280244, (Nat.le_of_ble_eq_true rfl), (Nat.le_of_ble_eq_true rfl), kp280245, kp280246⟩
        · have r280256 : o280252.toInt ≠ 0 := gj_neq hc280254 (show Int32.toInt 0 = 0 by decide)
          have bo280252' : gB o280252 1 1 := ⟨by omega, by omega⟩
          refine G_aload_n 1 dr_cX17_back_68 rfl ?_
          refine Gp_get 2 hm280121 he280241 dr_cX17_back_69 (gk_X17 D I) (Nat.le_of_ble_eq_true rfl) wr_7_76 rfl ?_
          refine G_aload_n 2 dr_cX17_back_72 rfl ?_
          refine Gp_get 3 hm279841 he280240 dr_cX17_back_73 (gk_X15 D I) (Nat.le_of_ble_eq_true rfl) wr_9_190 rfl ?_
          refine Gw_callS (As := [.ref (γ 9 2), .int p279846]) (gV_ok D I) (cp_1853_SpillForgeModel_set l hl0 D I P279835 F280236 (γ 9 2) p279846 f280234 hm280168 he280239 ⟨by omega, by omega⟩ x280235) dr_cX17_back_76 ⟨wr_10_189, wr_1_14, wr_10_191, by decide, rfl, (Nat.le_of_ble_eq_true rfl), (Nat.le_of_ble_eq_true rfl)⟩ wr_10_190 (show 0 + 0 ≤ 0 by first | omega | decide) (show 0 + 0 ≤ 0 by first | omega | decide) (Nat.le_of_ble_eq_true rfl) (fun r280260 w280261 dc280257 ds280258 hp280259 => ?_) (fun _ _ _ _ _ z => z.elim)
          obtain ⟨F280264, f280262, rfl, rfl, hfr280266, he280267, hdc, hds, x280263⟩ := hp280259
          have he280268 : F280264 q279838 = .inr (20, [.int p279843, .int p279844, .int p279845, .int p279846, .int p279847, .int p279848, .int p279849]) := (hfr280266 q279838 hm279841 (nm_c (rn_oa he280240 he280239) nm_n)).trans he280240
          have he280269 : F280264 q279837 = .inr (22, [.ref (γ 9 0), .ref (γ 9 1), .ref (γ 9 2), .ref (γ 9 3), .ref (γ 9 4), .ref (γ 9 5), .ref (γ 9 6), .ref (γ 9 7), .ref (γ 9 8), .int p280125, .int p280126, .int p280127, .int p280128, .int p280129, .int p280130, .ref (γ 9 15), .ref (γ 9 16), .ref (γ 9 17), .ref (γ 9 18), .ref (γ 9 19), .ref (γ 9 20), .ref (γ 9 21), .ref (γ 9 22), .int p280131, .int p280132, .int p280133, .int p280134, .int p280135, .ref q280123, .ref (γ 9 29), .int p280136, .ref (γ 9 31), .int p280137, .int p280138, .int p280139, .ref q280124]) := (hfr280266 q279837 hm280121 (nm_c (rn_oa he280241 he280239) nm_n)).trans he280241
          have hfr280270 : rFr [(γ 9 2)] P279835 F280236 F280264 := rFr_call (rSub_rf (P := P279835)) (rFr_rf (W := []) (P := P279835) (F := F280236)) hfr280266 (fun b hb hn => ⟨nm_n, (nm_c (fun e => hn (e ▸ List.mem_cons_self)) nm_n)⟩)
          change G _ _ _ _ _ _ _ _ _ _ _
          refine G_widen (cs' := 0) (sl' := 0) (by omega) (by omega) ?_
          have hT280271 : RS D I P279835 F280264 γ el := RS_fr hT280243 hfr280270 ht280144 (by decide) ⟨f280262, he280267, x280263⟩
          have hs280272 : rStr γ [] F279836 F280264 := rStr_fr hT280243 hs280244 hfr280270 ht280144 (by decide)
          have kp280273 : F280264 q279837 = F279836 q279837 := (hfr280270 q279837 (RS_m hT280243 htq279837 (by decide)) (nm_c (rn_ty htq279837 ht280144 (by decide)) nm_n)).trans kp280245
          have kp280274 : F280264 (γ 9 3) = F279836 (γ 9 3) := (hfr280270 (γ 9 3) (RS_m hT280243 ht280145 (by decide)) (nm_c (rn_ty ht280145 ht280144 (by decide)) nm_n)).trans kp280246
          exact G_vretA dr_cX17_back_79 rfl (Nat.le_of_ble_eq_true rfl) (Nat.le_of_ble_eq_true rfl) ⟨F280264, rfl, rfl, hT280271, hs280272, (Nat.le_of_ble_eq_true rfl), (Nat.le_of_ble_eq_true rfl), kp280273, kp280274⟩
    · have r280275 : p279839.toInt ≠ 0 := gj_neq hc280189 (show Int32.toInt 0 = 0 by decide)
      have bp279839' : gB p279839 1 1 := ⟨by omega, by omega⟩
      refine G_aload_n 2 dr_cX17_back_22 rfl ?_
      refine Gp_get 0 hm279841 he280182 dr_cX17_back_23 (gk_X15 D I) (Nat.le_of_ble_eq_true rfl) wr_9_177 rfl ?_
      refine G_bipush 21 dr_cX17_back_26 (by decide +kernel) ?_
      refine G_icmp_ne 42 dr_cX17_back_28 (by decide +kernel) (fun hc280276 => ?_) (fun hc280276 => ?_)
      · have r280277 : p279843.toInt ≠ 21 := gj_neq hc280276 (show Int32.toInt 21 = 21 by decide)
        exact G_vretA dr_cX17_back_42 rfl (Nat.le_of_ble_eq_true rfl) (Nat.le_of_ble_eq_true rfl) ⟨F280178, rfl, rfl, hT280185, hs280186, (Nat.le_of_ble_eq_true rfl), (Nat.le_of_ble_eq_true rfl), kp280187, kp280188⟩
      · have r280278 : p279843.toInt = 21 := gj_eq hc280276 (show Int32.toInt 21 = 21 by decide)
        have bp279843' : gB p279843 21 21 := ⟨by omega, by omega⟩
        refine G_aload_n 1 dr_cX17_back_31 rfl ?_
        refine Gp_get 2 hm280121 he280183 dr_cX17_back_32 (gk_X17 D I) (Nat.le_of_ble_eq_true rfl) wr_7_76 rfl ?_
        refine G_aload_n 2 dr_cX17_back_35 rfl ?_
        refine Gp_get 4 hm279841 he280182 dr_cX17_back_36 (gk_X15 D I) (Nat.le_of_ble_eq_true rfl) wr_9_193 rfl ?_
        refine Gw_callS (As := [.ref (γ 9 2), .int p279847]) (gV_ok D I) (cp_1853_SpillForgeModel_set l hl0 D I P279835 F280178 (γ 9 2) p279847 f280176 hm280168 he280181 bp279847 x280177) dr_cX17_back_39 ⟨wr_10_189, wr_1_14, wr_10_191, by decide, rfl, (Nat.le_of_ble_eq_true rfl), (Nat.le_of_ble_eq_true rfl)⟩ wr_10_190 (show 0 + 0 ≤ 0 by first | omega | decide) (show 0 + 0 ≤ 0 by first | omega | decide) (Nat.le_of_ble_eq_true rfl) (fun r280282 w280283 dc280279 ds280280 hp280281 => ?_) (fun _ _ _ _ _ z => z.elim)
        obtain ⟨F280286, f280284, rfl, rfl, hfr280288, he280289, hdc, hds, x280285⟩ := hp280281
        have he280290 : F280286 q279838 = .inr (20, [.int p279843, .int p279844, .int p279845, .int p279846, .int p279847, .int p279848, .int p279849]) := (hfr280288 q279838 hm279841 (nm_c (rn_oa he280182 he280181) nm_n)).trans he280182
        have he280291 : F280286 q279837 = .inr (22, [.ref (γ 9 0), .ref (γ 9 1), .ref (γ 9 2), .ref (γ 9 3), .ref (γ 9 4), .ref (γ 9 5), .ref (γ 9 6), .ref (γ 9 7), .ref (γ 9 8), .int p280125, .int p280126, .int p280127, .int p280128, .int p280129, .int p280130, .ref (γ 9 15), .ref (γ 9 16), .ref (γ 9 17), .ref (γ 9 18), .ref (γ 9 19), .ref (γ 9 20), .ref (γ 9 21), .ref (γ 9 22), .int p280131, .int p280132, .int p280133, .int p280134, .int p280135, .ref q280123, .ref (γ 9 29), .int p280136, .ref (γ 9 31), .int p280137, .int p280138, .int p280139, .ref q280124]) := (hfr280288 q279837 hm280121 (nm_c (rn_oa he280183 he280181) nm_n)).trans he280183
        have hfr280292 : rFr [(γ 9 2)] P279835 F280178 F280286 := rFr_call (rSub_rf (P := P279835)) (rFr_rf (W := []) (P := P279835) (F := F280178)) hfr280288 (fun b hb hn => ⟨nm_n, (nm_c (fun e => hn (e ▸ List.mem_cons_self)) nm_n)⟩)
        change G _ _ _ _ _ _ _ _ _ _ _
        refine G_widen (cs' := 0) (sl' := 0) (by omega) (by omega) ?_
        have hT280293 : RS D I P279835 F280286 γ el := RS_fr hT280185 hfr280292 ht280144 (by decide) ⟨f280284, he280289, x280285⟩
        have hs280294 : rStr γ [] F279836 F280286 := rStr_fr hT280185 hs280186 hfr280292 ht280144 (by decide)
        have kp280295 : F280286 q279837 = F279836 q279837 := (hfr280292 q279837 (RS_m hT280185 htq279837 (by decide)) (nm_c (rn_ty htq279837 ht280144 (by decide)) nm_n)).trans kp280187
        have kp280296 : F280286 (γ 9 3) = F279836 (γ 9 3) := (hfr280292 (γ 9 3) (RS_m hT280185 ht280145 (by decide)) (nm_c (rn_ty ht280145 ht280144 (by decide)) nm_n)).trans kp280188
        exact G_vretA dr_cX17_back_42 rfl (Nat.le_of_ble_eq_true rfl) (Nat.le_of_ble_eq_true rfl) ⟨F280286, rfl, rfl, hT280293, hs280294, (Nat.le_of_ble_eq_true rfl), (Nat.le_of_ble_eq_true rfl), kp280295, kp280296⟩
abbrev ky_269178_SpillForgeModel_graph : gKey := (cX17_graph, 11, "SpillForgeModel", none, [], "graph", fun _ _ => True)
def pt_269178_SpillForgeModel_graph (D : va_G) (I : FieldType → ClassId) (γ el : Nat → Nat → Nat) (P269172 : List Nat) (F269173 : Nat → va_E) (q269174 : Nat) (q269175 : Nat) (p269176 : Int32) : Option Value → va_W → Nat → Nat → Prop := fun r w dc ds => ∃ (F366856 : Nat → va_E), r = none ∧ w = va_pl P269172 F366856 ∧ RS D I P269172 F366856 γ el ∧ rStr γ [] F269173 F366856 ∧ dc ≤ 0 ∧ ds ≤ 0 ∧ (gIp (p269176.toInt = 0) (rGr γ el F269173 q269175 (γ 6 (γ 1 q269175)) (cB (F366856 (γ 9 3))) (vA (γ 6 (γ 1 q269175))))) ∧ (F366856 q269174 = F269173 q269174)
set_option maxRecDepth 100000 in
set_option maxHeartbeats 4000000 in
theorem ct_269178_SpillForgeModel_graph (l : Launch) (hl0 : l.stackTraces = false) (D : va_G) (I : FieldType → ClassId) (γ el : Nat → Nat → Nat) (P269172 : List Nat) (F269173 : Nat → va_E) (q269174 : Nat) (q269175 : Nat) (p269176 : Int32) (hT : RS D I P269172 F269173 γ el) (htq269174 : rKd γ q269174 10) (htq269175 : rKd γ q269175 9) (bp269176 : gB p269176 0 1) (x269177 : 0 < γ 6 (γ 1 q269175)) : CtA (gV D I) l yX17_graph cX17_graph 11 none 5 111 0 0 [.ref q269174, .ref q269175, .int p269176] (va_pl P269172 F269173) (pt_269178_SpillForgeModel_graph D I γ el P269172 F269173 q269174 q269175 p269176) gNA := by
  refine CtA_of hl0 (by decide) (Nat.le_of_ble_eq_true rfl) ?_
  have hm269179 : q269174 ∈ P269172 := RS_m hT htq269174 (by decide)
  obtain ⟨q269181, q269182, p269183, p269184, p269185, p269186, p269187, p269188, p269189, p269190, p269191, p269192, p269193, p269194, p269195, p269196, p269197, he269180, hB269224, ht269198, ht269199, ht269200, ht269201, ht269202, ht269203, ht269204, ht269205, ht269206, ht269207, ht269208, ht269209, ht269210, ht269211, ht269212, ht269213, ht269214, ht269215, ht269216, ht269217, ht269218, ht269219, ht269220, ht269221, hB269225⟩ := show rk_10 γ (F269173 q269174) from RS_o hT htq269174
  refine G_aload_n 0 dr_cX17_graph_0 rfl ?_
  refine G_aload_n 1 dr_cX17_graph_1 rfl ?_
  refine G_iload_n 2 dr_cX17_graph_2 rfl ?_
  refine Gw_callV (As := [.ref q269175, .int p269176]) (gV_ok D I) (ct_217949_SpillForgeModel_findLive l hl0 D I γ el P269172 F269173 q269174 q269175 p269176 hT htq269174 htq269175 bp269176 (by omega)) dr_cX17_graph_3 ⟨wr_10_156, wr_1_14, wr_10_159, by decide, rfl, (Nat.le_of_ble_eq_true rfl), (Nat.le_of_ble_eq_true rfl)⟩ wr_10_158 wr_p_94 hm269179 he269180 rfl (show 0 + 0 ≤ 0 by first | omega | decide) (show 0 + 0 ≤ 0 by first | omega | decide) (Nat.le_of_ble_eq_true rfl) (fun r269229 w269230 dc269226 ds269227 hp269228 => ?_) (fun _ _ _ _ _ z => z.elim)
  obtain ⟨F269232, rfl, rfl, hT269233, hs269234, hdc, hds, x269231⟩ := hp269228
  have hs269235 : rStr γ [] F269173 F269232 := rStr_tr (rStr_rf (γ := γ) (W := []) (F := F269173)) hs269234
  have kp269236 : F269232 q269174 = F269173 q269174 := x269231
  have he269237 : F269232 q269174 = .inr (22, [.ref (γ 9 0), .ref (γ 9 1), .ref (γ 9 2), .ref (γ 9 3), .ref (γ 9 4), .ref (γ 9 5), .ref (γ 9 6), .ref (γ 9 7), .ref (γ 9 8), .int p269183, .int p269184, .int p269185, .int p269186, .int p269187, .int p269188, .ref (γ 9 15), .ref (γ 9 16), .ref (γ 9 17), .ref (γ 9 18), .ref (γ 9 19), .ref (γ 9 20), .ref (γ 9 21), .ref (γ 9 22), .int p269189, .int p269190, .int p269191, .int p269192, .int p269193, .ref q269181, .ref (γ 9 29), .int p269194, .ref (γ 9 31), .int p269195, .int p269196, .int p269197, .ref q269182]) := (x269231).trans he269180
  change G _ _ _ _ _ _ _ _ _ _ _
  refine G_widen (cs' := 0) (sl' := 0) (by omega) (by omega) ?_
  refine G_iconst 0 dr_cX17_graph_6 (by decide +kernel) ?_
  refine G_istore_n (L' := [(3, .int 0), (0, .ref q269174), (1, .ref q269175), (2, .int p269176)]) dr_cX17_graph_7 (Nat.le_of_ble_eq_true rfl) rfl ?_
  have hlp8_352568 : ∀ (n8_352568 : Nat) (F352564 : Nat → va_E) (g352563 : Int32), gB g352563 0 2000 → RS D I P269172 F352564 γ el → rStr γ [] F269173 F352564 → (∀ n : Nat, (n : Int) < g352563.toInt → ¬ rSd (cB (F352564 (γ 9 3))) n) → (F352564 q269174 = F269173 q269174) → ((2001 : Int) - g352563.toInt).toNat < n8_352568 → G (gV D I) l (gRm 5 111 0 0) (gMA (gV D I) (pt_269178_SpillForgeModel_graph D I γ el P269172 F269173 q269174 q269175 p269176) gNA 0 0) ky_269178_SpillForgeModel_graph 8 [(3, .int g352563), (0, .ref q269174), (1, .ref q269175), (2, .int p269176)] [] (va_pl P269172 F352564) 0 0 := by
    intro n8_352568
    induction n8_352568 with
    | zero => intro F352564 g352563 bg352563 hT352565 hs352566 x352567 x352568 hm8_352568; exact absurd hm8_352568 (Nat.not_lt_zero _)
    | succ n8_352568 ih8_352568 =>
      intro F352564 g352563 bg352563 hT352565 hs352566 x352567 x352568 hm8_352568
      have hs352570 : rStr γ [] F269232 F352564 := fun b h0 hb hw => (hs352566 b h0 hb hw).trans (hs269235 b h0 hb hw).symm
      have hs352571 : rStr γ [] F269173 F352564 := rStr_tr hs269235 hs352570
      refine G_iload_n 0 dr_cX17_graph_8 rfl ?_
      refine G_sipush 2000 dr_cX17_graph_9 (by decide +kernel) ?_
      refine G_icmp_ge 54 dr_cX17_graph_12 (by decide +kernel) (fun hc352572 => ?_) (fun hc352572 => ?_)
      · have r352573 : 2000 ≤ g352563.toInt := gj_leL hc352572 (show Int32.toInt 2000 = 2000 by decide)
        have bg352563' : gB g352563 2000 2000 := ⟨by omega, by omega⟩
        refine G_iconst 0 dr_cX17_graph_54 (by decide +kernel) ?_
        refine G_istore_n (L' := [(3, .int 0), (0, .ref q269174), (1, .ref q269175), (2, .int p269176)]) dr_cX17_graph_55 (Nat.le_of_ble_eq_true rfl) rfl ?_
        have hlp56_359608 : ∀ (n56_359608 : Nat) (F359604 : Nat → va_E) (g359603 : Int32), gB g359603 0 1000000 → RS D I P269172 F359604 γ el → rStr γ [] F269173 F359604 → (gIp (p269176.toInt = 0) (rGr γ el F269173 q269175 (γ 6 (γ 1 q269175)) (cB (F359604 (γ 9 3))) (vA (g359603.toInt : Int).toNat))) → (F359604 q269174 = F269173 q269174) → ((1000001 : Int) - g359603.toInt).toNat < n56_359608 → G (gV D I) l (gRm 5 111 0 0) (gMA (gV D I) (pt_269178_SpillForgeModel_graph D I γ el P269172 F269173 q269174 q269175 p269176) gNA 0 0) ky_269178_SpillForgeModel_graph 56 [(3, .int g359603), (0, .ref q269174), (1, .ref q269175), (2, .int p269176)] [] (va_pl P269172 F359604) 0 0 := by
          intro n56_359608
          induction n56_359608 with
          | zero => intro F359604 g359603 bg359603 hT359605 hs359606 x359607 x359608 hm56_359608; exact absurd hm56_359608 (Nat.not_lt_zero _)
          | succ n56_359608 ih56_359608 =>
            intro F359604 g359603 bg359603 hT359605 hs359606 x359607 x359608 hm56_359608
            have hs359610 : rStr γ [] F352564 F359604 := fun b h0 hb hw => (hs359606 b h0 hb hw).trans (hs352566 b h0 hb hw).symm
            have hs359611 : rStr γ [] F269173 F359604 := rStr_tr hs352566 hs359610
            refine G_iload_n 0 dr_cX17_graph_56 rfl ?_
            refine G_aload_n 2 dr_cX17_graph_57 rfl ?_
            have hm359612 : q269175 ∈ P269172 := RS_m hT359605 htq269175 (by decide)
            obtain ⟨q359614, q359615, p359616, p359617, he359613, ht359633, ht359618, ht359619, ht359620, ht359621, r359622, r359623, r359624, r359625, r359626, r359627, r359628, r359629, r359630, r359631, r359632⟩ := show rk_9 γ el q269175 (F359604 q269175) from RS_o hT359605 htq269175
            have bp359616 : gB p359616 0 1000000 := ⟨by omega, by omega⟩
            have bp359617 : gB p359617 0 1000000 := ⟨by omega, by omega⟩
            refine Gw_callV (As := []) (gV_ok D I) (cp_12451_Code_size l hl0 D I P269172 F359604 q269175 q359614 q359615 p359616 p359617 hm359612 he359613) dr_cX17_graph_58 ⟨wr_10_160, wr_1_15, wr_9_131, by decide, rfl, (Nat.le_of_ble_eq_true rfl), (Nat.le_of_ble_eq_true rfl)⟩ wr_9_129 wr_9_130 hm359612 he359613 rfl (show 0 + 0 ≤ 0 by first | omega | decide) (show 0 + 0 ≤ 0 by first | omega | decide) (Nat.le_of_ble_eq_true rfl) (fun r359637 w359638 dc359634 ds359635 hp359636 => ?_) (fun _ _ _ _ _ z => z.elim)
            obtain ⟨rfl, rfl, hdc, hds⟩ := hp359636
            change G _ _ _ _ _ _ _ (.int p359617 :: _) _ _ _
            refine G_widen (cs' := 0) (sl' := 0) (by omega) (by omega) ?_
            refine G_icmp_ge 296 dr_cX17_graph_61 (by decide +kernel) (fun hc359639 => ?_) (fun hc359639 => ?_)
            · have r359640 : p359617.toInt ≤ g359603.toInt := gC_le hc359639
              refine G_iconst 0 dr_cX17_graph_296 (by decide +kernel) ?_
              refine G_istore_n (L' := [(3, .int 0), (0, .ref q269174), (1, .ref q269175), (2, .int p269176)]) dr_cX17_graph_297 (Nat.le_of_ble_eq_true rfl) rfl ?_
              have hlp298_360260 : ∀ (n298_360260 : Nat) (F360256 : Nat → va_E) (g360255 : Int32), gB g360255 0 2000 → RS D I P269172 F360256 γ el → rStr γ [] F269173 F360256 → (gIp (p269176.toInt = 0) (rGr γ el F269173 q269175 (γ 6 (γ 1 q269175)) (cB (F360256 (γ 9 3))) (vA (γ 6 (γ 1 q269175))))) → (F360256 q269174 = F269173 q269174) → ((2001 : Int) - g360255.toInt).toNat < n298_360260 → G (gV D I) l (gRm 5 111 0 0) (gMA (gV D I) (pt_269178_SpillForgeModel_graph D I γ el P269172 F269173 q269174 q269175 p269176) gNA 0 0) ky_269178_SpillForgeModel_graph 298 [(3, .int g360255), (0, .ref q269174), (1, .ref q269175), (2, .int p269176)] [] (va_pl P269172 F360256) 0 0 := by
                intro n298_360260
                induction n298_360260 with
                | zero => intro F360256 g360255 bg360255 hT360257 hs360258 x360259 x360260 hm298_360260; exact absurd hm298_360260 (Nat.not_lt_zero _)
                | succ n298_360260 ih298_360260 =>
                  intro F360256 g360255 bg360255 hT360257 hs360258 x360259 x360260 hm298_360260
                  have hs360262 : rStr γ [] F359604 F360256 := fun b h0 hb hw => (hs360258 b h0 hb hw).trans (hs359606 b h0 hb hw).symm
                  have he360263 : F360256 q269175 = .inr (18, [.ref q359614, .ref q359615, .int p359616, .int p359617]) := (hs360262 q269175 (rT0 htq269175 (by decide)) (rT1 htq269175 (by decide)) (rT2 htq269175 (by decide))).trans he359613
                  have hs360264 : rStr γ [] F269173 F360256 := rStr_tr hs359606 hs360262
                  refine G_iload_n 0 dr_cX17_graph_298 rfl ?_
                  refine G_sipush 2000 dr_cX17_graph_299 (by decide +kernel) ?_
                  refine G_icmp_ge 389 dr_cX17_graph_302 (by decide +kernel) (fun hc360265 => ?_) (fun hc360265 => ?_)
                  · have r360266 : 2000 ≤ g360255.toInt := gj_leL hc360265 (show Int32.toInt 2000 = 2000 by decide)
                    have bg360255' : gB g360255 2000 2000 := ⟨by omega, by omega⟩
                    exact G_vretA dr_cX17_graph_389 rfl (Nat.le_of_ble_eq_true rfl) (Nat.le_of_ble_eq_true rfl) ⟨F360256, rfl, rfl, hT360257, hs360258, (Nat.le_of_ble_eq_true rfl), (Nat.le_of_ble_eq_true rfl), x360259, x360260⟩
                  · have r360267 : g360255.toInt < 2000 := gj_nleL hc360265 (show Int32.toInt 2000 = 2000 by decide)
                    have bg360255' : gB g360255 0 1999 := ⟨by omega, by omega⟩
                    refine G_aload_n 1 dr_cX17_graph_305 rfl ?_
                    have hm360268 : q269174 ∈ P269172 := RS_m hT360257 htq269174 (by decide)
                    obtain ⟨q360270, q360271, p360272, p360273, p360274, p360275, p360276, p360277, p360278, p360279, p360280, p360281, p360282, p360283, p360284, p360285, p360286, he360269, hB360313, ht360287, ht360288, ht360289, ht360290, ht360291, ht360292, ht360293, ht360294, ht360295, ht360296, ht360297, ht360298, ht360299, ht360300, ht360301, ht360302, ht360303, ht360304, ht360305, ht360306, ht360307, ht360308, ht360309, ht360310, hB360314⟩ := show rk_10 γ (F360256 q269174) from RS_o hT360257 htq269174
                    refine Gp_get 3 hm360268 he360269 dr_cX17_graph_306 (gk_X17 D I) (Nat.le_of_ble_eq_true rfl) wr_7_77 rfl ?_
                    refine G_iload_n 0 dr_cX17_graph_309 rfl ?_
                    have hm360315 : (γ 9 3) ∈ P269172 := RS_m hT360257 ht360292 (by decide)
                    obtain ⟨f360317, he360316, bf360317⟩ := show rk_14 I (F360256 (γ 9 3)) from RS_o hT360257 ht360292
                    refine Gp_zald 3 hm360315 he360316 dr_cX17_graph_310 rfl (gB_in bg360255' (by decide) (by decide)) (G_nam fun z360318 hz360318 => ?_)
                    have bz360318 : gB z360318 0 1 := by rw [hz360318]; exact bf360317 _
                    refine G_if_ne 317 dr_cX17_graph_311 (by decide +kernel) (fun hc360319 => ?_) (fun hc360319 => ?_)
                    · have r360320 : z360318.toInt ≠ 0 := gj_neq hc360319 (show Int32.toInt 0 = 0 by decide)
                      have bz360318' : gB z360318 1 1 := ⟨by omega, by omega⟩
                      refine G_iconst 0 dr_cX17_graph_317 (by decide +kernel) ?_
                      refine G_istore (L' := [(4, .int 0), (3, .int g360255), (0, .ref q269174), (1, .ref q269175), (2, .int p269176)]) dr_cX17_graph_318 (Nat.le_of_ble_eq_true rfl) rfl ?_
                      have hlp320_360599 : ∀ (n320_360599 : Nat) (F360595 : Nat → va_E) (g360594 : Int32), gB g360594 0 32 → RS D I P269172 F360595 γ el → rStr γ [] F269173 F360595 → (gIp (p269176.toInt = 0) (rGr γ el F269173 q269175 (γ 6 (γ 1 q269175)) (cB (F360595 (γ 9 3))) (vA (γ 6 (γ 1 q269175))))) → (F360595 q269174 = F269173 q269174) → ((33 : Int) - g360594.toInt).toNat < n320_360599 → G (gV D I) l (gRm 5 111 0 0) (gMA (gV D I) (pt_269178_SpillForgeModel_graph D I γ el P269172 F269173 q269174 q269175 p269176) gNA 0 0) ky_269178_SpillForgeModel_graph 320 [(4, .int g360594), (3, .int g360255), (0, .ref q269174), (1, .ref q269175), (2, .int p269176)] [] (va_pl P269172 F360595) 0 0 := by
                        intro n320_360599
                        induction n320_360599 with
                        | zero => intro F360595 g360594 bg360594 hT360596 hs360597 x360598 x360599 hm320_360599; exact absurd hm320_360599 (Nat.not_lt_zero _)
                        | succ n320_360599 ih320_360599 =>
                          intro F360595 g360594 bg360594 hT360596 hs360597 x360598 x360599 hm320_360599
                          have hs360601 : rStr γ [] F360256 F360595 := fun b h0 hb hw => (hs360597 b h0 hb hw).trans (hs360258 b h0 hb hw).symm
                          have he360602 : F360595 q269175 = .inr (18, [.ref q359614, .ref q359615, .int p359616, .int p359617]) := (hs360601 q269175 (rT0 htq269175 (by decide)) (rT1 htq269175 (by decide)) (rT2 htq269175 (by decide))).trans he360263
                          have hs360603 : rStr γ [] F269173 F360595 := rStr_tr hs360258 hs360601
                          refine G_iload 0 dr_cX17_graph_320 rfl ?_
                          refine G_bipush 32 dr_cX17_graph_322 (by decide +kernel) ?_
                          refine G_icmp_ge 383 dr_cX17_graph_324 (by decide +kernel) (fun hc360604 => ?_) (fun hc360604 => ?_)
                          · have r360605 : 32 ≤ g360594.toInt := gj_leL hc360604 (show Int32.toInt 32 = 32 by decide)
                            have bg360594' : gB g360594 32 32 := ⟨by omega, by omega⟩
                            obtain ⟨z360606, hz360606⟩ : ∃ z : Int32, z = g360255 + Int32.ofInt 1 := ⟨_, rfl⟩
                            have ez360606 : z360606.toInt = g360255.toInt + 1 := gI_inc hz360606 (by decide) bg360255' (by decide) (by decide)
                            have bz360606 : gB z360606 1 2000 := ⟨by omega, by omega⟩
                            refine G_iinc (L' := [(3, .int z360606), (4, .int g360594), (0, .ref q269174), (1, .ref q269175), (2, .int p269176)]) z360606 1 dr_cX17_graph_383 rfl hz360606.symm (Nat.le_of_ble_eq_true rfl) rfl ?_
                            refine G_goto 298 dr_cX17_graph_386 (by decide +kernel) ?_
                            refine G_lv (L' := [(3, .int z360606), (0, .ref q269174), (1, .ref q269175), (2, .int p269176)]) [0, 2, 3, 4] rfl ?_
                            exact ih298_360260 F360595 z360606 (gB_w bz360606 (by decide) (by decide)) hT360596 hs360597 x360598 x360599 (by omega)
                          · have r360607 : g360594.toInt < 32 := gj_nleL hc360604 (show Int32.toInt 32 = 32 by decide)
                            have bg360594' : gB g360594 0 31 := ⟨by omega, by omega⟩
                            refine G_aload_n 2 dr_cX17_graph_327 rfl ?_
                            have hm360608 : q269174 ∈ P269172 := RS_m hT360596 htq269174 (by decide)
                            obtain ⟨q360610, q360611, p360612, p360613, p360614, p360615, p360616, p360617, p360618, p360619, p360620, p360621, p360622, p360623, p360624, p360625, p360626, he360609, hB360653, ht360627, ht360628, ht360629, ht360630, ht360631, ht360632, ht360633, ht360634, ht360635, ht360636, ht360637, ht360638, ht360639, ht360640, ht360641, ht360642, ht360643, ht360644, ht360645, ht360646, ht360647, ht360648, ht360649, ht360650, hB360654⟩ := show rk_10 γ (F360595 q269174) from RS_o hT360596 htq269174
                            refine Gp_get 1 hm360608 he360609 dr_cX17_graph_328 (gk_X17 D I) (Nat.le_of_ble_eq_true rfl) wr_7_75 rfl ?_
                            refine G_iload_n 1 dr_cX17_graph_331 rfl ?_
                            have hm360655 : (γ 9 1) ∈ P269172 := RS_m hT360596 ht360630 (by decide)
                            obtain ⟨f360657, he360656, hg360658⟩ := show rk_13 I γ (F360595 (γ 9 1)) from RS_o hT360596 ht360630
                            obtain ⟨q360659, hx360661⟩ : ∃ x, x = γ 11 g360255.toInt.toNat := ⟨_, rfl⟩
                            have ht360660 : rKd γ q360659 36 := by rw [hx360661]; exact (hg360658 _ (show g360255.toInt.toNat < 2000 by omega)).2.1
                            refine Gp_aald 5 hm360655 he360656 dr_cX17_graph_332 rfl rfl (gB_in bg360255' (by decide) (by decide)) ?_
                            rw [show f360657 g360255.toNatClampNeg = some q360659 from (hg360658 _ (show g360255.toInt.toNat < 2000 by omega)).1.trans (by rw [hx360661])]
                            change G _ _ _ _ _ _ _ (.ref q360659 :: _) _ _ _
                            refine G_iload 0 dr_cX17_graph_333 rfl ?_
                            have hm360662 : q360659 ∈ P269172 := RS_m hT360596 ht360660 (by decide)
                            obtain ⟨f360664, he360663, wf360664⟩ := show rk_36 I (F360595 q360659) from RS_o hT360596 ht360660
                            refine Gp_lald 2 hm360662 he360663 dr_cX17_graph_335 rfl (gB_in bg360594' (by decide) (by decide)) (G_namL fun u360665 hu360665 => ?_)
                            have qu360665 : lb_Q u360665 (2000 - 64 * g360594.toInt) := lb_Wld hu360665 wf360664 (by omega) (by omega) (lb_Mod0 (by omega) (by omega))
                            refine G_lstore (L' := [(5, .long u360665), (4, .int g360594), (3, .int g360255), (0, .ref q269174), (1, .ref q269175), (2, .int p269176)]) dr_cX17_graph_336 (Nat.le_of_ble_eq_true rfl) rfl ?_
                            have hlp338_360772 : ∀ (n338_360772 : Nat) (F360767 : Nat → va_E) (gl360766 : Int64), RS D I P269172 F360767 γ el → rStr γ [] F269173 F360767 → (lb_Q gl360766 (2000 - 64 * g360594.toInt)) → (gIp (p269176.toInt = 0) (rGr γ el F269173 q269175 (γ 6 (γ 1 q269175)) (cB (F360767 (γ 9 3))) (vA (γ 6 (γ 1 q269175))))) → (F360767 q269174 = F269173 q269174) → (rpop gl360766) < n338_360772 → G (gV D I) l (gRm 5 111 0 0) (gMA (gV D I) (pt_269178_SpillForgeModel_graph D I γ el P269172 F269173 q269174 q269175 p269176) gNA 0 0) ky_269178_SpillForgeModel_graph 338 [(5, .long gl360766), (4, .int g360594), (3, .int g360255), (0, .ref q269174), (1, .ref q269175), (2, .int p269176)] [] (va_pl P269172 F360767) 0 0 := by
                              intro n338_360772
                              induction n338_360772 with
                              | zero => intro F360767 gl360766 hT360768 hs360769 x360770 x360771 x360772 hm338_360772; exact absurd hm338_360772 (Nat.not_lt_zero _)
                              | succ n338_360772 ih338_360772 =>
                                intro F360767 gl360766 hT360768 hs360769 x360770 x360771 x360772 hm338_360772
                                have hs360774 : rStr γ [] F360595 F360767 := fun b h0 hb hw => (hs360769 b h0 hb hw).trans (hs360597 b h0 hb hw).symm
                                have he360775 : F360767 q269175 = .inr (18, [.ref q359614, .ref q359615, .int p359616, .int p359617]) := (hs360774 q269175 (rT0 htq269175 (by decide)) (rT1 htq269175 (by decide)) (rT2 htq269175 (by decide))).trans he360602
                                have hs360776 : rStr γ [] F269173 F360767 := rStr_tr hs360597 hs360774
                                refine G_lload 0 dr_cX17_graph_338 rfl ?_
                                refine G_lconst 0 dr_cX17_graph_340 rfl ?_
                                refine G_lcmp dr_cX17_graph_341 (G_nam fun z360777 hz360777 => ?_)
                                have bz360777 : gB z360777 (-1) 1 := gB_cmp hz360777
                                refine G_if_eq 377 dr_cX17_graph_342 (by decide +kernel) (fun hc360778 => ?_) (fun hc360778 => ?_)
                                · have r360779 : z360777.toInt = 0 := gj_eq hc360778 (show Int32.toInt 0 = 0 by decide)
                                  have bz360777' : gB z360777 0 0 := ⟨by omega, by omega⟩
                                  have lhc360778 := gC_cmpE hz360777 hc360778
                                  obtain ⟨z360780, hz360780⟩ : ∃ z : Int32, z = g360594 + Int32.ofInt 1 := ⟨_, rfl⟩
                                  have ez360780 : z360780.toInt = g360594.toInt + 1 := gI_inc hz360780 (by decide) bg360594' (by decide) (by decide)
                                  have bz360780 : gB z360780 1 32 := ⟨by omega, by omega⟩
                                  refine G_iinc (L' := [(4, .int z360780), (5, .long gl360766), (3, .int g360255), (0, .ref q269174), (1, .ref q269175), (2, .int p269176)]) z360780 1 dr_cX17_graph_377 rfl hz360780.symm (Nat.le_of_ble_eq_true rfl) rfl ?_
                                  refine G_goto 320 dr_cX17_graph_380 (by decide +kernel) ?_
                                  refine G_lv (L' := [(4, .int z360780), (3, .int g360255), (0, .ref q269174), (1, .ref q269175), (2, .int p269176)]) [0, 2, 3, 4, 5] rfl ?_
                                  exact ih320_360599 F360767 z360780 (gB_w bz360780 (by decide) (by decide)) hT360768 hs360769 x360771 x360772 (by omega)
                                · have r360781 : z360777.toInt ≠ 0 := gj_neq hc360778 (show Int32.toInt 0 = 0 by decide)
                                  have lhc360778 := gC_cmpN hz360777 hc360778
                                  refine G_aload_n 3 dr_cX17_graph_345 rfl ?_
                                  have hm360782 : q269174 ∈ P269172 := RS_m hT360768 htq269174 (by decide)
                                  obtain ⟨q360784, q360785, p360786, p360787, p360788, p360789, p360790, p360791, p360792, p360793, p360794, p360795, p360796, p360797, p360798, p360799, p360800, he360783, hB360827, ht360801, ht360802, ht360803, ht360804, ht360805, ht360806, ht360807, ht360808, ht360809, ht360810, ht360811, ht360812, ht360813, ht360814, ht360815, ht360816, ht360817, ht360818, ht360819, ht360820, ht360821, ht360822, ht360823, ht360824, hB360828⟩ := show rk_10 γ (F360767 q269174) from RS_o hT360768 htq269174
                                  refine Gp_get 1 hm360782 he360783 dr_cX17_graph_346 (gk_X17 D I) (Nat.le_of_ble_eq_true rfl) wr_7_75 rfl ?_
                                  refine G_bipush 64 dr_cX17_graph_349 (by decide +kernel) ?_
                                  refine G_iload 1 dr_cX17_graph_351 rfl ?_
                                  refine G_imul dr_cX17_graph_353 (G_nam fun z360829 hz360829 => ?_)
                                  have ez360829 : z360829.toInt = 64 * g360594.toInt := by rw [gI_mul hz360829 (gBl (show Int32.toInt 64 = 64 by decide)) bg360594' (by decide) (by decide) (by decide), show Int32.toInt 64 = 64 from by decide]
                                  have bz360829 : gB z360829 0 1984 := gB_mul hz360829 (gBl (show Int32.toInt 64 = 64 by decide)) bg360594' (by decide) (by decide) (by decide) (by decide)
                                  refine G_lload 0 dr_cX17_graph_354 rfl ?_
                                  refine Gw_callS (As := [.long gl360766]) (gV_ok D I) (nzc_Long_numberOfTrailingZeros l hl0 D I P269172 F360767 gl360766) dr_cX17_graph_356 ⟨wr_11_1, wr_1_31, wr_11_3, by decide, rfl, (Nat.le_of_ble_eq_true rfl), (Nat.le_of_ble_eq_true rfl)⟩ wr_11_2 (show 0 + 0 ≤ 0 by first | omega | decide) (show 0 + 0 ≤ 0 by first | omega | decide) (Nat.le_of_ble_eq_true rfl) (fun r360833 w360834 dc360830 ds360831 hp360832 => ?_) (fun _ _ _ _ _ z => z.elim)
                                  obtain ⟨o360837, rfl, rfl, hdc, hds, hO360835⟩ := hp360832
                                  have hO360835 := hO360835 lhc360778
                                  have bo360837 : gB o360837 0 63 := ⟨hO360835.1, hO360835.2.1⟩
                                  have r360836 : o360837.toInt < 2000 - 64 * g360594.toInt := lb_Qlt x360770 hO360835.1 hO360835.2.2
                                  change G _ _ _ _ _ _ _ (.int o360837 :: _) _ _ _
                                  refine G_widen (cs' := 0) (sl' := 0) (by omega) (by omega) ?_
                                  refine G_iadd dr_cX17_graph_359 (G_nam fun z360838 hz360838 => ?_)
                                  have ez360838 : z360838.toInt = z360829.toInt + o360837.toInt := by rw [gI_add hz360838 bz360829 bo360837 (by decide) (by decide)]
                                  have bz360838 : gB z360838 0 2047 := gB_add (gI_add hz360838 bz360829 bo360837 (by decide) (by decide)) bz360829 bo360837 (by decide) (by decide)
                                  have hm360839 : (γ 9 1) ∈ P269172 := RS_m hT360768 ht360804 (by decide)
                                  obtain ⟨f360841, he360840, hg360842⟩ := show rk_13 I γ (F360767 (γ 9 1)) from RS_o hT360768 ht360804
                                  obtain ⟨q360843, hx360845⟩ : ∃ x, x = γ 11 z360838.toInt.toNat := ⟨_, rfl⟩
                                  have ht360844 : rKd γ q360843 36 := by rw [hx360845]; exact (hg360842 _ (show z360838.toInt.toNat < 2000 by omega)).2.1
                                  refine Gp_aald 5 hm360839 he360840 dr_cX17_graph_360 rfl rfl (gB_inr (by omega) (by omega)) ?_
                                  rw [show f360841 z360838.toNatClampNeg = some q360843 from (hg360842 _ (show z360838.toInt.toNat < 2000 by omega)).1.trans (by rw [hx360845])]
                                  change G _ _ _ _ _ _ _ (.ref q360843 :: _) _ _ _
                                  refine G_iload_n 2 dr_cX17_graph_361 rfl ?_
                                  have hm360846 : q360843 ∈ P269172 := RS_m hT360768 ht360844 (by decide)
                                  obtain ⟨f360848, he360847, wf360848⟩ := show rk_36 I (F360767 q360843) from RS_o hT360768 ht360844
                                  refine Gw_callS (As := [.ref q360843, .int g360255]) (gV_ok D I) (cp_1853_SpillForgeModel_set l hl0 D I P269172 F360767 q360843 g360255 f360848 hm360846 he360847 bg360255' wf360848) dr_cX17_graph_362 ⟨wr_10_189, wr_1_14, wr_10_191, by decide, rfl, (Nat.le_of_ble_eq_true rfl), (Nat.le_of_ble_eq_true rfl)⟩ wr_10_190 (show 0 + 0 ≤ 0 by first | omega | decide) (show 0 + 0 ≤ 0 by first | omega | decide) (Nat.le_of_ble_eq_true rfl) (fun r360852 w360853 dc360849 ds360850 hp360851 => ?_) (fun _ _ _ _ _ z => z.elim)
                                  obtain ⟨F360856, f360854, rfl, rfl, hfr360858, he360859, hdc, hds, x360855⟩ := hp360851
                                  have he360860 : F360856 q269175 = .inr (18, [.ref q359614, .ref q359615, .int p359616, .int p359617]) := (hfr360858 q269175 hm359612 (nm_c (rn_oa he360775 he360847) nm_n)).trans he360775
                                  have he360861 : F360856 q269174 = .inr (22, [.ref (γ 9 0), .ref (γ 9 1), .ref (γ 9 2), .ref (γ 9 3), .ref (γ 9 4), .ref (γ 9 5), .ref (γ 9 6), .ref (γ 9 7), .ref (γ 9 8), .int p360786, .int p360787, .int p360788, .int p360789, .int p360790, .int p360791, .ref (γ 9 15), .ref (γ 9 16), .ref (γ 9 17), .ref (γ 9 18), .ref (γ 9 19), .ref (γ 9 20), .ref (γ 9 21), .ref (γ 9 22), .int p360792, .int p360793, .int p360794, .int p360795, .int p360796, .ref q360784, .ref (γ 9 29), .int p360797, .ref (γ 9 31), .int p360798, .int p360799, .int p360800, .ref q360785]) := (hfr360858 q269174 hm360782 (nm_c (rn_oa he360783 he360847) nm_n)).trans he360783
                                  have he360862 : F360856 (γ 9 1) = .inl (I (.array .long), 2000, .inr (.inr (.inr (.inr f360841)))) := (hfr360858 (γ 9 1) hm360839 (nm_c (rn_ref_long he360840 he360847) nm_n)).trans he360840
                                  have hfr360863 : rFr [q360843] P269172 F360767 F360856 := rFr_call (rSub_rf (P := P269172)) (rFr_rf (W := []) (P := P269172) (F := F360767)) hfr360858 (fun b hb hn => ⟨nm_n, (nm_c (fun e => hn (e ▸ List.mem_cons_self)) nm_n)⟩)
                                  change G _ _ _ _ _ _ _ _ _ _ _
                                  refine G_widen (cs' := 0) (sl' := 0) (by omega) (by omega) ?_
                                  have hT360864 : RS D I P269172 F360856 γ el := RS_fr hT360768 hfr360863 ht360844 (by decide) ⟨f360854, he360859, x360855⟩
                                  have hs360865 : rStr γ [] F269173 F360856 := rStr_fr hT360768 hs360769 hfr360863 ht360844 (by decide)
                                  have kp360866 : F360856 q269174 = F269173 q269174 := (hfr360863 q269174 (RS_m hT360768 htq269174 (by decide)) (nm_c (rn_ty htq269174 ht360844 (by decide)) nm_n)).trans x360772
                                  have kp360867 : F360856 (γ 9 3) = F360767 (γ 9 3) := hfr360863 (γ 9 3) (RS_m hT360768 ht360806 (by decide)) (nm_c (rn_ty ht360806 ht360844 (by decide)) nm_n)
                                  refine G_lload 0 dr_cX17_graph_365 rfl ?_
                                  refine G_lload 0 dr_cX17_graph_367 rfl ?_
                                  refine G_lconst 1 dr_cX17_graph_369 rfl ?_
                                  refine G_lsub dr_cX17_graph_370 (G_namL fun u360868 hu360868 => ?_)
                                  refine G_land dr_cX17_graph_371 (G_namL fun u360869 hu360869 => ?_)
                                  refine G_lstore (L' := [(5, .long u360869), (4, .int g360594), (3, .int g360255), (0, .ref q269174), (1, .ref q269175), (2, .int p269176)]) dr_cX17_graph_372 (Nat.le_of_ble_eq_true rfl) rfl ?_
                                  refine G_goto 338 dr_cX17_graph_374 (by decide +kernel) ?_
                                  exact ih338_360772 F360856 u360869 hT360864 hs360865 (lb_QandL hu360869 x360770) (by rw [kp360867]; exact x360771) kp360866 (by have q := rpop_low lhc360778 hu360868 hu360869; omega)
                            exact hlp338_360772 ((rpop u360665) + 1) F360595 u360665 hT360596 hs360597 qu360665 x360598 x360599 (Nat.lt_succ_self _)
                      exact hlp320_360599 (((33 : Int) - 0).toNat + 1) F360256 0 (gB_w (gBl (show Int32.toInt 0 = 0 by decide)) (by decide) (by decide)) hT360257 hs360258 x360259 x360260 (Nat.lt_succ_self _)
                    · have r360870 : z360318.toInt = 0 := gj_eq hc360319 (show Int32.toInt 0 = 0 by decide)
                      have bz360318' : gB z360318 0 0 := ⟨by omega, by omega⟩
                      refine G_goto 383 dr_cX17_graph_314 (by decide +kernel) ?_
                      obtain ⟨z360871, hz360871⟩ : ∃ z : Int32, z = g360255 + Int32.ofInt 1 := ⟨_, rfl⟩
                      have ez360871 : z360871.toInt = g360255.toInt + 1 := gI_inc hz360871 (by decide) bg360255' (by decide) (by decide)
                      have bz360871 : gB z360871 1 2000 := ⟨by omega, by omega⟩
                      refine G_iinc (L' := [(3, .int z360871), (0, .ref q269174), (1, .ref q269175), (2, .int p269176)]) z360871 0 dr_cX17_graph_383 rfl hz360871.symm (Nat.le_of_ble_eq_true rfl) rfl ?_
                      refine G_goto 298 dr_cX17_graph_386 (by decide +kernel) ?_
                      exact ih298_360260 F360256 z360871 (gB_w bz360871 (by decide) (by decide)) hT360257 hs360258 x360259 x360260 (by omega)
              exact hlp298_360260 (((2001 : Int) - 0).toNat + 1) F359604 0 (gB_w (gBl (show Int32.toInt 0 = 0 by decide)) (by decide) (by decide)) hT359605 hs359606 (fun h0 => gq_al (x359607 h0) (by omega)) x359608 (Nat.lt_succ_self _)
            · have r360872 : g359603.toInt < p359617.toInt := gC_nle hc359639
              have bg359603' : gB g359603 0 999999 := ⟨by omega, by omega⟩
              have bp359617' : gB p359617 1 1000000 := ⟨by omega, by omega⟩
              refine G_aload_n 2 dr_cX17_graph_64 rfl ?_
              refine G_iload_n 0 dr_cX17_graph_65 rfl ?_
              have hm360873 : q359614 ∈ P269172 := RS_m hT359605 ht359618 (by decide)
              obtain ⟨⟨p360875, p360876, q360877, he360874, r360878, r360879, r360880, r360882⟩, r360881⟩ := show rk_4 D I γ el F359604 q359614 from RS_o hT359605 ht359618
              have bp360875 := gB_any p360875
              have bp360876 : gB p360876 0 1000000 := ⟨by omega, by omega⟩
              obtain ⟨r360883, r360884, n360891, f360892, r360885, r360886, r360887, r360888, r360889, r360890⟩ := rLC_n r360880 (by omega)
              have hm360893 : q360877 ∈ P269172 := RS_m hT359605 r360883 (by decide)
              obtain ⟨q360894, hx360895⟩ : ∃ x, x = el q359614 g359603.toInt.toNat := ⟨_, rfl⟩
              have hx360896 : f360892 g359603.toNatClampNeg = some q360894 := (r360889 _ (show g359603.toInt.toNat < γ 2 q359614 by omega)).trans (by rw [hx360895])
              have ht360899 : rKd γ q360894 2 := by rw [hx360895]; exact (r359629 _ (by omega)).resolve_right (fun z => absurd z.1 (by omega))
              have ht360900 : rFm γ q360894 q359614 := by rw [hx360895]; exact (r360881 _ (show g359603.toInt.toNat < γ 2 q359614 by omega)).2.1
              have hm360901 : q360894 ∈ P269172 := RS_m hT359605 ht360899 (by decide)
              obtain ⟨q360903, q360904, p360905, p360906, he360902, ht360913, ht360907, ht360908, ht360909, ht360910, ht360911, bp360905, bp360906, r360912, r360914, r360915⟩ := show rk_2 γ q360894 (F359604 q360894) from RS_o hT359605 ht360899
              refine Gw_callV (As := [.int g359603]) (gV_ok D I) (cp_7723_Code_get l hl0 D I P269172 F359604 q269175 q359614 q360877 g359603 q359615 p359616 p359617 p360875 p360876 f360892 n360891 q360894 q360903 q360904 p360905 p360906 hm359612 hm360873 hm360893 hm360901 he359613 he360874 r360885 he360902 (gB_w bg359603' (by decide) (by decide)) (gB_w bp360876 (by decide) (by decide)) (by omega) (by omega) (by assumption) (by omega)) dr_cX17_graph_66 ⟨wr_10_161, wr_1_15, wr_10_141, by decide, rfl, (Nat.le_of_ble_eq_true rfl), (Nat.le_of_ble_eq_true rfl)⟩ wr_10_139 wr_10_140 hm359612 he359613 rfl (show 0 + 0 ≤ 0 by first | omega | decide) (show 0 + 0 ≤ 0 by first | omega | decide) (Nat.le_of_ble_eq_true rfl) (fun r360919 w360920 dc360916 ds360917 hp360918 => ?_) (fun _ _ _ _ _ z => z.elim)
              obtain ⟨rfl, rfl, hdc, hds⟩ := hp360918
              change G _ _ _ _ _ _ _ (.ref q360894 :: _) _ _ _
              refine G_widen (cs' := 0) (sl' := 0) (by omega) (by omega) ?_
              have hb360921 : el (γ 14 q269175) (g359603.toInt : Int).toNat = q360894 := by rw [ht359633.1, hx360895]
              refine G_astore (L' := [(4, .ref q360894), (3, .int g359603), (0, .ref q269174), (1, .ref q269175), (2, .int p269176)]) dr_cX17_graph_69 (Nat.le_of_ble_eq_true rfl) rfl ?_
              refine G_aload_n 2 dr_cX17_graph_71 rfl ?_
              refine G_aload 0 dr_cX17_graph_72 rfl ?_
              have hm360927 : q269174 ∈ P269172 := RS_m hT359605 htq269174 (by decide)
              obtain ⟨q360929, q360930, p360931, p360932, p360933, p360934, p360935, p360936, p360937, p360938, p360939, p360940, p360941, p360942, p360943, p360944, p360945, he360928, hB360972, ht360946, ht360947, ht360948, ht360949, ht360950, ht360951, ht360952, ht360953, ht360954, ht360955, ht360956, ht360957, ht360958, ht360959, ht360960, ht360961, ht360962, ht360963, ht360964, ht360965, ht360966, ht360967, ht360968, ht360969, hB360973⟩ := show rk_10 γ (F359604 q269174) from RS_o hT359605 htq269174
              refine Gw_callV (As := [.ref q360894]) (gV_ok D I) (ct_276829_SpillForgeModel_behind l hl0 D I γ el P269172 F359604 q269174 q360894 hT359605 htq269174 ht360899) dr_cX17_graph_74 ⟨wr_10_162, wr_1_14, wr_10_165, by decide, rfl, (Nat.le_of_ble_eq_true rfl), (Nat.le_of_ble_eq_true rfl)⟩ wr_10_164 wr_p_95 hm360927 he360928 rfl (show 0 + 0 ≤ 0 by first | omega | decide) (show 0 + 0 ≤ 0 by first | omega | decide) (Nat.le_of_ble_eq_true rfl) (fun r360925 w360926 dc360922 ds360923 hp360924 => ?_) (fun _ _ _ _ _ z => z.elim)
              obtain ⟨F360976, rfl, rfl, hT360977, hs360978, hdc, hds, x360974, x360975⟩ := hp360924
              have he360979 : F360976 q269175 = .inr (18, [.ref q359614, .ref q359615, .int p359616, .int p359617]) := (hs360978 q269175 (rT0 htq269175 (by decide)) (rT1 htq269175 (by decide)) (rT2 htq269175 (by decide))).trans he359613
              have he360980 : F360976 q359614 = .inr (4, [.int p360875, .ref q360877, .int p360876]) := (hs360978 q359614 (rT0 ht359618 (by decide)) (rT1 ht359618 (by decide)) (rT2 ht359618 (by decide))).trans he360874
              have he360981 : F360976 q360877 = .inl (I (.object "java/lang/Object"), n360891, .inr (.inr (.inr (.inr f360892)))) := (hs360978 q360877 (rT0 r360883 (by decide)) (rT1 r360883 (by decide)) (rT2 r360883 (by decide))).trans r360885
              have he360982 : F360976 q360894 = .inr (17, [.ref q360903, .ref q360904, .int p360905, .int p360906]) := (hs360978 q360894 (rT0 ht360899 (by decide)) (rT1 ht360899 (by decide)) (rT2 ht360899 (by decide))).trans he360902
              have hs360983 : rStr γ [] F269173 F360976 := rStr_tr hs359606 hs360978
              have kp360984 : F360976 q269174 = F269173 q269174 := (x360974).trans x359608
              have kp360985 : F360976 (γ 9 3) = F359604 (γ 9 3) := x360975
              have he360986 : F360976 q269174 = .inr (22, [.ref (γ 9 0), .ref (γ 9 1), .ref (γ 9 2), .ref (γ 9 3), .ref (γ 9 4), .ref (γ 9 5), .ref (γ 9 6), .ref (γ 9 7), .ref (γ 9 8), .int p360931, .int p360932, .int p360933, .int p360934, .int p360935, .int p360936, .ref (γ 9 15), .ref (γ 9 16), .ref (γ 9 17), .ref (γ 9 18), .ref (γ 9 19), .ref (γ 9 20), .ref (γ 9 21), .ref (γ 9 22), .int p360937, .int p360938, .int p360939, .int p360940, .int p360941, .ref q360929, .ref (γ 9 29), .int p360942, .ref (γ 9 31), .int p360943, .int p360944, .int p360945, .ref q360930]) := (x360974).trans he360928
              change G _ _ _ _ _ _ _ _ _ _ _
              refine G_widen (cs' := 0) (sl' := 0) (by omega) (by omega) ?_
              refine G_aload_n 2 dr_cX17_graph_77 rfl ?_
              refine G_aload 0 dr_cX17_graph_78 rfl ?_
              refine Gp_get 1 hm360901 he360982 dr_cX17_graph_80 (gk_X12 D I) (Nat.le_of_ble_eq_true rfl) wr_9_223 rfl ?_
              refine G_iload_n 4 dr_cX17_graph_83 rfl ?_
              refine Gw_callV (As := [.ref q360904, .int p269176]) (gV_ok D I) (ct_279575_SpillForgeModel_stand l hl0 D I γ el P269172 F360976 q269174 q360904 p269176 hT360977 htq269174 ht360909 bp269176) dr_cX17_graph_84 ⟨wr_10_237, wr_1_14, wr_11_0, by decide, rfl, (Nat.le_of_ble_eq_true rfl), (Nat.le_of_ble_eq_true rfl)⟩ wr_10_239 wr_p_100 hm360927 he360986 rfl (show 0 + 0 ≤ 0 by first | omega | decide) (show 0 + 0 ≤ 0 by first | omega | decide) (Nat.le_of_ble_eq_true rfl) (fun r360990 w360991 dc360987 ds360988 hp360989 => ?_) (fun _ _ _ _ _ z => z.elim)
              obtain ⟨F360994, rfl, rfl, hT360995, hs360996, hdc, hds, x360992, x360993⟩ := hp360989
              have he360997 : F360994 q269175 = .inr (18, [.ref q359614, .ref q359615, .int p359616, .int p359617]) := (hs360996 q269175 (rT0 htq269175 (by decide)) (rT1 htq269175 (by decide)) (rT2 htq269175 (by decide))).trans he360979
              have he360998 : F360994 q359614 = .inr (4, [.int p360875, .ref q360877, .int p360876]) := (hs360996 q359614 (rT0 ht359618 (by decide)) (rT1 ht359618 (by decide)) (rT2 ht359618 (by decide))).trans he360980
              have he360999 : F360994 q360877 = .inl (I (.object "java/lang/Object"), n360891, .inr (.inr (.inr (.inr f360892)))) := (hs360996 q360877 (rT0 r360883 (by decide)) (rT1 r360883 (by decide)) (rT2 r360883 (by decide))).trans he360981
              have he361000 : F360994 q360894 = .inr (17, [.ref q360903, .ref q360904, .int p360905, .int p360906]) := (hs360996 q360894 (rT0 ht360899 (by decide)) (rT1 ht360899 (by decide)) (rT2 ht360899 (by decide))).trans he360982
              have hs361001 : rStr γ [] F269173 F360994 := rStr_tr hs360983 hs360996
              have kp361002 : F360994 q269174 = F269173 q269174 := (x360993).trans kp360984
              have he361003 : F360994 q269174 = .inr (22, [.ref (γ 9 0), .ref (γ 9 1), .ref (γ 9 2), .ref (γ 9 3), .ref (γ 9 4), .ref (γ 9 5), .ref (γ 9 6), .ref (γ 9 7), .ref (γ 9 8), .int p360931, .int p360932, .int p360933, .int p360934, .int p360935, .int p360936, .ref (γ 9 15), .ref (γ 9 16), .ref (γ 9 17), .ref (γ 9 18), .ref (γ 9 19), .ref (γ 9 20), .ref (γ 9 21), .ref (γ 9 22), .int p360937, .int p360938, .int p360939, .int p360940, .int p360941, .ref q360929, .ref (γ 9 29), .int p360942, .ref (γ 9 31), .int p360943, .int p360944, .int p360945, .ref q360930]) := (x360993).trans he360986
              change G _ _ _ _ _ _ _ _ _ _ _
              refine G_widen (cs' := 0) (sl' := 0) (by omega) (by omega) ?_
              have hb361004 : el (γ 14 q269175) (g359603.toInt : Int).toNat = q360894 := hb360921
              have hL361005 : rwL γ el q269175 (g359603.toInt : Int).toNat = q360903 := by unfold rwL; rw [hb361004]; exact ht360913.1
              have hs361006 : F360976 q360904 = F269173 q360904 := hs360983 q360904 (rT0 ht360909 (by decide)) (rT1 ht360909 (by decide)) (rT2 ht360909 (by decide))
              have gr361007 : gIp (p269176.toInt = 0) (rGr γ el F269173 q269175 (γ 6 (γ 1 q269175)) (cB (F360994 (γ 9 3))) (vB (g359603.toInt : Int).toNat (γ 2 q360903))) := fun h0 => gq_end (x359607 h0) (fun m => by have z := x360992 h0 m; rw [kp360985, hs361006] at z; exact z) ((rAt_e hb361004 ht360913.1 (Nat.le_refl _)).trans ht360913.2.1) (show (g359603.toInt : Int).toNat < γ 6 (γ 1 q269175) by omega) (by rw [hL361005])
              refine G_aload_n 2 dr_cX17_graph_87 rfl ?_
              refine G_aload 0 dr_cX17_graph_88 rfl ?_
              refine Gp_get 1 hm360901 he361000 dr_cX17_graph_90 (gk_X12 D I) (Nat.le_of_ble_eq_true rfl) wr_9_223 rfl ?_
              refine G_iload_n 4 dr_cX17_graph_93 rfl ?_
              refine Gw_callV (As := [.ref q360904, .int p269176]) (gV_ok D I) (ct_279840_SpillForgeModel_back l hl0 D I γ el P269172 F360994 q269174 q360904 p269176 hT360995 htq269174 ht360909 bp269176) dr_cX17_graph_94 ⟨wr_10_174, wr_1_14, wr_10_177, by decide, rfl, (Nat.le_of_ble_eq_true rfl), (Nat.le_of_ble_eq_true rfl)⟩ wr_10_176 wr_p_96 hm360927 he361003 rfl (show 0 + 0 ≤ 0 by first | omega | decide) (show 0 + 0 ≤ 0 by first | omega | decide) (Nat.le_of_ble_eq_true rfl) (fun r361011 w361012 dc361008 ds361009 hp361010 => ?_) (fun _ _ _ _ _ z => z.elim)
              obtain ⟨F361015, rfl, rfl, hT361016, hs361017, hdc, hds, x361013, x361014⟩ := hp361010
              have he361018 : F361015 q269175 = .inr (18, [.ref q359614, .ref q359615, .int p359616, .int p359617]) := (hs361017 q269175 (rT0 htq269175 (by decide)) (rT1 htq269175 (by decide)) (rT2 htq269175 (by decide))).trans he360997
              have he361019 : F361015 q359614 = .inr (4, [.int p360875, .ref q360877, .int p360876]) := (hs361017 q359614 (rT0 ht359618 (by decide)) (rT1 ht359618 (by decide)) (rT2 ht359618 (by decide))).trans he360998
              have he361020 : F361015 q360877 = .inl (I (.object "java/lang/Object"), n360891, .inr (.inr (.inr (.inr f360892)))) := (hs361017 q360877 (rT0 r360883 (by decide)) (rT1 r360883 (by decide)) (rT2 r360883 (by decide))).trans he360999
              have he361021 : F361015 q360894 = .inr (17, [.ref q360903, .ref q360904, .int p360905, .int p360906]) := (hs361017 q360894 (rT0 ht360899 (by decide)) (rT1 ht360899 (by decide)) (rT2 ht360899 (by decide))).trans he361000
              have hs361022 : rStr γ [] F269173 F361015 := rStr_tr hs361001 hs361017
              have kp361023 : F361015 q269174 = F269173 q269174 := (x361013).trans kp361002
              have kp361024 : F361015 (γ 9 3) = F360994 (γ 9 3) := x361014
              have he361025 : F361015 q269174 = .inr (22, [.ref (γ 9 0), .ref (γ 9 1), .ref (γ 9 2), .ref (γ 9 3), .ref (γ 9 4), .ref (γ 9 5), .ref (γ 9 6), .ref (γ 9 7), .ref (γ 9 8), .int p360931, .int p360932, .int p360933, .int p360934, .int p360935, .int p360936, .ref (γ 9 15), .ref (γ 9 16), .ref (γ 9 17), .ref (γ 9 18), .ref (γ 9 19), .ref (γ 9 20), .ref (γ 9 21), .ref (γ 9 22), .int p360937, .int p360938, .int p360939, .int p360940, .int p360941, .ref q360929, .ref (γ 9 29), .int p360942, .ref (γ 9 31), .int p360943, .int p360944, .int p360945, .ref q360930]) := (x361013).trans he361003
              change G _ _ _ _ _ _ _ _ _ _ _
              refine G_widen (cs' := 0) (sl' := 0) (by omega) (by omega) ?_
              refine G_aload 0 dr_cX17_graph_97 rfl ?_
              refine Gp_get 0 hm360901 he361021 dr_cX17_graph_99 (gk_X12 D I) (Nat.le_of_ble_eq_true rfl) wr_9_220 rfl ?_
              have fl361026 : γ 2 (γ 14 q360894) = γ 2 q360903 := by rw [ht360913.1]
              have hm361027 : q360903 ∈ P269172 := RS_m hT361016 ht360907 (by decide)
              obtain ⟨⟨p361029, p361030, q361031, he361028, r361032, r361033, r361034, r361036⟩, r361035⟩ := show rk_3 D I γ el F361015 q360903 from RS_o hT361016 ht360907
              have bp361029 := gB_any p361029
              have bp361030 : gB p361030 0 1000000 := ⟨by omega, by omega⟩
              refine Gw_callV (As := []) (gV_ok D I) (cp_7_ArrayList_size l hl0 D I P269172 F361015 q360903 p361029 q361031 p361030 hm361027 he361028 (gB_w bp361030 (by decide) (by decide))) dr_cX17_graph_102 ⟨wr_10_200, wr_1_18, wr_9_160, by decide, rfl, (Nat.le_of_ble_eq_true rfl), (Nat.le_of_ble_eq_true rfl)⟩ wr_9_158 wr_9_159 hm361027 he361028 rfl (show 0 + 0 ≤ 0 by first | omega | decide) (show 0 + 0 ≤ 0 by first | omega | decide) (Nat.le_of_ble_eq_true rfl) (fun r361040 w361041 dc361037 ds361038 hp361039 => ?_) (fun _ _ _ _ _ z => z.elim)
              obtain ⟨rfl, rfl, hdc, hds⟩ := hp361039
              change G _ _ _ _ _ _ _ (.int p361030 :: _) _ _ _
              refine G_widen (cs' := 0) (sl' := 0) (by omega) (by omega) ?_
              refine G_iconst 1 dr_cX17_graph_105 (by decide +kernel) ?_
              refine G_isub dr_cX17_graph_106 (G_nam fun z361042 hz361042 => ?_)
              have ez361042 : z361042.toInt = p361030.toInt - 1 := by rw [gI_sub hz361042 bp361030 (gBl (show Int32.toInt 1 = 1 by decide)) (by decide) (by decide), show Int32.toInt 1 = 1 from by decide]
              have bz361042 : gB z361042 (-1) 999999 := gB_sub (gI_sub hz361042 bp361030 (gBl (show Int32.toInt 1 = 1 by decide)) (by decide) (by decide)) bp361030 (gBl (show Int32.toInt 1 = 1 by decide)) (by decide) (by decide)
              refine G_istore (L' := [(5, .int z361042), (4, .ref q360894), (3, .int g359603), (0, .ref q269174), (1, .ref q269175), (2, .int p269176)]) dr_cX17_graph_107 (Nat.le_of_ble_eq_true rfl) rfl ?_
              have hlp109_363843 : ∀ (n109_363843 : Nat) (F363838 : Nat → va_E) (g363837 : Int32), gB g363837 (-1) 999999 → RS D I P269172 F363838 γ el → rStr γ [] F269173 F363838 → ((g363837.toInt : Int) < γ 2 (γ 14 q360894)) → (gIp (p269176.toInt = 0) (rGr γ el F269173 q269175 (γ 6 (γ 1 q269175)) (cB (F363838 (γ 9 3))) (vB (g359603.toInt : Int).toNat (g363837.toInt + 1 : Int).toNat))) → (F363838 q269174 = F269173 q269174) → ((g363837.toInt : Int) - (-2)).toNat < n109_363843 → G (gV D I) l (gRm 5 111 0 0) (gMA (gV D I) (pt_269178_SpillForgeModel_graph D I γ el P269172 F269173 q269174 q269175 p269176) gNA 0 0) ky_269178_SpillForgeModel_graph 109 [(5, .int g363837), (4, .ref q360894), (3, .int g359603), (0, .ref q269174), (1, .ref q269175), (2, .int p269176)] [] (va_pl P269172 F363838) 0 0 := by
                intro n109_363843
                induction n109_363843 with
                | zero => intro F363838 g363837 bg363837 hT363839 hs363840 x363841 x363842 x363843 hm109_363843; exact absurd hm109_363843 (Nat.not_lt_zero _)
                | succ n109_363843 ih109_363843 =>
                  intro F363838 g363837 bg363837 hT363839 hs363840 x363841 x363842 x363843 hm109_363843
                  have hs363845 : rStr γ [] F361015 F363838 := fun b h0 hb hw => (hs363840 b h0 hb hw).trans (hs361022 b h0 hb hw).symm
                  have he363846 : F363838 q269175 = .inr (18, [.ref q359614, .ref q359615, .int p359616, .int p359617]) := (hs363845 q269175 (rT0 htq269175 (by decide)) (rT1 htq269175 (by decide)) (rT2 htq269175 (by decide))).trans he361018
                  have he363847 : F363838 q359614 = .inr (4, [.int p360875, .ref q360877, .int p360876]) := (hs363845 q359614 (rT0 ht359618 (by decide)) (rT1 ht359618 (by decide)) (rT2 ht359618 (by decide))).trans he361019
                  have he363848 : F363838 q360877 = .inl (I (.object "java/lang/Object"), n360891, .inr (.inr (.inr (.inr f360892)))) := (hs363845 q360877 (rT0 r360883 (by decide)) (rT1 r360883 (by decide)) (rT2 r360883 (by decide))).trans he361020
                  have he363849 : F363838 q360894 = .inr (17, [.ref q360903, .ref q360904, .int p360905, .int p360906]) := (hs363845 q360894 (rT0 ht360899 (by decide)) (rT1 ht360899 (by decide)) (rT2 ht360899 (by decide))).trans he361021
                  have he363850 : F363838 q360903 = .inr (4, [.int p361029, .ref q361031, .int p361030]) := (hs363845 q360903 (rT0 ht360907 (by decide)) (rT1 ht360907 (by decide)) (rT2 ht360907 (by decide))).trans he361028
                  have hs363851 : rStr γ [] F269173 F363838 := rStr_tr hs361022 hs363845
                  refine G_iload 0 dr_cX17_graph_109 rfl ?_
                  refine G_if_lt 290 dr_cX17_graph_111 (by decide +kernel) (fun hc363852 => ?_) (fun hc363852 => ?_)
                  · have r363853 : g363837.toInt < 0 := gj_lt hc363852 (show Int32.toInt 0 = 0 by decide)
                    have bg363837' : gB g363837 (-1) (-1) := ⟨by omega, by omega⟩
                    obtain ⟨z363854, hz363854⟩ : ∃ z : Int32, z = g359603 + Int32.ofInt 1 := ⟨_, rfl⟩
                    have ez363854 : z363854.toInt = g359603.toInt + 1 := gI_inc hz363854 (by decide) bg359603' (by decide) (by decide)
                    have bz363854 : gB z363854 1 1000000 := ⟨by omega, by omega⟩
                    refine G_iinc (L' := [(3, .int z363854), (5, .int g363837), (4, .ref q360894), (0, .ref q269174), (1, .ref q269175), (2, .int p269176)]) z363854 2 dr_cX17_graph_290 rfl hz363854.symm (Nat.le_of_ble_eq_true rfl) rfl ?_
                    refine G_goto 56 dr_cX17_graph_293 (by decide +kernel) ?_
                    refine G_lv (L' := [(3, .int z363854), (0, .ref q269174), (1, .ref q269175), (2, .int p269176)]) [0, 3, 4, 5] rfl ?_
                    exact ih56_359608 F363838 z363854 (gB_w bz363854 (by decide) (by decide)) hT363839 hs363840 (fun h0 => gq_nx (x363842 h0) (by omega) (by rw [ez363854]; omega)) x363843 (by omega)
                  · have r363855 : 0 ≤ g363837.toInt := gj_nlt hc363852 (show Int32.toInt 0 = 0 by decide)
                    have bg363837' : gB g363837 0 999999 := ⟨by omega, by omega⟩
                    refine G_aload 1 dr_cX17_graph_114 rfl ?_
                    refine Gp_get 0 hm360901 he363849 dr_cX17_graph_116 (gk_X12 D I) (Nat.le_of_ble_eq_true rfl) wr_9_220 rfl ?_
                    refine G_iload 0 dr_cX17_graph_119 rfl ?_
                    have fl363856 : γ 2 (γ 14 q360894) = γ 2 q360903 := by rw [ht360913.1]
                    have hm363857 : q360903 ∈ P269172 := RS_m hT363839 ht360907 (by decide)
                    obtain ⟨⟨p363859, p363860, q363861, he363858, r363862, r363863, r363864, r363866⟩, r363865⟩ := show rk_3 D I γ el F363838 q360903 from RS_o hT363839 ht360907
                    have bp363859 := gB_any p363859
                    have bp363860 : gB p363860 0 1000000 := ⟨by omega, by omega⟩
                    obtain ⟨r363867, r363868, n363875, f363876, r363869, r363870, r363871, r363872, r363873, r363874⟩ := rLC_n r363864 (by omega)
                    have hm363877 : q363861 ∈ P269172 := RS_m hT363839 r363867 (by decide)
                    obtain ⟨q363878, hx363879⟩ : ∃ x, x = el q360903 g363837.toInt.toNat := ⟨_, rfl⟩
                    have hx363880 : f363876 g363837.toNatClampNeg = some q363878 := (r363873 _ (show g363837.toInt.toNat < γ 2 q360903 by omega)).trans (by rw [hx363879])
                    have ht363881 : rKd γ q363878 1 := by rw [hx363879]; exact (r363865 _ (show g363837.toInt.toNat < γ 2 q360903 by omega)).1
                    have ht363882 : rFm γ q363878 q360903 := by rw [hx363879]; exact (r363865 _ (show g363837.toInt.toNat < γ 2 q360903 by omega)).2.1
                    refine Gw_callV (As := [.int g363837]) (gV_ok D I) (cp_22_ArrayList_get l hl0 D I P269172 F363838 q360903 q363861 g363837 p363859 p363860 f363876 n363875 q363878 hm363857 hm363877 he363858 r363869 (gB_w bg363837' (by decide) (by decide)) (gB_w bp363860 (by decide) (by decide)) (by omega) (by omega) (by assumption) (by omega)) dr_cX17_graph_121 ⟨wr_10_201, wr_1_18, wr_10_65, by decide, rfl, (Nat.le_of_ble_eq_true rfl), (Nat.le_of_ble_eq_true rfl)⟩ wr_10_63 wr_10_64 hm363857 he363858 rfl (show 0 + 0 ≤ 0 by first | omega | decide) (show 0 + 0 ≤ 0 by first | omega | decide) (Nat.le_of_ble_eq_true rfl) (fun r363886 w363887 dc363883 ds363884 hp363885 => ?_) (fun _ _ _ _ _ z => z.elim)
                    obtain ⟨rfl, rfl, hdc, hds⟩ := hp363885
                    change G _ _ _ _ _ _ _ (.ref q363878 :: _) _ _ _
                    refine G_widen (cs' := 0) (sl' := 0) (by omega) (by omega) ?_
                    have hr363888 : el q360903 (g363837.toInt : Int).toNat = q363878 := by rw [hx363879]
                    have hm363889 : q363878 ∈ P269172 := RS_m hT363839 ht363881 (by decide)
                    obtain ⟨p363891, p363892, p363893, p363894, p363895, p363896, p363897, he363890, bp363891, bp363892, bp363895, bp363896, bp363897, r363898, r363899, r363900, r363901⟩ := show rk_1 γ q363878 (F363838 q363878) from RS_o hT363839 ht363881
                    have bp363893 := gB_any p363893
                    have bp363894 := gB_any p363894
                    refine Gp_cast hm363889 he363890 rfl dr_cX17_graph_124 wr_10_202 (gr_cast 1 rfl) ?_
                    refine G_astore (L' := [(6, .ref q363878), (5, .int g363837), (4, .ref q360894), (3, .int g359603), (0, .ref q269174), (1, .ref q269175), (2, .int p269176)]) dr_cX17_graph_127 (Nat.le_of_ble_eq_true rfl) rfl ?_
                    refine G_aload_n 4 dr_cX17_graph_129 rfl ?_
                    refine G_aload 0 dr_cX17_graph_130 rfl ?_
                    refine G_iload_n 6 dr_cX17_graph_132 rfl ?_
                    have hm363907 : q269174 ∈ P269172 := RS_m hT363839 htq269174 (by decide)
                    obtain ⟨q363909, q363910, p363911, p363912, p363913, p363914, p363915, p363916, p363917, p363918, p363919, p363920, p363921, p363922, p363923, p363924, p363925, he363908, hB363952, ht363926, ht363927, ht363928, ht363929, ht363930, ht363931, ht363932, ht363933, ht363934, ht363935, ht363936, ht363937, ht363938, ht363939, ht363940, ht363941, ht363942, ht363943, ht363944, ht363945, ht363946, ht363947, ht363948, ht363949, hB363953⟩ := show rk_10 γ (F363838 q269174) from RS_o hT363839 htq269174
                    refine Gw_callV (As := [.ref q363878, .int p269176]) (gV_ok D I) (ct_279575_SpillForgeModel_stand l hl0 D I γ el P269172 F363838 q269174 q363878 p269176 hT363839 htq269174 ht363881 bp269176) dr_cX17_graph_133 ⟨wr_10_237, wr_1_14, wr_11_0, by decide, rfl, (Nat.le_of_ble_eq_true rfl), (Nat.le_of_ble_eq_true rfl)⟩ wr_10_239 wr_p_100 hm363907 he363908 rfl (show 0 + 0 ≤ 0 by first | omega | decide) (show 0 + 0 ≤ 0 by first | omega | decide) (Nat.le_of_ble_eq_true rfl) (fun r363905 w363906 dc363902 ds363903 hp363904 => ?_) (fun _ _ _ _ _ z => z.elim)
                    obtain ⟨F363956, rfl, rfl, hT363957, hs363958, hdc, hds, x363954, x363955⟩ := hp363904
                    have he363959 : F363956 q269175 = .inr (18, [.ref q359614, .ref q359615, .int p359616, .int p359617]) := (hs363958 q269175 (rT0 htq269175 (by decide)) (rT1 htq269175 (by decide)) (rT2 htq269175 (by decide))).trans he363846
                    have he363960 : F363956 q359614 = .inr (4, [.int p360875, .ref q360877, .int p360876]) := (hs363958 q359614 (rT0 ht359618 (by decide)) (rT1 ht359618 (by decide)) (rT2 ht359618 (by decide))).trans he363847
                    have he363961 : F363956 q360877 = .inl (I (.object "java/lang/Object"), n360891, .inr (.inr (.inr (.inr f360892)))) := (hs363958 q360877 (rT0 r360883 (by decide)) (rT1 r360883 (by decide)) (rT2 r360883 (by decide))).trans he363848
                    have he363962 : F363956 q360894 = .inr (17, [.ref q360903, .ref q360904, .int p360905, .int p360906]) := (hs363958 q360894 (rT0 ht360899 (by decide)) (rT1 ht360899 (by decide)) (rT2 ht360899 (by decide))).trans he363849
                    have he363963 : F363956 q360903 = .inr (4, [.int p363859, .ref q363861, .int p363860]) := (hs363958 q360903 (rT0 ht360907 (by decide)) (rT1 ht360907 (by decide)) (rT2 ht360907 (by decide))).trans he363858
                    have he363964 : F363956 q363861 = .inl (I (.object "java/lang/Object"), n363875, .inr (.inr (.inr (.inr f363876)))) := (hs363958 q363861 (rT0 r363867 (by decide)) (rT1 r363867 (by decide)) (rT2 r363867 (by decide))).trans r363869
                    have he363965 : F363956 q363878 = .inr (20, [.int p363891, .int p363892, .int p363893, .int p363894, .int p363895, .int p363896, .int p363897]) := (hs363958 q363878 (rT0 ht363881 (by decide)) (rT1 ht363881 (by decide)) (rT2 ht363881 (by decide))).trans he363890
                    have hs363966 : rStr γ [] F269173 F363956 := rStr_tr hs363840 hs363958
                    have kp363967 : F363956 q269174 = F269173 q269174 := (x363955).trans x363843
                    have he363968 : F363956 q269174 = .inr (22, [.ref (γ 9 0), .ref (γ 9 1), .ref (γ 9 2), .ref (γ 9 3), .ref (γ 9 4), .ref (γ 9 5), .ref (γ 9 6), .ref (γ 9 7), .ref (γ 9 8), .int p363911, .int p363912, .int p363913, .int p363914, .int p363915, .int p363916, .ref (γ 9 15), .ref (γ 9 16), .ref (γ 9 17), .ref (γ 9 18), .ref (γ 9 19), .ref (γ 9 20), .ref (γ 9 21), .ref (γ 9 22), .int p363917, .int p363918, .int p363919, .int p363920, .int p363921, .ref q363909, .ref (γ 9 29), .int p363922, .ref (γ 9 31), .int p363923, .int p363924, .int p363925, .ref q363910]) := (x363955).trans he363908
                    change G _ _ _ _ _ _ _ _ _ _ _
                    refine G_widen (cs' := 0) (sl' := 0) (by omega) (by omega) ?_
                    have hb363969 : el (γ 14 q269175) (g359603.toInt : Int).toNat = q360894 := hb360921
                    have hL363970 : rwL γ el q269175 (g359603.toInt : Int).toNat = q360903 := by unfold rwL; rw [hb363969]; exact ht360913.1
                    have hs363971 : F363838 q363878 = F269173 q363878 := hs363840 q363878 (rT0 ht363881 (by decide)) (rT1 ht363881 (by decide)) (rT2 ht363881 (by decide))
                    have gr363972 : gIp (p269176.toInt = 0) (rGr γ el F269173 q269175 (γ 6 (γ 1 q269175)) (cB (F363956 (γ 9 3))) (vB (g359603.toInt : Int).toNat (g363837.toInt : Int).toNat)) := fun h0 => gq_row (x363842 h0) (fun m => by have z := x363954 h0 m; rw [hs363971] at z; exact z) ((rAt_r hb363969 ht360913.1 (by omega)).trans hr363888) (show (g359603.toInt : Int).toNat < γ 6 (γ 1 q269175) by omega) (by rw [hL363970]; omega) (by omega)
                    refine G_aload 0 dr_cX17_graph_136 rfl ?_
                    refine G_iload_n 6 dr_cX17_graph_138 rfl ?_
                    refine Gw_callS (As := [.ref q363878, .int p269176]) (gV_ok D I) (cp_1778_SpillForgeModel_setOf l hl0 D I P269172 F363956 q363878 p269176 p363891 p363892 p363893 p363894 p363895 p363896 p363897 hm363889 he363965 bp269176 bp363891 bp363892 bp363895 bp363896 bp363897) dr_cX17_graph_139 ⟨wr_10_178, wr_1_14, wr_10_180, by decide, rfl, (Nat.le_of_ble_eq_true rfl), (Nat.le_of_ble_eq_true rfl)⟩ wr_10_179 (show 0 + 0 ≤ 0 by first | omega | decide) (show 0 + 0 ≤ 0 by first | omega | decide) (Nat.le_of_ble_eq_true rfl) (fun r363976 w363977 dc363973 ds363974 hp363975 => ?_) (fun _ _ _ _ _ z => z.elim)
                    obtain ⟨o363978, rfl, rfl, hdc, hds, bo363978⟩ := hp363975
                    change G _ _ _ _ _ _ _ (.int o363978 :: _) _ _ _
                    refine G_widen (cs' := 0) (sl' := 0) (by omega) (by omega) ?_
                    refine G_istore (L' := [(7, .int o363978), (6, .ref q363878), (5, .int g363837), (4, .ref q360894), (3, .int g359603), (0, .ref q269174), (1, .ref q269175), (2, .int p269176)]) dr_cX17_graph_142 (Nat.le_of_ble_eq_true rfl) rfl ?_
                    refine G_iload_n 7 dr_cX17_graph_144 rfl ?_
                    refine G_if_ne 172 dr_cX17_graph_145 (by decide +kernel) (fun hc363979 => ?_) (fun hc363979 => ?_)
                    · have r363980 : p269176.toInt ≠ 0 := gj_neq hc363979 (show Int32.toInt 0 = 0 by decide)
                      have bp269176' : gB p269176 1 1 := ⟨by omega, by omega⟩
                      refine G_iconst (-1) dr_cX17_graph_172 (by decide +kernel) ?_
                      refine G_istore (L' := [(8, .int (-1)), (7, .int o363978), (6, .ref q363878), (5, .int g363837), (4, .ref q360894), (3, .int g359603), (0, .ref q269174), (1, .ref q269175), (2, .int p269176)]) dr_cX17_graph_173 (Nat.le_of_ble_eq_true rfl) rfl ?_
                      refine G_iload 1 dr_cX17_graph_175 rfl ?_
                      refine G_if_lt 277 dr_cX17_graph_177 (by decide +kernel) (fun hc363981 => ?_) (fun hc363981 => ?_)
                      · have r363982 : o363978.toInt < 0 := gj_lt hc363981 (show Int32.toInt 0 = 0 by decide)
                        have bo363978' : gB o363978 (-1) (-1) := ⟨by omega, by omega⟩
                        refine G_aload_n 6 dr_cX17_graph_277 rfl ?_
                        refine G_aload 2 dr_cX17_graph_278 rfl ?_
                        refine G_iload_n 8 dr_cX17_graph_280 rfl ?_
                        refine Gw_callV (As := [.ref q363878, .int p269176]) (gV_ok D I) (ct_279840_SpillForgeModel_back l hl0 D I γ el P269172 F363956 q269174 q363878 p269176 hT363957 htq269174 ht363881 (gB_w bp269176' (by decide) (by decide))) dr_cX17_graph_281 ⟨wr_10_174, wr_1_14, wr_10_177, by decide, rfl, (Nat.le_of_ble_eq_true rfl), (Nat.le_of_ble_eq_true rfl)⟩ wr_10_176 wr_p_96 hm363907 he363968 rfl (show 0 + 0 ≤ 0 by first | omega | decide) (show 0 + 0 ≤ 0 by first | omega | decide) (Nat.le_of_ble_eq_true rfl) (fun r363986 w363987 dc363983 ds363984 hp363985 => ?_) (fun _ _ _ _ _ z => z.elim)
                        obtain ⟨F363990, rfl, rfl, hT363991, hs363992, hdc, hds, x363988, x363989⟩ := hp363985
                        have he363993 : F363990 q269175 = .inr (18, [.ref q359614, .ref q359615, .int p359616, .int p359617]) := (hs363992 q269175 (rT0 htq269175 (by decide)) (rT1 htq269175 (by decide)) (rT2 htq269175 (by decide))).trans he363959
                        have he363994 : F363990 q359614 = .inr (4, [.int p360875, .ref q360877, .int p360876]) := (hs363992 q359614 (rT0 ht359618 (by decide)) (rT1 ht359618 (by decide)) (rT2 ht359618 (by decide))).trans he363960
                        have he363995 : F363990 q360877 = .inl (I (.object "java/lang/Object"), n360891, .inr (.inr (.inr (.inr f360892)))) := (hs363992 q360877 (rT0 r360883 (by decide)) (rT1 r360883 (by decide)) (rT2 r360883 (by decide))).trans he363961
                        have he363996 : F363990 q360894 = .inr (17, [.ref q360903, .ref q360904, .int p360905, .int p360906]) := (hs363992 q360894 (rT0 ht360899 (by decide)) (rT1 ht360899 (by decide)) (rT2 ht360899 (by decide))).trans he363962
                        have he363997 : F363990 q360903 = .inr (4, [.int p363859, .ref q363861, .int p363860]) := (hs363992 q360903 (rT0 ht360907 (by decide)) (rT1 ht360907 (by decide)) (rT2 ht360907 (by decide))).trans he363963
                        have he363998 : F363990 q363861 = .inl (I (.object "java/lang/Object"), n363875, .inr (.inr (.inr (.inr f363876)))) := (hs363992 q363861 (rT0 r363867 (by decide)) (rT1 r363867 (by decide)) (rT2 r363867 (by decide))).trans he363964
                        have he363999 : F363990 q363878 = .inr (20, [.int p363891, .int p363892, .int p363893, .int p363894, .int p363895, .int p363896, .int p363897]) := (hs363992 q363878 (rT0 ht363881 (by decide)) (rT1 ht363881 (by decide)) (rT2 ht363881 (by decide))).trans he363965
                        have hs364000 : rStr γ [] F269173 F363990 := rStr_tr hs363966 hs363992
                        have kp364001 : F363990 q269174 = F269173 q269174 := (x363988).trans kp363967
                        have kp364002 : F363990 (γ 9 3) = F363956 (γ 9 3) := x363989
                        have he364003 : F363990 q269174 = .inr (22, [.ref (γ 9 0), .ref (γ 9 1), .ref (γ 9 2), .ref (γ 9 3), .ref (γ 9 4), .ref (γ 9 5), .ref (γ 9 6), .ref (γ 9 7), .ref (γ 9 8), .int p363911, .int p363912, .int p363913, .int p363914, .int p363915, .int p363916, .ref (γ 9 15), .ref (γ 9 16), .ref (γ 9 17), .ref (γ 9 18), .ref (γ 9 19), .ref (γ 9 20), .ref (γ 9 21), .ref (γ 9 22), .int p363917, .int p363918, .int p363919, .int p363920, .int p363921, .ref q363909, .ref (γ 9 29), .int p363922, .ref (γ 9 31), .int p363923, .int p363924, .int p363925, .ref q363910]) := (x363988).trans he363968
                        change G _ _ _ _ _ _ _ _ _ _ _
                        refine G_widen (cs' := 0) (sl' := 0) (by omega) (by omega) ?_
                        obtain ⟨z364004, hz364004⟩ : ∃ z : Int32, z = g363837 + Int32.ofInt (-1) := ⟨_, rfl⟩
                        have ez364004 : z364004.toInt = g363837.toInt + (-1) := gI_inc hz364004 (by decide) bg363837' (by decide) (by decide)
                        have bz364004 : gB z364004 (-1) 999998 := ⟨by omega, by omega⟩
                        refine G_iinc (L' := [(5, .int z364004), (8, .int (-1)), (7, .int o363978), (6, .ref q363878), (4, .ref q360894), (3, .int g359603), (0, .ref q269174), (1, .ref q269175), (2, .int p269176)]) z364004 3 dr_cX17_graph_284 rfl hz364004.symm (Nat.le_of_ble_eq_true rfl) rfl ?_
                        refine G_goto 109 dr_cX17_graph_287 (by decide +kernel) ?_
                        refine G_lv (L' := [(5, .int z364004), (4, .ref q360894), (3, .int g359603), (0, .ref q269174), (1, .ref q269175), (2, .int p269176)]) [0, 4, 5, 6, 7, 8] rfl ?_
                        exact ih109_363843 F363990 z364004 (gB_w bz364004 (by decide) (by decide)) hT363991 hs364000 (by omega) (fun h0 => by have z := (by rw [kp364002]; exact gr363972) h0; rw [show ((g363837.toInt : Int).toNat : Nat) = (z364004.toInt + 1 : Int).toNat by omega] at z; exact z) kp364001 (by omega)
                      · have r364005 : 0 ≤ o363978.toInt := gj_nlt hc363981 (show Int32.toInt 0 = 0 by decide)
                        have bo363978' : gB o363978 0 1999 := ⟨by omega, by omega⟩
                        refine G_iload 0 dr_cX17_graph_180 rfl ?_
                        refine G_if_lt 204 dr_cX17_graph_182 (by decide +kernel) (fun _ => ?_) (fun hc => absurd hc (by decide))
                        refine G_iconst 0 dr_cX17_graph_204 (by decide +kernel) ?_
                        refine G_istore (L' := [(9, .int 0), (8, .int (-1)), (7, .int o363978), (6, .ref q363878), (5, .int g363837), (4, .ref q360894), (3, .int g359603), (0, .ref q269174), (1, .ref q269175), (2, .int p269176)]) dr_cX17_graph_205 (Nat.le_of_ble_eq_true rfl) rfl ?_
                        refine G_iconst 0 dr_cX17_graph_207 (by decide +kernel) ?_
                        refine G_istore (L' := [(10, .int 0), (9, .int 0), (8, .int (-1)), (7, .int o363978), (6, .ref q363878), (5, .int g363837), (4, .ref q360894), (3, .int g359603), (0, .ref q269174), (1, .ref q269175), (2, .int p269176)]) dr_cX17_graph_208 (Nat.le_of_ble_eq_true rfl) rfl ?_
                        have hlp210_364214 : ∀ (n210_364214 : Nat) (F364210 : Nat → va_E) (g364209 : Int32), gB g364209 0 32 → RS D I P269172 F364210 γ el → rStr γ [] F269173 F364210 → (gIp (p269176.toInt = 0) (rGr γ el F269173 q269175 (γ 6 (γ 1 q269175)) (cB (F364210 (γ 9 3))) (vB (g359603.toInt : Int).toNat (g363837.toInt : Int).toNat))) → (F364210 q269174 = F269173 q269174) → ((33 : Int) - g364209.toInt).toNat < n210_364214 → G (gV D I) l (gRm 5 111 0 0) (gMA (gV D I) (pt_269178_SpillForgeModel_graph D I γ el P269172 F269173 q269174 q269175 p269176) gNA 0 0) ky_269178_SpillForgeModel_graph 210 [(10, .int g364209), (9, .int 0), (8, .int (-1)), (7, .int o363978), (6, .ref q363878), (5, .int g363837), (4, .ref q360894), (3, .int g359603), (0, .ref q269174), (1, .ref q269175), (2, .int p269176)] [] (va_pl P269172 F364210) 0 0 := by
                          intro n210_364214
                          induction n210_364214 with
                          | zero => intro F364210 g364209 bg364209 hT364211 hs364212 x364213 x364214 hm210_364214; exact absurd hm210_364214 (Nat.not_lt_zero _)
                          | succ n210_364214 ih210_364214 =>
                            intro F364210 g364209 bg364209 hT364211 hs364212 x364213 x364214 hm210_364214
                            have hs364216 : rStr γ [] F363956 F364210 := fun b h0 hb hw => (hs364212 b h0 hb hw).trans (hs363966 b h0 hb hw).symm
                            have he364217 : F364210 q269175 = .inr (18, [.ref q359614, .ref q359615, .int p359616, .int p359617]) := (hs364216 q269175 (rT0 htq269175 (by decide)) (rT1 htq269175 (by decide)) (rT2 htq269175 (by decide))).trans he363959
                            have he364218 : F364210 q359614 = .inr (4, [.int p360875, .ref q360877, .int p360876]) := (hs364216 q359614 (rT0 ht359618 (by decide)) (rT1 ht359618 (by decide)) (rT2 ht359618 (by decide))).trans he363960
                            have he364219 : F364210 q360877 = .inl (I (.object "java/lang/Object"), n360891, .inr (.inr (.inr (.inr f360892)))) := (hs364216 q360877 (rT0 r360883 (by decide)) (rT1 r360883 (by decide)) (rT2 r360883 (by decide))).trans he363961
                            have he364220 : F364210 q360894 = .inr (17, [.ref q360903, .ref q360904, .int p360905, .int p360906]) := (hs364216 q360894 (rT0 ht360899 (by decide)) (rT1 ht360899 (by decide)) (rT2 ht360899 (by decide))).trans he363962
                            have he364221 : F364210 q360903 = .inr (4, [.int p363859, .ref q363861, .int p363860]) := (hs364216 q360903 (rT0 ht360907 (by decide)) (rT1 ht360907 (by decide)) (rT2 ht360907 (by decide))).trans he363963
                            have he364222 : F364210 q363861 = .inl (I (.object "java/lang/Object"), n363875, .inr (.inr (.inr (.inr f363876)))) := (hs364216 q363861 (rT0 r363867 (by decide)) (rT1 r363867 (by decide)) (rT2 r363867 (by decide))).trans he363964
                            have he364223 : F364210 q363878 = .inr (20, [.int p363891, .int p363892, .int p363893, .int p363894, .int p363895, .int p363896, .int p363897]) := (hs364216 q363878 (rT0 ht363881 (by decide)) (rT1 ht363881 (by decide)) (rT2 ht363881 (by decide))).trans he363965
                            have hs364224 : rStr γ [] F269173 F364210 := rStr_tr hs363966 hs364216
                            refine G_iload 0 dr_cX17_graph_210 rfl ?_
                            refine G_bipush 32 dr_cX17_graph_212 (by decide +kernel) ?_
                            refine G_icmp_ge 243 dr_cX17_graph_214 (by decide +kernel) (fun hc364225 => ?_) (fun hc364225 => ?_)
                            · have r364226 : 32 ≤ g364209.toInt := gj_leL hc364225 (show Int32.toInt 32 = 32 by decide)
                              have bg364209' : gB g364209 32 32 := ⟨by omega, by omega⟩
                              refine G_iload 2 dr_cX17_graph_243 rfl ?_
                              refine G_if_lt 265 dr_cX17_graph_245 (by decide +kernel) (fun _ => ?_) (fun hc => absurd hc (by decide))
                              refine G_aload_n 8 dr_cX17_graph_265 rfl ?_
                              have hm364227 : q269174 ∈ P269172 := RS_m hT364211 htq269174 (by decide)
                              obtain ⟨q364229, q364230, p364231, p364232, p364233, p364234, p364235, p364236, p364237, p364238, p364239, p364240, p364241, p364242, p364243, p364244, p364245, he364228, hB364272, ht364246, ht364247, ht364248, ht364249, ht364250, ht364251, ht364252, ht364253, ht364254, ht364255, ht364256, ht364257, ht364258, ht364259, ht364260, ht364261, ht364262, ht364263, ht364264, ht364265, ht364266, ht364267, ht364268, ht364269, hB364273⟩ := show rk_10 γ (F364210 q269174) from RS_o hT364211 htq269174
                              refine Gp_get 1 hm364227 he364228 dr_cX17_graph_266 (gk_X17 D I) (Nat.le_of_ble_eq_true rfl) wr_7_75 rfl ?_
                              refine G_iload 3 dr_cX17_graph_269 rfl ?_
                              have hm364274 : (γ 9 1) ∈ P269172 := RS_m hT364211 ht364249 (by decide)
                              obtain ⟨f364276, he364275, hg364277⟩ := show rk_13 I γ (F364210 (γ 9 1)) from RS_o hT364211 ht364249
                              obtain ⟨q364278, hx364280⟩ : ∃ x, x = γ 11 o363978.toInt.toNat := ⟨_, rfl⟩
                              have ht364279 : rKd γ q364278 36 := by rw [hx364280]; exact (hg364277 _ (show o363978.toInt.toNat < 2000 by omega)).2.1
                              refine Gp_aald 5 hm364274 he364275 dr_cX17_graph_271 rfl rfl (gB_in bo363978' (by decide) (by decide)) ?_
                              rw [show f364276 o363978.toNatClampNeg = some q364278 from (hg364277 _ (show o363978.toInt.toNat < 2000 by omega)).1.trans (by rw [hx364280])]
                              change G _ _ _ _ _ _ _ (.ref q364278 :: _) _ _ _
                              refine G_iload 3 dr_cX17_graph_272 rfl ?_
                              have hm364281 : q364278 ∈ P269172 := RS_m hT364211 ht364279 (by decide)
                              obtain ⟨f364283, he364282, wf364283⟩ := show rk_36 I (F364210 q364278) from RS_o hT364211 ht364279
                              refine Gw_callS (As := [.ref q364278, .int o363978]) (gV_ok D I) (cp_1873_SpillForgeModel_clear l hl0 D I P269172 F364210 q364278 o363978 f364283 hm364281 he364282 bo363978' wf364283) dr_cX17_graph_274 ⟨wr_10_185, wr_1_14, wr_10_187, by decide, rfl, (Nat.le_of_ble_eq_true rfl), (Nat.le_of_ble_eq_true rfl)⟩ wr_10_186 (show 0 + 0 ≤ 0 by first | omega | decide) (show 0 + 0 ≤ 0 by first | omega | decide) (Nat.le_of_ble_eq_true rfl) (fun r364287 w364288 dc364284 ds364285 hp364286 => ?_) (fun _ _ _ _ _ z => z.elim)
                              obtain ⟨F364291, f364289, rfl, rfl, hfr364293, he364294, hdc, hds, x364290⟩ := hp364286
                              have he364295 : F364291 q269175 = .inr (18, [.ref q359614, .ref q359615, .int p359616, .int p359617]) := (hfr364293 q269175 hm359612 (nm_c (rn_oa he364217 he364282) nm_n)).trans he364217
                              have he364296 : F364291 q359614 = .inr (4, [.int p360875, .ref q360877, .int p360876]) := (hfr364293 q359614 hm360873 (nm_c (rn_oa he364218 he364282) nm_n)).trans he364218
                              have he364297 : F364291 q360877 = .inl (I (.object "java/lang/Object"), n360891, .inr (.inr (.inr (.inr f360892)))) := (hfr364293 q360877 hm360893 (nm_c (rn_ref_long he364219 he364282) nm_n)).trans he364219
                              have he364298 : F364291 q360894 = .inr (17, [.ref q360903, .ref q360904, .int p360905, .int p360906]) := (hfr364293 q360894 hm360901 (nm_c (rn_oa he364220 he364282) nm_n)).trans he364220
                              have he364299 : F364291 q360903 = .inr (4, [.int p363859, .ref q363861, .int p363860]) := (hfr364293 q360903 hm363857 (nm_c (rn_oa he364221 he364282) nm_n)).trans he364221
                              have he364300 : F364291 q363861 = .inl (I (.object "java/lang/Object"), n363875, .inr (.inr (.inr (.inr f363876)))) := (hfr364293 q363861 hm363877 (nm_c (rn_ref_long he364222 he364282) nm_n)).trans he364222
                              have he364301 : F364291 q363878 = .inr (20, [.int p363891, .int p363892, .int p363893, .int p363894, .int p363895, .int p363896, .int p363897]) := (hfr364293 q363878 hm363889 (nm_c (rn_oa he364223 he364282) nm_n)).trans he364223
                              have he364302 : F364291 q269174 = .inr (22, [.ref (γ 9 0), .ref (γ 9 1), .ref (γ 9 2), .ref (γ 9 3), .ref (γ 9 4), .ref (γ 9 5), .ref (γ 9 6), .ref (γ 9 7), .ref (γ 9 8), .int p364231, .int p364232, .int p364233, .int p364234, .int p364235, .int p364236, .ref (γ 9 15), .ref (γ 9 16), .ref (γ 9 17), .ref (γ 9 18), .ref (γ 9 19), .ref (γ 9 20), .ref (γ 9 21), .ref (γ 9 22), .int p364237, .int p364238, .int p364239, .int p364240, .int p364241, .ref q364229, .ref (γ 9 29), .int p364242, .ref (γ 9 31), .int p364243, .int p364244, .int p364245, .ref q364230]) := (hfr364293 q269174 hm364227 (nm_c (rn_oa he364228 he364282) nm_n)).trans he364228
                              have he364303 : F364291 (γ 9 1) = .inl (I (.array .long), 2000, .inr (.inr (.inr (.inr f364276)))) := (hfr364293 (γ 9 1) hm364274 (nm_c (rn_ref_long he364275 he364282) nm_n)).trans he364275
                              have hfr364304 : rFr [q364278] P269172 F364210 F364291 := rFr_call (rSub_rf (P := P269172)) (rFr_rf (W := []) (P := P269172) (F := F364210)) hfr364293 (fun b hb hn => ⟨nm_n, (nm_c (fun e => hn (e ▸ List.mem_cons_self)) nm_n)⟩)
                              change G _ _ _ _ _ _ _ _ _ _ _
                              refine G_widen (cs' := 0) (sl' := 0) (by omega) (by omega) ?_
                              have hT364305 : RS D I P269172 F364291 γ el := RS_fr hT364211 hfr364304 ht364279 (by decide) ⟨f364289, he364294, x364290⟩
                              have hs364306 : rStr γ [] F269173 F364291 := rStr_fr hT364211 hs364212 hfr364304 ht364279 (by decide)
                              have kp364307 : F364291 q269174 = F269173 q269174 := (hfr364304 q269174 (RS_m hT364211 htq269174 (by decide)) (nm_c (rn_ty htq269174 ht364279 (by decide)) nm_n)).trans x364214
                              have kp364308 : F364291 (γ 9 3) = F364210 (γ 9 3) := hfr364304 (γ 9 3) (RS_m hT364211 ht364251 (by decide)) (nm_c (rn_ty ht364251 ht364279 (by decide)) nm_n)
                              refine G_aload_n 8 dr_cX17_graph_277 rfl ?_
                              refine G_aload 4 dr_cX17_graph_278 rfl ?_
                              refine G_iload_n 10 dr_cX17_graph_280 rfl ?_
                              refine Gw_callV (As := [.ref q363878, .int p269176]) (gV_ok D I) (ct_279840_SpillForgeModel_back l hl0 D I γ el P269172 F364291 q269174 q363878 p269176 hT364305 htq269174 ht363881 (gB_w bp269176' (by decide) (by decide))) dr_cX17_graph_281 ⟨wr_10_174, wr_1_14, wr_10_177, by decide, rfl, (Nat.le_of_ble_eq_true rfl), (Nat.le_of_ble_eq_true rfl)⟩ wr_10_176 wr_p_96 hm364227 he364302 rfl (show 0 + 0 ≤ 0 by first | omega | decide) (show 0 + 0 ≤ 0 by first | omega | decide) (Nat.le_of_ble_eq_true rfl) (fun r364312 w364313 dc364309 ds364310 hp364311 => ?_) (fun _ _ _ _ _ z => z.elim)
                              obtain ⟨F364316, rfl, rfl, hT364317, hs364318, hdc, hds, x364314, x364315⟩ := hp364311
                              have he364319 : F364316 q269175 = .inr (18, [.ref q359614, .ref q359615, .int p359616, .int p359617]) := (hs364318 q269175 (rT0 htq269175 (by decide)) (rT1 htq269175 (by decide)) (rT2 htq269175 (by decide))).trans he364295
                              have he364320 : F364316 q359614 = .inr (4, [.int p360875, .ref q360877, .int p360876]) := (hs364318 q359614 (rT0 ht359618 (by decide)) (rT1 ht359618 (by decide)) (rT2 ht359618 (by decide))).trans he364296
                              have he364321 : F364316 q360877 = .inl (I (.object "java/lang/Object"), n360891, .inr (.inr (.inr (.inr f360892)))) := (hs364318 q360877 (rT0 r360883 (by decide)) (rT1 r360883 (by decide)) (rT2 r360883 (by decide))).trans he364297
                              have he364322 : F364316 q360894 = .inr (17, [.ref q360903, .ref q360904, .int p360905, .int p360906]) := (hs364318 q360894 (rT0 ht360899 (by decide)) (rT1 ht360899 (by decide)) (rT2 ht360899 (by decide))).trans he364298
                              have he364323 : F364316 q360903 = .inr (4, [.int p363859, .ref q363861, .int p363860]) := (hs364318 q360903 (rT0 ht360907 (by decide)) (rT1 ht360907 (by decide)) (rT2 ht360907 (by decide))).trans he364299
                              have he364324 : F364316 q363861 = .inl (I (.object "java/lang/Object"), n363875, .inr (.inr (.inr (.inr f363876)))) := (hs364318 q363861 (rT0 r363867 (by decide)) (rT1 r363867 (by decide)) (rT2 r363867 (by decide))).trans he364300
                              have he364325 : F364316 q363878 = .inr (20, [.int p363891, .int p363892, .int p363893, .int p363894, .int p363895, .int p363896, .int p363897]) := (hs364318 q363878 (rT0 ht363881 (by decide)) (rT1 ht363881 (by decide)) (rT2 ht363881 (by decide))).trans he364301
                              have hs364326 : rStr γ [] F269173 F364316 := rStr_tr hs364306 hs364318
                              have kp364327 : F364316 q269174 = F269173 q269174 := (x364314).trans kp364307
                              have kp364328 : F364316 (γ 9 3) = F364210 (γ 9 3) := (x364315).trans kp364308
                              have he364329 : F364316 q269174 = .inr (22, [.ref (γ 9 0), .ref (γ 9 1), .ref (γ 9 2), .ref (γ 9 3), .ref (γ 9 4), .ref (γ 9 5), .ref (γ 9 6), .ref (γ 9 7), .ref (γ 9 8), .int p364231, .int p364232, .int p364233, .int p364234, .int p364235, .int p364236, .ref (γ 9 15), .ref (γ 9 16), .ref (γ 9 17), .ref (γ 9 18), .ref (γ 9 19), .ref (γ 9 20), .ref (γ 9 21), .ref (γ 9 22), .int p364237, .int p364238, .int p364239, .int p364240, .int p364241, .ref q364229, .ref (γ 9 29), .int p364242, .ref (γ 9 31), .int p364243, .int p364244, .int p364245, .ref q364230]) := (x364314).trans he364302
                              change G _ _ _ _ _ _ _ _ _ _ _
                              refine G_widen (cs' := 0) (sl' := 0) (by omega) (by omega) ?_
                              obtain ⟨z364330, hz364330⟩ : ∃ z : Int32, z = g363837 + Int32.ofInt (-1) := ⟨_, rfl⟩
                              have ez364330 : z364330.toInt = g363837.toInt + (-1) := gI_inc hz364330 (by decide) bg363837' (by decide) (by decide)
                              have bz364330 : gB z364330 (-1) 999998 := ⟨by omega, by omega⟩
                              refine G_iinc (L' := [(5, .int z364330), (10, .int g364209), (9, .int 0), (8, .int (-1)), (7, .int o363978), (6, .ref q363878), (4, .ref q360894), (3, .int g359603), (0, .ref q269174), (1, .ref q269175), (2, .int p269176)]) z364330 5 dr_cX17_graph_284 rfl hz364330.symm (Nat.le_of_ble_eq_true rfl) rfl ?_
                              refine G_goto 109 dr_cX17_graph_287 (by decide +kernel) ?_
                              refine G_lv (L' := [(5, .int z364330), (4, .ref q360894), (3, .int g359603), (0, .ref q269174), (1, .ref q269175), (2, .int p269176)]) [0, 6, 7, 8, 9, 10] rfl ?_
                              exact ih109_363843 F364316 z364330 (gB_w bz364330 (by decide) (by decide)) hT364317 hs364326 (by omega) (fun h0 => by have z := (by rw [kp364328]; exact x364213) h0; rw [show ((g363837.toInt : Int).toNat : Nat) = (z364330.toInt + 1 : Int).toNat by omega] at z; exact z) kp364327 (by omega)
                            · have r364331 : g364209.toInt < 32 := gj_nleL hc364225 (show Int32.toInt 32 = 32 by decide)
                              have bg364209' : gB g364209 0 31 := ⟨by omega, by omega⟩
                              refine G_aload_n 8 dr_cX17_graph_217 rfl ?_
                              have hm364332 : q269174 ∈ P269172 := RS_m hT364211 htq269174 (by decide)
                              obtain ⟨q364334, q364335, p364336, p364337, p364338, p364339, p364340, p364341, p364342, p364343, p364344, p364345, p364346, p364347, p364348, p364349, p364350, he364333, hB364377, ht364351, ht364352, ht364353, ht364354, ht364355, ht364356, ht364357, ht364358, ht364359, ht364360, ht364361, ht364362, ht364363, ht364364, ht364365, ht364366, ht364367, ht364368, ht364369, ht364370, ht364371, ht364372, ht364373, ht364374, hB364378⟩ := show rk_10 γ (F364210 q269174) from RS_o hT364211 htq269174
                              refine Gp_get 1 hm364332 he364333 dr_cX17_graph_218 (gk_X17 D I) (Nat.le_of_ble_eq_true rfl) wr_7_75 rfl ?_
                              refine G_iload 3 dr_cX17_graph_221 rfl ?_
                              have hm364379 : (γ 9 1) ∈ P269172 := RS_m hT364211 ht364354 (by decide)
                              obtain ⟨f364381, he364380, hg364382⟩ := show rk_13 I γ (F364210 (γ 9 1)) from RS_o hT364211 ht364354
                              obtain ⟨q364383, hx364385⟩ : ∃ x, x = γ 11 o363978.toInt.toNat := ⟨_, rfl⟩
                              have ht364384 : rKd γ q364383 36 := by rw [hx364385]; exact (hg364382 _ (show o363978.toInt.toNat < 2000 by omega)).2.1
                              refine Gp_aald 5 hm364379 he364380 dr_cX17_graph_223 rfl rfl (gB_in bo363978' (by decide) (by decide)) ?_
                              rw [show f364381 o363978.toNatClampNeg = some q364383 from (hg364382 _ (show o363978.toInt.toNat < 2000 by omega)).1.trans (by rw [hx364385])]
                              change G _ _ _ _ _ _ _ (.ref q364383 :: _) _ _ _
                              refine G_iload 0 dr_cX17_graph_224 rfl ?_
                              refine G_dup2_11 dr_cX17_graph_226 rfl rfl ?_
                              have hm364386 : q364383 ∈ P269172 := RS_m hT364211 ht364384 (by decide)
                              obtain ⟨f364388, he364387, wf364388⟩ := show rk_36 I (F364210 q364383) from RS_o hT364211 ht364384
                              refine Gp_lald 2 hm364386 he364387 dr_cX17_graph_227 rfl (gB_in bg364209' (by decide) (by decide)) (G_namL fun u364389 hu364389 => ?_)
                              have qu364389 : lb_Q u364389 (2000 - 64 * g364209.toInt) := lb_Wld hu364389 wf364388 (by omega) (by omega) (lb_Mod0 (by omega) (by omega))
                              refine G_aload_n 8 dr_cX17_graph_228 rfl ?_
                              refine Gp_get 2 hm364332 he364333 dr_cX17_graph_229 (gk_X17 D I) (Nat.le_of_ble_eq_true rfl) wr_7_76 rfl ?_
                              refine G_iload 0 dr_cX17_graph_232 rfl ?_
                              have hm364390 : (γ 9 2) ∈ P269172 := RS_m hT364211 ht364355 (by decide)
                              obtain ⟨f364392, he364391, wf364392⟩ := show rk_35 I (F364210 (γ 9 2)) from RS_o hT364211 ht364355
                              refine Gp_lald 2 hm364390 he364391 dr_cX17_graph_234 rfl (gB_in bg364209' (by decide) (by decide)) (G_namL fun u364393 hu364393 => ?_)
                              have qu364393 : lb_Q u364393 (2000 - 64 * g364209.toInt) := lb_Wld hu364393 wf364392 (by omega) (by omega) (lb_Mod0 (by omega) (by omega))
                              refine G_lor dr_cX17_graph_235 (G_namL fun u364394 hu364394 => ?_)
                              have qu364394 : lb_Q u364394 (2000 - 64 * g364209.toInt) := lb_Qor hu364394 qu364389 qu364393
                              refine Gp_last 2 hm364386 he364387 dr_cX17_graph_236 rfl (gB_in bg364209' (by decide) (by decide)) (fun F364395 e364396 n364397 => ?_)
                              obtain ⟨f364398, hf364398⟩ : ∃ z, z = vp_updL f364388 g364209.toNatClampNeg u364394 := ⟨_, rfl⟩
                              rw [← hf364398] at e364396
                              have he364399 : F364395 q269175 = .inr (18, [.ref q359614, .ref q359615, .int p359616, .int p359617]) := (n364397 q269175 (rn_oa he364217 he364387)).trans he364217
                              have he364400 : F364395 q359614 = .inr (4, [.int p360875, .ref q360877, .int p360876]) := (n364397 q359614 (rn_oa he364218 he364387)).trans he364218
                              have he364401 : F364395 q360877 = .inl (I (.object "java/lang/Object"), n360891, .inr (.inr (.inr (.inr f360892)))) := (n364397 q360877 (rn_ref_long he364219 he364387)).trans he364219
                              have he364402 : F364395 q360894 = .inr (17, [.ref q360903, .ref q360904, .int p360905, .int p360906]) := (n364397 q360894 (rn_oa he364220 he364387)).trans he364220
                              have he364403 : F364395 q360903 = .inr (4, [.int p363859, .ref q363861, .int p363860]) := (n364397 q360903 (rn_oa he364221 he364387)).trans he364221
                              have he364404 : F364395 q363861 = .inl (I (.object "java/lang/Object"), n363875, .inr (.inr (.inr (.inr f363876)))) := (n364397 q363861 (rn_ref_long he364222 he364387)).trans he364222
                              have he364405 : F364395 q363878 = .inr (20, [.int p363891, .int p363892, .int p363893, .int p363894, .int p363895, .int p363896, .int p363897]) := (n364397 q363878 (rn_oa he364223 he364387)).trans he364223
                              have he364406 : F364395 q269174 = .inr (22, [.ref (γ 9 0), .ref (γ 9 1), .ref (γ 9 2), .ref (γ 9 3), .ref (γ 9 4), .ref (γ 9 5), .ref (γ 9 6), .ref (γ 9 7), .ref (γ 9 8), .int p364336, .int p364337, .int p364338, .int p364339, .int p364340, .int p364341, .ref (γ 9 15), .ref (γ 9 16), .ref (γ 9 17), .ref (γ 9 18), .ref (γ 9 19), .ref (γ 9 20), .ref (γ 9 21), .ref (γ 9 22), .int p364342, .int p364343, .int p364344, .int p364345, .int p364346, .ref q364334, .ref (γ 9 29), .int p364347, .ref (γ 9 31), .int p364348, .int p364349, .int p364350, .ref q364335]) := (n364397 q269174 (rn_oa he364333 he364387)).trans he364333
                              have he364407 : F364395 (γ 9 1) = .inl (I (.array .long), 2000, .inr (.inr (.inr (.inr f364381)))) := (n364397 (γ 9 1) (rn_ref_long he364380 he364387)).trans he364380
                              have he364408 : F364395 (γ 9 2) = .inl (I .long, 32, .inr (.inl f364392)) := (n364397 (γ 9 2) (rn_ty ht364355 ht364384 (by decide))).trans he364391
                              have he364409 : F364395 q364383 = .inl (I .long, 32, .inr (.inl f364398)) := e364396
                              have hs364410 : rStr γ [] F269173 F364395 := rStr_put hs364212 n364397 ht364384 (by decide)
                              have kp364411 : F364395 q269174 = F269173 q269174 := (n364397 q269174 (rn_ty htq269174 ht364384 (by decide))).trans x364214
                              have kp364412 : F364395 (γ 9 3) = F364210 (γ 9 3) := n364397 (γ 9 3) (rn_ty ht364356 ht364384 (by decide))
                              have wf364398 : lb_W f364398 (32) (32) (2000) := lb_Wst hf364398 wf364388 (by omega) (lb_Mod0 (by omega) (by omega)) qu364394
                              obtain ⟨z364413, hz364413⟩ : ∃ z : Int32, z = g364209 + Int32.ofInt 1 := ⟨_, rfl⟩
                              have ez364413 : z364413.toInt = g364209.toInt + 1 := gI_inc hz364413 (by decide) bg364209' (by decide) (by decide)
                              have bz364413 : gB z364413 1 32 := ⟨by omega, by omega⟩
                              refine G_iinc (L' := [(10, .int z364413), (9, .int 0), (8, .int (-1)), (7, .int o363978), (6, .ref q363878), (5, .int g363837), (4, .ref q360894), (3, .int g359603), (0, .ref q269174), (1, .ref q269175), (2, .int p269176)]) z364413 0 dr_cX17_graph_237 rfl hz364413.symm (Nat.le_of_ble_eq_true rfl) rfl ?_
                              refine G_goto 210 dr_cX17_graph_240 (by decide +kernel) ?_
                              have hT364414 : RS D I P269172 F364395 γ el := RS_set hT364211 n364397 ht364384 (by decide) ⟨f364398, he364409, wf364398⟩
                              exact ih210_364214 F364395 z364413 (gB_w bz364413 (by decide) (by decide)) hT364414 hs364410 (by rw [kp364412]; exact x364213) kp364411 (by have qa0 : Int32.toInt (-1) = (-1) := (by decide); have qa1 : Int32.toInt 0 = 0 := (by decide); omega)
                        exact hlp210_364214 (((33 : Int) - 0).toNat + 1) F363956 0 (gB_w (gBl (show Int32.toInt 0 = 0 by decide)) (by decide) (by decide)) hT363957 hs363966 gr363972 kp363967 (Nat.lt_succ_self _)
                    · have r364415 : p269176.toInt = 0 := gj_eq hc363979 (show Int32.toInt 0 = 0 by decide)
                      have bp269176' : gB p269176 0 0 := ⟨by omega, by omega⟩
                      refine G_aload 1 dr_cX17_graph_148 rfl ?_
                      refine Gp_get 0 hm363889 he363965 dr_cX17_graph_150 (gk_X15 D I) (Nat.le_of_ble_eq_true rfl) wr_9_177 rfl ?_
                      refine G_if_ne 172 dr_cX17_graph_153 (by decide +kernel) (fun hc364416 => ?_) (fun hc364416 => ?_)
                      · have r364417 : p363891.toInt ≠ 0 := gj_neq hc364416 (show Int32.toInt 0 = 0 by decide)
                        have bp363891' : gB p363891 1 32 := ⟨by omega, by omega⟩
                        refine G_iconst (-1) dr_cX17_graph_172 (by decide +kernel) ?_
                        refine G_istore (L' := [(8, .int (-1)), (7, .int o363978), (6, .ref q363878), (5, .int g363837), (4, .ref q360894), (3, .int g359603), (0, .ref q269174), (1, .ref q269175), (2, .int p269176)]) dr_cX17_graph_173 (Nat.le_of_ble_eq_true rfl) rfl ?_
                        refine G_iload 1 dr_cX17_graph_175 rfl ?_
                        refine G_if_lt 277 dr_cX17_graph_177 (by decide +kernel) (fun hc364418 => ?_) (fun hc364418 => ?_)
                        · have r364419 : o363978.toInt < 0 := gj_lt hc364418 (show Int32.toInt 0 = 0 by decide)
                          have bo363978' : gB o363978 (-1) (-1) := ⟨by omega, by omega⟩
                          refine G_aload_n 6 dr_cX17_graph_277 rfl ?_
                          refine G_aload 2 dr_cX17_graph_278 rfl ?_
                          refine G_iload_n 8 dr_cX17_graph_280 rfl ?_
                          refine Gw_callV (As := [.ref q363878, .int p269176]) (gV_ok D I) (ct_279840_SpillForgeModel_back l hl0 D I γ el P269172 F363956 q269174 q363878 p269176 hT363957 htq269174 ht363881 (gB_w bp269176' (by decide) (by decide))) dr_cX17_graph_281 ⟨wr_10_174, wr_1_14, wr_10_177, by decide, rfl, (Nat.le_of_ble_eq_true rfl), (Nat.le_of_ble_eq_true rfl)⟩ wr_10_176 wr_p_96 hm363907 he363968 rfl (show 0 + 0 ≤ 0 by first | omega | decide) (show 0 + 0 ≤ 0 by first | omega | decide) (Nat.le_of_ble_eq_true rfl) (fun r364423 w364424 dc364420 ds364421 hp364422 => ?_) (fun _ _ _ _ _ z => z.elim)
                          obtain ⟨F364427, rfl, rfl, hT364428, hs364429, hdc, hds, x364425, x364426⟩ := hp364422
                          have he364430 : F364427 q269175 = .inr (18, [.ref q359614, .ref q359615, .int p359616, .int p359617]) := (hs364429 q269175 (rT0 htq269175 (by decide)) (rT1 htq269175 (by decide)) (rT2 htq269175 (by decide))).trans he363959
                          have he364431 : F364427 q359614 = .inr (4, [.int p360875, .ref q360877, .int p360876]) := (hs364429 q359614 (rT0 ht359618 (by decide)) (rT1 ht359618 (by decide)) (rT2 ht359618 (by decide))).trans he363960
                          have he364432 : F364427 q360877 = .inl (I (.object "java/lang/Object"), n360891, .inr (.inr (.inr (.inr f360892)))) := (hs364429 q360877 (rT0 r360883 (by decide)) (rT1 r360883 (by decide)) (rT2 r360883 (by decide))).trans he363961
                          have he364433 : F364427 q360894 = .inr (17, [.ref q360903, .ref q360904, .int p360905, .int p360906]) := (hs364429 q360894 (rT0 ht360899 (by decide)) (rT1 ht360899 (by decide)) (rT2 ht360899 (by decide))).trans he363962
                          have he364434 : F364427 q360903 = .inr (4, [.int p363859, .ref q363861, .int p363860]) := (hs364429 q360903 (rT0 ht360907 (by decide)) (rT1 ht360907 (by decide)) (rT2 ht360907 (by decide))).trans he363963
                          have he364435 : F364427 q363861 = .inl (I (.object "java/lang/Object"), n363875, .inr (.inr (.inr (.inr f363876)))) := (hs364429 q363861 (rT0 r363867 (by decide)) (rT1 r363867 (by decide)) (rT2 r363867 (by decide))).trans he363964
                          have he364436 : F364427 q363878 = .inr (20, [.int p363891, .int p363892, .int p363893, .int p363894, .int p363895, .int p363896, .int p363897]) := (hs364429 q363878 (rT0 ht363881 (by decide)) (rT1 ht363881 (by decide)) (rT2 ht363881 (by decide))).trans he363965
                          have hs364437 : rStr γ [] F269173 F364427 := rStr_tr hs363966 hs364429
                          have kp364438 : F364427 q269174 = F269173 q269174 := (x364425).trans kp363967
                          have kp364439 : F364427 (γ 9 3) = F363956 (γ 9 3) := x364426
                          have he364440 : F364427 q269174 = .inr (22, [.ref (γ 9 0), .ref (γ 9 1), .ref (γ 9 2), .ref (γ 9 3), .ref (γ 9 4), .ref (γ 9 5), .ref (γ 9 6), .ref (γ 9 7), .ref (γ 9 8), .int p363911, .int p363912, .int p363913, .int p363914, .int p363915, .int p363916, .ref (γ 9 15), .ref (γ 9 16), .ref (γ 9 17), .ref (γ 9 18), .ref (γ 9 19), .ref (γ 9 20), .ref (γ 9 21), .ref (γ 9 22), .int p363917, .int p363918, .int p363919, .int p363920, .int p363921, .ref q363909, .ref (γ 9 29), .int p363922, .ref (γ 9 31), .int p363923, .int p363924, .int p363925, .ref q363910]) := (x364425).trans he363968
                          change G _ _ _ _ _ _ _ _ _ _ _
                          refine G_widen (cs' := 0) (sl' := 0) (by omega) (by omega) ?_
                          obtain ⟨z364441, hz364441⟩ : ∃ z : Int32, z = g363837 + Int32.ofInt (-1) := ⟨_, rfl⟩
                          have ez364441 : z364441.toInt = g363837.toInt + (-1) := gI_inc hz364441 (by decide) bg363837' (by decide) (by decide)
                          have bz364441 : gB z364441 (-1) 999998 := ⟨by omega, by omega⟩
                          refine G_iinc (L' := [(5, .int z364441), (8, .int (-1)), (7, .int o363978), (6, .ref q363878), (4, .ref q360894), (3, .int g359603), (0, .ref q269174), (1, .ref q269175), (2, .int p269176)]) z364441 3 dr_cX17_graph_284 rfl hz364441.symm (Nat.le_of_ble_eq_true rfl) rfl ?_
                          refine G_goto 109 dr_cX17_graph_287 (by decide +kernel) ?_
                          refine G_lv (L' := [(5, .int z364441), (4, .ref q360894), (3, .int g359603), (0, .ref q269174), (1, .ref q269175), (2, .int p269176)]) [0, 4, 5, 6, 7, 8] rfl ?_
                          exact ih109_363843 F364427 z364441 (gB_w bz364441 (by decide) (by decide)) hT364428 hs364437 (by omega) (fun h0 => by have z := (by rw [kp364439]; exact gr363972) h0; rw [show ((g363837.toInt : Int).toNat : Nat) = (z364441.toInt + 1 : Int).toNat by omega] at z; exact z) kp364438 (by omega)
                        · have r364442 : 0 ≤ o363978.toInt := gj_nlt hc364418 (show Int32.toInt 0 = 0 by decide)
                          have bo363978' : gB o363978 0 1999 := ⟨by omega, by omega⟩
                          refine G_iload 0 dr_cX17_graph_180 rfl ?_
                          refine G_if_lt 204 dr_cX17_graph_182 (by decide +kernel) (fun _ => ?_) (fun hc => absurd hc (by decide))
                          refine G_iconst 0 dr_cX17_graph_204 (by decide +kernel) ?_
                          refine G_istore (L' := [(9, .int 0), (8, .int (-1)), (7, .int o363978), (6, .ref q363878), (5, .int g363837), (4, .ref q360894), (3, .int g359603), (0, .ref q269174), (1, .ref q269175), (2, .int p269176)]) dr_cX17_graph_205 (Nat.le_of_ble_eq_true rfl) rfl ?_
                          refine G_iconst 0 dr_cX17_graph_207 (by decide +kernel) ?_
                          refine G_istore (L' := [(10, .int 0), (9, .int 0), (8, .int (-1)), (7, .int o363978), (6, .ref q363878), (5, .int g363837), (4, .ref q360894), (3, .int g359603), (0, .ref q269174), (1, .ref q269175), (2, .int p269176)]) dr_cX17_graph_208 (Nat.le_of_ble_eq_true rfl) rfl ?_
                          have hlp210_364651 : ∀ (n210_364651 : Nat) (F364647 : Nat → va_E) (g364646 : Int32), gB g364646 0 32 → RS D I P269172 F364647 γ el → rStr γ [] F269173 F364647 → (gIp (p269176.toInt = 0) (rGr γ el F269173 q269175 (γ 6 (γ 1 q269175)) (cB (F364647 (γ 9 3))) (vB (g359603.toInt : Int).toNat (g363837.toInt : Int).toNat))) → (F364647 q269174 = F269173 q269174) → ((33 : Int) - g364646.toInt).toNat < n210_364651 → G (gV D I) l (gRm 5 111 0 0) (gMA (gV D I) (pt_269178_SpillForgeModel_graph D I γ el P269172 F269173 q269174 q269175 p269176) gNA 0 0) ky_269178_SpillForgeModel_graph 210 [(10, .int g364646), (9, .int 0), (8, .int (-1)), (7, .int o363978), (6, .ref q363878), (5, .int g363837), (4, .ref q360894), (3, .int g359603), (0, .ref q269174), (1, .ref q269175), (2, .int p269176)] [] (va_pl P269172 F364647) 0 0 := by
                            intro n210_364651
                            induction n210_364651 with
                            | zero => intro F364647 g364646 bg364646 hT364648 hs364649 x364650 x364651 hm210_364651; exact absurd hm210_364651 (Nat.not_lt_zero _)
                            | succ n210_364651 ih210_364651 =>
                              intro F364647 g364646 bg364646 hT364648 hs364649 x364650 x364651 hm210_364651
                              have hs364653 : rStr γ [] F363956 F364647 := fun b h0 hb hw => (hs364649 b h0 hb hw).trans (hs363966 b h0 hb hw).symm
                              have he364654 : F364647 q269175 = .inr (18, [.ref q359614, .ref q359615, .int p359616, .int p359617]) := (hs364653 q269175 (rT0 htq269175 (by decide)) (rT1 htq269175 (by decide)) (rT2 htq269175 (by decide))).trans he363959
                              have he364655 : F364647 q359614 = .inr (4, [.int p360875, .ref q360877, .int p360876]) := (hs364653 q359614 (rT0 ht359618 (by decide)) (rT1 ht359618 (by decide)) (rT2 ht359618 (by decide))).trans he363960
                              have he364656 : F364647 q360877 = .inl (I (.object "java/lang/Object"), n360891, .inr (.inr (.inr (.inr f360892)))) := (hs364653 q360877 (rT0 r360883 (by decide)) (rT1 r360883 (by decide)) (rT2 r360883 (by decide))).trans he363961
                              have he364657 : F364647 q360894 = .inr (17, [.ref q360903, .ref q360904, .int p360905, .int p360906]) := (hs364653 q360894 (rT0 ht360899 (by decide)) (rT1 ht360899 (by decide)) (rT2 ht360899 (by decide))).trans he363962
                              have he364658 : F364647 q360903 = .inr (4, [.int p363859, .ref q363861, .int p363860]) := (hs364653 q360903 (rT0 ht360907 (by decide)) (rT1 ht360907 (by decide)) (rT2 ht360907 (by decide))).trans he363963
                              have he364659 : F364647 q363861 = .inl (I (.object "java/lang/Object"), n363875, .inr (.inr (.inr (.inr f363876)))) := (hs364653 q363861 (rT0 r363867 (by decide)) (rT1 r363867 (by decide)) (rT2 r363867 (by decide))).trans he363964
                              have he364660 : F364647 q363878 = .inr (20, [.int p363891, .int p363892, .int p363893, .int p363894, .int p363895, .int p363896, .int p363897]) := (hs364653 q363878 (rT0 ht363881 (by decide)) (rT1 ht363881 (by decide)) (rT2 ht363881 (by decide))).trans he363965
                              have hs364661 : rStr γ [] F269173 F364647 := rStr_tr hs363966 hs364653
                              refine G_iload 0 dr_cX17_graph_210 rfl ?_
                              refine G_bipush 32 dr_cX17_graph_212 (by decide +kernel) ?_
                              refine G_icmp_ge 243 dr_cX17_graph_214 (by decide +kernel) (fun hc364662 => ?_) (fun hc364662 => ?_)
                              · have r364663 : 32 ≤ g364646.toInt := gj_leL hc364662 (show Int32.toInt 32 = 32 by decide)
                                have bg364646' : gB g364646 32 32 := ⟨by omega, by omega⟩
                                refine G_iload 2 dr_cX17_graph_243 rfl ?_
                                refine G_if_lt 265 dr_cX17_graph_245 (by decide +kernel) (fun _ => ?_) (fun hc => absurd hc (by decide))
                                refine G_aload_n 8 dr_cX17_graph_265 rfl ?_
                                have hm364664 : q269174 ∈ P269172 := RS_m hT364648 htq269174 (by decide)
                                obtain ⟨q364666, q364667, p364668, p364669, p364670, p364671, p364672, p364673, p364674, p364675, p364676, p364677, p364678, p364679, p364680, p364681, p364682, he364665, hB364709, ht364683, ht364684, ht364685, ht364686, ht364687, ht364688, ht364689, ht364690, ht364691, ht364692, ht364693, ht364694, ht364695, ht364696, ht364697, ht364698, ht364699, ht364700, ht364701, ht364702, ht364703, ht364704, ht364705, ht364706, hB364710⟩ := show rk_10 γ (F364647 q269174) from RS_o hT364648 htq269174
                                refine Gp_get 1 hm364664 he364665 dr_cX17_graph_266 (gk_X17 D I) (Nat.le_of_ble_eq_true rfl) wr_7_75 rfl ?_
                                refine G_iload 3 dr_cX17_graph_269 rfl ?_
                                have hm364711 : (γ 9 1) ∈ P269172 := RS_m hT364648 ht364686 (by decide)
                                obtain ⟨f364713, he364712, hg364714⟩ := show rk_13 I γ (F364647 (γ 9 1)) from RS_o hT364648 ht364686
                                obtain ⟨q364715, hx364717⟩ : ∃ x, x = γ 11 o363978.toInt.toNat := ⟨_, rfl⟩
                                have ht364716 : rKd γ q364715 36 := by rw [hx364717]; exact (hg364714 _ (show o363978.toInt.toNat < 2000 by omega)).2.1
                                refine Gp_aald 5 hm364711 he364712 dr_cX17_graph_271 rfl rfl (gB_in bo363978' (by decide) (by decide)) ?_
                                rw [show f364713 o363978.toNatClampNeg = some q364715 from (hg364714 _ (show o363978.toInt.toNat < 2000 by omega)).1.trans (by rw [hx364717])]
                                change G _ _ _ _ _ _ _ (.ref q364715 :: _) _ _ _
                                refine G_iload 3 dr_cX17_graph_272 rfl ?_
                                have hm364718 : q364715 ∈ P269172 := RS_m hT364648 ht364716 (by decide)
                                obtain ⟨f364720, he364719, wf364720⟩ := show rk_36 I (F364647 q364715) from RS_o hT364648 ht364716
                                refine Gw_callS (As := [.ref q364715, .int o363978]) (gV_ok D I) (cp_1873_SpillForgeModel_clear l hl0 D I P269172 F364647 q364715 o363978 f364720 hm364718 he364719 bo363978' wf364720) dr_cX17_graph_274 ⟨wr_10_185, wr_1_14, wr_10_187, by decide, rfl, (Nat.le_of_ble_eq_true rfl), (Nat.le_of_ble_eq_true rfl)⟩ wr_10_186 (show 0 + 0 ≤ 0 by first | omega | decide) (show 0 + 0 ≤ 0 by first | omega | decide) (Nat.le_of_ble_eq_true rfl) (fun r364724 w364725 dc364721 ds364722 hp364723 => ?_) (fun _ _ _ _ _ z => z.elim)
                                obtain ⟨F364728, f364726, rfl, rfl, hfr364730, he364731, hdc, hds, x364727⟩ := hp364723
                                have he364732 : F364728 q269175 = .inr (18, [.ref q359614, .ref q359615, .int p359616, .int p359617]) := (hfr364730 q269175 hm359612 (nm_c (rn_oa he364654 he364719) nm_n)).trans he364654
                                have he364733 : F364728 q359614 = .inr (4, [.int p360875, .ref q360877, .int p360876]) := (hfr364730 q359614 hm360873 (nm_c (rn_oa he364655 he364719) nm_n)).trans he364655
                                have he364734 : F364728 q360877 = .inl (I (.object "java/lang/Object"), n360891, .inr (.inr (.inr (.inr f360892)))) := (hfr364730 q360877 hm360893 (nm_c (rn_ref_long he364656 he364719) nm_n)).trans he364656
                                have he364735 : F364728 q360894 = .inr (17, [.ref q360903, .ref q360904, .int p360905, .int p360906]) := (hfr364730 q360894 hm360901 (nm_c (rn_oa he364657 he364719) nm_n)).trans he364657
                                have he364736 : F364728 q360903 = .inr (4, [.int p363859, .ref q363861, .int p363860]) := (hfr364730 q360903 hm363857 (nm_c (rn_oa he364658 he364719) nm_n)).trans he364658
                                have he364737 : F364728 q363861 = .inl (I (.object "java/lang/Object"), n363875, .inr (.inr (.inr (.inr f363876)))) := (hfr364730 q363861 hm363877 (nm_c (rn_ref_long he364659 he364719) nm_n)).trans he364659
                                have he364738 : F364728 q363878 = .inr (20, [.int p363891, .int p363892, .int p363893, .int p363894, .int p363895, .int p363896, .int p363897]) := (hfr364730 q363878 hm363889 (nm_c (rn_oa he364660 he364719) nm_n)).trans he364660
                                have he364739 : F364728 q269174 = .inr (22, [.ref (γ 9 0), .ref (γ 9 1), .ref (γ 9 2), .ref (γ 9 3), .ref (γ 9 4), .ref (γ 9 5), .ref (γ 9 6), .ref (γ 9 7), .ref (γ 9 8), .int p364668, .int p364669, .int p364670, .int p364671, .int p364672, .int p364673, .ref (γ 9 15), .ref (γ 9 16), .ref (γ 9 17), .ref (γ 9 18), .ref (γ 9 19), .ref (γ 9 20), .ref (γ 9 21), .ref (γ 9 22), .int p364674, .int p364675, .int p364676, .int p364677, .int p364678, .ref q364666, .ref (γ 9 29), .int p364679, .ref (γ 9 31), .int p364680, .int p364681, .int p364682, .ref q364667]) := (hfr364730 q269174 hm364664 (nm_c (rn_oa he364665 he364719) nm_n)).trans he364665
                                have he364740 : F364728 (γ 9 1) = .inl (I (.array .long), 2000, .inr (.inr (.inr (.inr f364713)))) := (hfr364730 (γ 9 1) hm364711 (nm_c (rn_ref_long he364712 he364719) nm_n)).trans he364712
                                have hfr364741 : rFr [q364715] P269172 F364647 F364728 := rFr_call (rSub_rf (P := P269172)) (rFr_rf (W := []) (P := P269172) (F := F364647)) hfr364730 (fun b hb hn => ⟨nm_n, (nm_c (fun e => hn (e ▸ List.mem_cons_self)) nm_n)⟩)
                                change G _ _ _ _ _ _ _ _ _ _ _
                                refine G_widen (cs' := 0) (sl' := 0) (by omega) (by omega) ?_
                                have hT364742 : RS D I P269172 F364728 γ el := RS_fr hT364648 hfr364741 ht364716 (by decide) ⟨f364726, he364731, x364727⟩
                                have hs364743 : rStr γ [] F269173 F364728 := rStr_fr hT364648 hs364649 hfr364741 ht364716 (by decide)
                                have kp364744 : F364728 q269174 = F269173 q269174 := (hfr364741 q269174 (RS_m hT364648 htq269174 (by decide)) (nm_c (rn_ty htq269174 ht364716 (by decide)) nm_n)).trans x364651
                                have kp364745 : F364728 (γ 9 3) = F364647 (γ 9 3) := hfr364741 (γ 9 3) (RS_m hT364648 ht364688 (by decide)) (nm_c (rn_ty ht364688 ht364716 (by decide)) nm_n)
                                refine G_aload_n 8 dr_cX17_graph_277 rfl ?_
                                refine G_aload 4 dr_cX17_graph_278 rfl ?_
                                refine G_iload_n 10 dr_cX17_graph_280 rfl ?_
                                refine Gw_callV (As := [.ref q363878, .int p269176]) (gV_ok D I) (ct_279840_SpillForgeModel_back l hl0 D I γ el P269172 F364728 q269174 q363878 p269176 hT364742 htq269174 ht363881 (gB_w bp269176' (by decide) (by decide))) dr_cX17_graph_281 ⟨wr_10_174, wr_1_14, wr_10_177, by decide, rfl, (Nat.le_of_ble_eq_true rfl), (Nat.le_of_ble_eq_true rfl)⟩ wr_10_176 wr_p_96 hm364664 he364739 rfl (show 0 + 0 ≤ 0 by first | omega | decide) (show 0 + 0 ≤ 0 by first | omega | decide) (Nat.le_of_ble_eq_true rfl) (fun r364749 w364750 dc364746 ds364747 hp364748 => ?_) (fun _ _ _ _ _ z => z.elim)
                                obtain ⟨F364753, rfl, rfl, hT364754, hs364755, hdc, hds, x364751, x364752⟩ := hp364748
                                have he364756 : F364753 q269175 = .inr (18, [.ref q359614, .ref q359615, .int p359616, .int p359617]) := (hs364755 q269175 (rT0 htq269175 (by decide)) (rT1 htq269175 (by decide)) (rT2 htq269175 (by decide))).trans he364732
                                have he364757 : F364753 q359614 = .inr (4, [.int p360875, .ref q360877, .int p360876]) := (hs364755 q359614 (rT0 ht359618 (by decide)) (rT1 ht359618 (by decide)) (rT2 ht359618 (by decide))).trans he364733
                                have he364758 : F364753 q360877 = .inl (I (.object "java/lang/Object"), n360891, .inr (.inr (.inr (.inr f360892)))) := (hs364755 q360877 (rT0 r360883 (by decide)) (rT1 r360883 (by decide)) (rT2 r360883 (by decide))).trans he364734
                                have he364759 : F364753 q360894 = .inr (17, [.ref q360903, .ref q360904, .int p360905, .int p360906]) := (hs364755 q360894 (rT0 ht360899 (by decide)) (rT1 ht360899 (by decide)) (rT2 ht360899 (by decide))).trans he364735
                                have he364760 : F364753 q360903 = .inr (4, [.int p363859, .ref q363861, .int p363860]) := (hs364755 q360903 (rT0 ht360907 (by decide)) (rT1 ht360907 (by decide)) (rT2 ht360907 (by decide))).trans he364736
                                have he364761 : F364753 q363861 = .inl (I (.object "java/lang/Object"), n363875, .inr (.inr (.inr (.inr f363876)))) := (hs364755 q363861 (rT0 r363867 (by decide)) (rT1 r363867 (by decide)) (rT2 r363867 (by decide))).trans he364737
                                have he364762 : F364753 q363878 = .inr (20, [.int p363891, .int p363892, .int p363893, .int p363894, .int p363895, .int p363896, .int p363897]) := (hs364755 q363878 (rT0 ht363881 (by decide)) (rT1 ht363881 (by decide)) (rT2 ht363881 (by decide))).trans he364738
                                have hs364763 : rStr γ [] F269173 F364753 := rStr_tr hs364743 hs364755
                                have kp364764 : F364753 q269174 = F269173 q269174 := (x364751).trans kp364744
                                have kp364765 : F364753 (γ 9 3) = F364647 (γ 9 3) := (x364752).trans kp364745
                                have he364766 : F364753 q269174 = .inr (22, [.ref (γ 9 0), .ref (γ 9 1), .ref (γ 9 2), .ref (γ 9 3), .ref (γ 9 4), .ref (γ 9 5), .ref (γ 9 6), .ref (γ 9 7), .ref (γ 9 8), .int p364668, .int p364669, .int p364670, .int p364671, .int p364672, .int p364673, .ref (γ 9 15), .ref (γ 9 16), .ref (γ 9 17), .ref (γ 9 18), .ref (γ 9 19), .ref (γ 9 20), .ref (γ 9 21), .ref (γ 9 22), .int p364674, .int p364675, .int p364676, .int p364677, .int p364678, .ref q364666, .ref (γ 9 29), .int p364679, .ref (γ 9 31), .int p364680, .int p364681, .int p364682, .ref q364667]) := (x364751).trans he364739
                                change G _ _ _ _ _ _ _ _ _ _ _
                                refine G_widen (cs' := 0) (sl' := 0) (by omega) (by omega) ?_
                                obtain ⟨z364767, hz364767⟩ : ∃ z : Int32, z = g363837 + Int32.ofInt (-1) := ⟨_, rfl⟩
                                have ez364767 : z364767.toInt = g363837.toInt + (-1) := gI_inc hz364767 (by decide) bg363837' (by decide) (by decide)
                                have bz364767 : gB z364767 (-1) 999998 := ⟨by omega, by omega⟩
                                refine G_iinc (L' := [(5, .int z364767), (10, .int g364646), (9, .int 0), (8, .int (-1)), (7, .int o363978), (6, .ref q363878), (4, .ref q360894), (3, .int g359603), (0, .ref q269174), (1, .ref q269175), (2, .int p269176)]) z364767 5 dr_cX17_graph_284 rfl hz364767.symm (Nat.le_of_ble_eq_true rfl) rfl ?_
                                refine G_goto 109 dr_cX17_graph_287 (by decide +kernel) ?_
                                refine G_lv (L' := [(5, .int z364767), (4, .ref q360894), (3, .int g359603), (0, .ref q269174), (1, .ref q269175), (2, .int p269176)]) [0, 6, 7, 8, 9, 10] rfl ?_
                                exact ih109_363843 F364753 z364767 (gB_w bz364767 (by decide) (by decide)) hT364754 hs364763 (by omega) (fun h0 => by have z := (by rw [kp364765]; exact x364650) h0; rw [show ((g363837.toInt : Int).toNat : Nat) = (z364767.toInt + 1 : Int).toNat by omega] at z; exact z) kp364764 (by omega)
                              · have r364768 : g364646.toInt < 32 := gj_nleL hc364662 (show Int32.toInt 32 = 32 by decide)
                                have bg364646' : gB g364646 0 31 := ⟨by omega, by omega⟩
                                refine G_aload_n 8 dr_cX17_graph_217 rfl ?_
                                have hm364769 : q269174 ∈ P269172 := RS_m hT364648 htq269174 (by decide)
                                obtain ⟨q364771, q364772, p364773, p364774, p364775, p364776, p364777, p364778, p364779, p364780, p364781, p364782, p364783, p364784, p364785, p364786, p364787, he364770, hB364814, ht364788, ht364789, ht364790, ht364791, ht364792, ht364793, ht364794, ht364795, ht364796, ht364797, ht364798, ht364799, ht364800, ht364801, ht364802, ht364803, ht364804, ht364805, ht364806, ht364807, ht364808, ht364809, ht364810, ht364811, hB364815⟩ := show rk_10 γ (F364647 q269174) from RS_o hT364648 htq269174
                                refine Gp_get 1 hm364769 he364770 dr_cX17_graph_218 (gk_X17 D I) (Nat.le_of_ble_eq_true rfl) wr_7_75 rfl ?_
                                refine G_iload 3 dr_cX17_graph_221 rfl ?_
                                have hm364816 : (γ 9 1) ∈ P269172 := RS_m hT364648 ht364791 (by decide)
                                obtain ⟨f364818, he364817, hg364819⟩ := show rk_13 I γ (F364647 (γ 9 1)) from RS_o hT364648 ht364791
                                obtain ⟨q364820, hx364822⟩ : ∃ x, x = γ 11 o363978.toInt.toNat := ⟨_, rfl⟩
                                have ht364821 : rKd γ q364820 36 := by rw [hx364822]; exact (hg364819 _ (show o363978.toInt.toNat < 2000 by omega)).2.1
                                refine Gp_aald 5 hm364816 he364817 dr_cX17_graph_223 rfl rfl (gB_in bo363978' (by decide) (by decide)) ?_
                                rw [show f364818 o363978.toNatClampNeg = some q364820 from (hg364819 _ (show o363978.toInt.toNat < 2000 by omega)).1.trans (by rw [hx364822])]
                                change G _ _ _ _ _ _ _ (.ref q364820 :: _) _ _ _
                                refine G_iload 0 dr_cX17_graph_224 rfl ?_
                                refine G_dup2_11 dr_cX17_graph_226 rfl rfl ?_
                                have hm364823 : q364820 ∈ P269172 := RS_m hT364648 ht364821 (by decide)
                                obtain ⟨f364825, he364824, wf364825⟩ := show rk_36 I (F364647 q364820) from RS_o hT364648 ht364821
                                refine Gp_lald 2 hm364823 he364824 dr_cX17_graph_227 rfl (gB_in bg364646' (by decide) (by decide)) (G_namL fun u364826 hu364826 => ?_)
                                have qu364826 : lb_Q u364826 (2000 - 64 * g364646.toInt) := lb_Wld hu364826 wf364825 (by omega) (by omega) (lb_Mod0 (by omega) (by omega))
                                refine G_aload_n 8 dr_cX17_graph_228 rfl ?_
                                refine Gp_get 2 hm364769 he364770 dr_cX17_graph_229 (gk_X17 D I) (Nat.le_of_ble_eq_true rfl) wr_7_76 rfl ?_
                                refine G_iload 0 dr_cX17_graph_232 rfl ?_
                                have hm364827 : (γ 9 2) ∈ P269172 := RS_m hT364648 ht364792 (by decide)
                                obtain ⟨f364829, he364828, wf364829⟩ := show rk_35 I (F364647 (γ 9 2)) from RS_o hT364648 ht364792
                                refine Gp_lald 2 hm364827 he364828 dr_cX17_graph_234 rfl (gB_in bg364646' (by decide) (by decide)) (G_namL fun u364830 hu364830 => ?_)
                                have qu364830 : lb_Q u364830 (2000 - 64 * g364646.toInt) := lb_Wld hu364830 wf364829 (by omega) (by omega) (lb_Mod0 (by omega) (by omega))
                                refine G_lor dr_cX17_graph_235 (G_namL fun u364831 hu364831 => ?_)
                                have qu364831 : lb_Q u364831 (2000 - 64 * g364646.toInt) := lb_Qor hu364831 qu364826 qu364830
                                refine Gp_last 2 hm364823 he364824 dr_cX17_graph_236 rfl (gB_in bg364646' (by decide) (by decide)) (fun F364832 e364833 n364834 => ?_)
                                obtain ⟨f364835, hf364835⟩ : ∃ z, z = vp_updL f364825 g364646.toNatClampNeg u364831 := ⟨_, rfl⟩
                                rw [← hf364835] at e364833
                                have he364836 : F364832 q269175 = .inr (18, [.ref q359614, .ref q359615, .int p359616, .int p359617]) := (n364834 q269175 (rn_oa he364654 he364824)).trans he364654
                                have he364837 : F364832 q359614 = .inr (4, [.int p360875, .ref q360877, .int p360876]) := (n364834 q359614 (rn_oa he364655 he364824)).trans he364655
                                have he364838 : F364832 q360877 = .inl (I (.object "java/lang/Object"), n360891, .inr (.inr (.inr (.inr f360892)))) := (n364834 q360877 (rn_ref_long he364656 he364824)).trans he364656
                                have he364839 : F364832 q360894 = .inr (17, [.ref q360903, .ref q360904, .int p360905, .int p360906]) := (n364834 q360894 (rn_oa he364657 he364824)).trans he364657
                                have he364840 : F364832 q360903 = .inr (4, [.int p363859, .ref q363861, .int p363860]) := (n364834 q360903 (rn_oa he364658 he364824)).trans he364658
                                have he364841 : F364832 q363861 = .inl (I (.object "java/lang/Object"), n363875, .inr (.inr (.inr (.inr f363876)))) := (n364834 q363861 (rn_ref_long he364659 he364824)).trans he364659
                                have he364842 : F364832 q363878 = .inr (20, [.int p363891, .int p363892, .int p363893, .int p363894, .int p363895, .int p363896, .int p363897]) := (n364834 q363878 (rn_oa he364660 he364824)).trans he364660
                                have he364843 : F364832 q269174 = .inr (22, [.ref (γ 9 0), .ref (γ 9 1), .ref (γ 9 2), .ref (γ 9 3), .ref (γ 9 4), .ref (γ 9 5), .ref (γ 9 6), .ref (γ 9 7), .ref (γ 9 8), .int p364773, .int p364774, .int p364775, .int p364776, .int p364777, .int p364778, .ref (γ 9 15), .ref (γ 9 16), .ref (γ 9 17), .ref (γ 9 18), .ref (γ 9 19), .ref (γ 9 20), .ref (γ 9 21), .ref (γ 9 22), .int p364779, .int p364780, .int p364781, .int p364782, .int p364783, .ref q364771, .ref (γ 9 29), .int p364784, .ref (γ 9 31), .int p364785, .int p364786, .int p364787, .ref q364772]) := (n364834 q269174 (rn_oa he364770 he364824)).trans he364770
                                have he364844 : F364832 (γ 9 1) = .inl (I (.array .long), 2000, .inr (.inr (.inr (.inr f364818)))) := (n364834 (γ 9 1) (rn_ref_long he364817 he364824)).trans he364817
                                have he364845 : F364832 (γ 9 2) = .inl (I .long, 32, .inr (.inl f364829)) := (n364834 (γ 9 2) (rn_ty ht364792 ht364821 (by decide))).trans he364828
                                have he364846 : F364832 q364820 = .inl (I .long, 32, .inr (.inl f364835)) := e364833
                                have hs364847 : rStr γ [] F269173 F364832 := rStr_put hs364649 n364834 ht364821 (by decide)
                                have kp364848 : F364832 q269174 = F269173 q269174 := (n364834 q269174 (rn_ty htq269174 ht364821 (by decide))).trans x364651
                                have kp364849 : F364832 (γ 9 3) = F364647 (γ 9 3) := n364834 (γ 9 3) (rn_ty ht364793 ht364821 (by decide))
                                have wf364835 : lb_W f364835 (32) (32) (2000) := lb_Wst hf364835 wf364825 (by omega) (lb_Mod0 (by omega) (by omega)) qu364831
                                obtain ⟨z364850, hz364850⟩ : ∃ z : Int32, z = g364646 + Int32.ofInt 1 := ⟨_, rfl⟩
                                have ez364850 : z364850.toInt = g364646.toInt + 1 := gI_inc hz364850 (by decide) bg364646' (by decide) (by decide)
                                have bz364850 : gB z364850 1 32 := ⟨by omega, by omega⟩
                                refine G_iinc (L' := [(10, .int z364850), (9, .int 0), (8, .int (-1)), (7, .int o363978), (6, .ref q363878), (5, .int g363837), (4, .ref q360894), (3, .int g359603), (0, .ref q269174), (1, .ref q269175), (2, .int p269176)]) z364850 0 dr_cX17_graph_237 rfl hz364850.symm (Nat.le_of_ble_eq_true rfl) rfl ?_
                                refine G_goto 210 dr_cX17_graph_240 (by decide +kernel) ?_
                                have hT364851 : RS D I P269172 F364832 γ el := RS_set hT364648 n364834 ht364821 (by decide) ⟨f364835, he364846, wf364835⟩
                                exact ih210_364651 F364832 z364850 (gB_w bz364850 (by decide) (by decide)) hT364851 hs364847 (by rw [kp364849]; exact x364650) kp364848 (by have qa0 : Int32.toInt (-1) = (-1) := (by decide); have qa1 : Int32.toInt 0 = 0 := (by decide); omega)
                          exact hlp210_364651 (((33 : Int) - 0).toNat + 1) F363956 0 (gB_w (gBl (show Int32.toInt 0 = 0 by decide)) (by decide) (by decide)) hT363957 hs363966 gr363972 kp363967 (Nat.lt_succ_self _)
                      · have r364852 : p363891.toInt = 0 := gj_eq hc364416 (show Int32.toInt 0 = 0 by decide)
                        have bp363891' : gB p363891 0 0 := ⟨by omega, by omega⟩
                        refine G_aload 1 dr_cX17_graph_156 rfl ?_
                        refine Gp_get 5 hm363889 he363965 dr_cX17_graph_158 (gk_X15 D I) (Nat.le_of_ble_eq_true rfl) wr_9_197 rfl ?_
                        refine G_if_eq 172 dr_cX17_graph_161 (by decide +kernel) (fun hc364853 => ?_) (fun hc364853 => ?_)
                        · have r364854 : p363896.toInt = 0 := gj_eq hc364853 (show Int32.toInt 0 = 0 by decide)
                          have bp363896' : gB p363896 0 0 := ⟨by omega, by omega⟩
                          refine G_iconst (-1) dr_cX17_graph_172 (by decide +kernel) ?_
                          refine G_istore (L' := [(8, .int (-1)), (7, .int o363978), (6, .ref q363878), (5, .int g363837), (4, .ref q360894), (3, .int g359603), (0, .ref q269174), (1, .ref q269175), (2, .int p269176)]) dr_cX17_graph_173 (Nat.le_of_ble_eq_true rfl) rfl ?_
                          refine G_iload 1 dr_cX17_graph_175 rfl ?_
                          refine G_if_lt 277 dr_cX17_graph_177 (by decide +kernel) (fun hc364855 => ?_) (fun hc364855 => ?_)
                          · have r364856 : o363978.toInt < 0 := gj_lt hc364855 (show Int32.toInt 0 = 0 by decide)
                            have bo363978' : gB o363978 (-1) (-1) := ⟨by omega, by omega⟩
                            refine G_aload_n 6 dr_cX17_graph_277 rfl ?_
                            refine G_aload 2 dr_cX17_graph_278 rfl ?_
                            refine G_iload_n 8 dr_cX17_graph_280 rfl ?_
                            refine Gw_callV (As := [.ref q363878, .int p269176]) (gV_ok D I) (ct_279840_SpillForgeModel_back l hl0 D I γ el P269172 F363956 q269174 q363878 p269176 hT363957 htq269174 ht363881 (gB_w bp269176' (by decide) (by decide))) dr_cX17_graph_281 ⟨wr_10_174, wr_1_14, wr_10_177, by decide, rfl, (Nat.le_of_ble_eq_true rfl), (Nat.le_of_ble_eq_true rfl)⟩ wr_10_176 wr_p_96 hm363907 he363968 rfl (show 0 + 0 ≤ 0 by first | omega | decide) (show 0 + 0 ≤ 0 by first | omega | decide) (Nat.le_of_ble_eq_true rfl) (fun r364860 w364861 dc364857 ds364858 hp364859 => ?_) (fun _ _ _ _ _ z => z.elim)
                            obtain ⟨F364864, rfl, rfl, hT364865, hs364866, hdc, hds, x364862, x364863⟩ := hp364859
                            have he364867 : F364864 q269175 = .inr (18, [.ref q359614, .ref q359615, .int p359616, .int p359617]) := (hs364866 q269175 (rT0 htq269175 (by decide)) (rT1 htq269175 (by decide)) (rT2 htq269175 (by decide))).trans he363959
                            have he364868 : F364864 q359614 = .inr (4, [.int p360875, .ref q360877, .int p360876]) := (hs364866 q359614 (rT0 ht359618 (by decide)) (rT1 ht359618 (by decide)) (rT2 ht359618 (by decide))).trans he363960
                            have he364869 : F364864 q360877 = .inl (I (.object "java/lang/Object"), n360891, .inr (.inr (.inr (.inr f360892)))) := (hs364866 q360877 (rT0 r360883 (by decide)) (rT1 r360883 (by decide)) (rT2 r360883 (by decide))).trans he363961
                            have he364870 : F364864 q360894 = .inr (17, [.ref q360903, .ref q360904, .int p360905, .int p360906]) := (hs364866 q360894 (rT0 ht360899 (by decide)) (rT1 ht360899 (by decide)) (rT2 ht360899 (by decide))).trans he363962
                            have he364871 : F364864 q360903 = .inr (4, [.int p363859, .ref q363861, .int p363860]) := (hs364866 q360903 (rT0 ht360907 (by decide)) (rT1 ht360907 (by decide)) (rT2 ht360907 (by decide))).trans he363963
                            have he364872 : F364864 q363861 = .inl (I (.object "java/lang/Object"), n363875, .inr (.inr (.inr (.inr f363876)))) := (hs364866 q363861 (rT0 r363867 (by decide)) (rT1 r363867 (by decide)) (rT2 r363867 (by decide))).trans he363964
                            have he364873 : F364864 q363878 = .inr (20, [.int p363891, .int p363892, .int p363893, .int p363894, .int p363895, .int p363896, .int p363897]) := (hs364866 q363878 (rT0 ht363881 (by decide)) (rT1 ht363881 (by decide)) (rT2 ht363881 (by decide))).trans he363965
                            have hs364874 : rStr γ [] F269173 F364864 := rStr_tr hs363966 hs364866
                            have kp364875 : F364864 q269174 = F269173 q269174 := (x364862).trans kp363967
                            have kp364876 : F364864 (γ 9 3) = F363956 (γ 9 3) := x364863
                            have he364877 : F364864 q269174 = .inr (22, [.ref (γ 9 0), .ref (γ 9 1), .ref (γ 9 2), .ref (γ 9 3), .ref (γ 9 4), .ref (γ 9 5), .ref (γ 9 6), .ref (γ 9 7), .ref (γ 9 8), .int p363911, .int p363912, .int p363913, .int p363914, .int p363915, .int p363916, .ref (γ 9 15), .ref (γ 9 16), .ref (γ 9 17), .ref (γ 9 18), .ref (γ 9 19), .ref (γ 9 20), .ref (γ 9 21), .ref (γ 9 22), .int p363917, .int p363918, .int p363919, .int p363920, .int p363921, .ref q363909, .ref (γ 9 29), .int p363922, .ref (γ 9 31), .int p363923, .int p363924, .int p363925, .ref q363910]) := (x364862).trans he363968
                            change G _ _ _ _ _ _ _ _ _ _ _
                            refine G_widen (cs' := 0) (sl' := 0) (by omega) (by omega) ?_
                            obtain ⟨z364878, hz364878⟩ : ∃ z : Int32, z = g363837 + Int32.ofInt (-1) := ⟨_, rfl⟩
                            have ez364878 : z364878.toInt = g363837.toInt + (-1) := gI_inc hz364878 (by decide) bg363837' (by decide) (by decide)
                            have bz364878 : gB z364878 (-1) 999998 := ⟨by omega, by omega⟩
                            refine G_iinc (L' := [(5, .int z364878), (8, .int (-1)), (7, .int o363978), (6, .ref q363878), (4, .ref q360894), (3, .int g359603), (0, .ref q269174), (1, .ref q269175), (2, .int p269176)]) z364878 3 dr_cX17_graph_284 rfl hz364878.symm (Nat.le_of_ble_eq_true rfl) rfl ?_
                            refine G_goto 109 dr_cX17_graph_287 (by decide +kernel) ?_
                            refine G_lv (L' := [(5, .int z364878), (4, .ref q360894), (3, .int g359603), (0, .ref q269174), (1, .ref q269175), (2, .int p269176)]) [0, 4, 5, 6, 7, 8] rfl ?_
                            exact ih109_363843 F364864 z364878 (gB_w bz364878 (by decide) (by decide)) hT364865 hs364874 (by omega) (fun h0 => by have z := (by rw [kp364876]; exact gr363972) h0; rw [show ((g363837.toInt : Int).toNat : Nat) = (z364878.toInt + 1 : Int).toNat by omega] at z; exact z) kp364875 (by omega)
                          · have r364879 : 0 ≤ o363978.toInt := gj_nlt hc364855 (show Int32.toInt 0 = 0 by decide)
                            have bo363978' : gB o363978 0 1999 := ⟨by omega, by omega⟩
                            refine G_iload 0 dr_cX17_graph_180 rfl ?_
                            refine G_if_lt 204 dr_cX17_graph_182 (by decide +kernel) (fun _ => ?_) (fun hc => absurd hc (by decide))
                            refine G_iconst 0 dr_cX17_graph_204 (by decide +kernel) ?_
                            refine G_istore (L' := [(9, .int 0), (8, .int (-1)), (7, .int o363978), (6, .ref q363878), (5, .int g363837), (4, .ref q360894), (3, .int g359603), (0, .ref q269174), (1, .ref q269175), (2, .int p269176)]) dr_cX17_graph_205 (Nat.le_of_ble_eq_true rfl) rfl ?_
                            refine G_iconst 0 dr_cX17_graph_207 (by decide +kernel) ?_
                            refine G_istore (L' := [(10, .int 0), (9, .int 0), (8, .int (-1)), (7, .int o363978), (6, .ref q363878), (5, .int g363837), (4, .ref q360894), (3, .int g359603), (0, .ref q269174), (1, .ref q269175), (2, .int p269176)]) dr_cX17_graph_208 (Nat.le_of_ble_eq_true rfl) rfl ?_
                            have hlp210_365088 : ∀ (n210_365088 : Nat) (F365084 : Nat → va_E) (g365083 : Int32), gB g365083 0 32 → RS D I P269172 F365084 γ el → rStr γ [] F269173 F365084 → (gIp (p269176.toInt = 0) (rGr γ el F269173 q269175 (γ 6 (γ 1 q269175)) (cB (F365084 (γ 9 3))) (vB (g359603.toInt : Int).toNat (g363837.toInt : Int).toNat))) → (F365084 q269174 = F269173 q269174) → ((33 : Int) - g365083.toInt).toNat < n210_365088 → G (gV D I) l (gRm 5 111 0 0) (gMA (gV D I) (pt_269178_SpillForgeModel_graph D I γ el P269172 F269173 q269174 q269175 p269176) gNA 0 0) ky_269178_SpillForgeModel_graph 210 [(10, .int g365083), (9, .int 0), (8, .int (-1)), (7, .int o363978), (6, .ref q363878), (5, .int g363837), (4, .ref q360894), (3, .int g359603), (0, .ref q269174), (1, .ref q269175), (2, .int p269176)] [] (va_pl P269172 F365084) 0 0 := by
                              intro n210_365088
                              induction n210_365088 with
                              | zero => intro F365084 g365083 bg365083 hT365085 hs365086 x365087 x365088 hm210_365088; exact absurd hm210_365088 (Nat.not_lt_zero _)
                              | succ n210_365088 ih210_365088 =>
                                intro F365084 g365083 bg365083 hT365085 hs365086 x365087 x365088 hm210_365088
                                have hs365090 : rStr γ [] F363956 F365084 := fun b h0 hb hw => (hs365086 b h0 hb hw).trans (hs363966 b h0 hb hw).symm
                                have he365091 : F365084 q269175 = .inr (18, [.ref q359614, .ref q359615, .int p359616, .int p359617]) := (hs365090 q269175 (rT0 htq269175 (by decide)) (rT1 htq269175 (by decide)) (rT2 htq269175 (by decide))).trans he363959
                                have he365092 : F365084 q359614 = .inr (4, [.int p360875, .ref q360877, .int p360876]) := (hs365090 q359614 (rT0 ht359618 (by decide)) (rT1 ht359618 (by decide)) (rT2 ht359618 (by decide))).trans he363960
                                have he365093 : F365084 q360877 = .inl (I (.object "java/lang/Object"), n360891, .inr (.inr (.inr (.inr f360892)))) := (hs365090 q360877 (rT0 r360883 (by decide)) (rT1 r360883 (by decide)) (rT2 r360883 (by decide))).trans he363961
                                have he365094 : F365084 q360894 = .inr (17, [.ref q360903, .ref q360904, .int p360905, .int p360906]) := (hs365090 q360894 (rT0 ht360899 (by decide)) (rT1 ht360899 (by decide)) (rT2 ht360899 (by decide))).trans he363962
                                have he365095 : F365084 q360903 = .inr (4, [.int p363859, .ref q363861, .int p363860]) := (hs365090 q360903 (rT0 ht360907 (by decide)) (rT1 ht360907 (by decide)) (rT2 ht360907 (by decide))).trans he363963
                                have he365096 : F365084 q363861 = .inl (I (.object "java/lang/Object"), n363875, .inr (.inr (.inr (.inr f363876)))) := (hs365090 q363861 (rT0 r363867 (by decide)) (rT1 r363867 (by decide)) (rT2 r363867 (by decide))).trans he363964
                                have he365097 : F365084 q363878 = .inr (20, [.int p363891, .int p363892, .int p363893, .int p363894, .int p363895, .int p363896, .int p363897]) := (hs365090 q363878 (rT0 ht363881 (by decide)) (rT1 ht363881 (by decide)) (rT2 ht363881 (by decide))).trans he363965
                                have hs365098 : rStr γ [] F269173 F365084 := rStr_tr hs363966 hs365090
                                refine G_iload 0 dr_cX17_graph_210 rfl ?_
                                refine G_bipush 32 dr_cX17_graph_212 (by decide +kernel) ?_
                                refine G_icmp_ge 243 dr_cX17_graph_214 (by decide +kernel) (fun hc365099 => ?_) (fun hc365099 => ?_)
                                · have r365100 : 32 ≤ g365083.toInt := gj_leL hc365099 (show Int32.toInt 32 = 32 by decide)
                                  have bg365083' : gB g365083 32 32 := ⟨by omega, by omega⟩
                                  refine G_iload 2 dr_cX17_graph_243 rfl ?_
                                  refine G_if_lt 265 dr_cX17_graph_245 (by decide +kernel) (fun _ => ?_) (fun hc => absurd hc (by decide))
                                  refine G_aload_n 8 dr_cX17_graph_265 rfl ?_
                                  have hm365101 : q269174 ∈ P269172 := RS_m hT365085 htq269174 (by decide)
                                  obtain ⟨q365103, q365104, p365105, p365106, p365107, p365108, p365109, p365110, p365111, p365112, p365113, p365114, p365115, p365116, p365117, p365118, p365119, he365102, hB365146, ht365120, ht365121, ht365122, ht365123, ht365124, ht365125, ht365126, ht365127, ht365128, ht365129, ht365130, ht365131, ht365132, ht365133, ht365134, ht365135, ht365136, ht365137, ht365138, ht365139, ht365140, ht365141, ht365142, ht365143, hB365147⟩ := show rk_10 γ (F365084 q269174) from RS_o hT365085 htq269174
                                  refine Gp_get 1 hm365101 he365102 dr_cX17_graph_266 (gk_X17 D I) (Nat.le_of_ble_eq_true rfl) wr_7_75 rfl ?_
                                  refine G_iload 3 dr_cX17_graph_269 rfl ?_
                                  have hm365148 : (γ 9 1) ∈ P269172 := RS_m hT365085 ht365123 (by decide)
                                  obtain ⟨f365150, he365149, hg365151⟩ := show rk_13 I γ (F365084 (γ 9 1)) from RS_o hT365085 ht365123
                                  obtain ⟨q365152, hx365154⟩ : ∃ x, x = γ 11 o363978.toInt.toNat := ⟨_, rfl⟩
                                  have ht365153 : rKd γ q365152 36 := by rw [hx365154]; exact (hg365151 _ (show o363978.toInt.toNat < 2000 by omega)).2.1
                                  refine Gp_aald 5 hm365148 he365149 dr_cX17_graph_271 rfl rfl (gB_in bo363978' (by decide) (by decide)) ?_
                                  rw [show f365150 o363978.toNatClampNeg = some q365152 from (hg365151 _ (show o363978.toInt.toNat < 2000 by omega)).1.trans (by rw [hx365154])]
                                  change G _ _ _ _ _ _ _ (.ref q365152 :: _) _ _ _
                                  refine G_iload 3 dr_cX17_graph_272 rfl ?_
                                  have hm365155 : q365152 ∈ P269172 := RS_m hT365085 ht365153 (by decide)
                                  obtain ⟨f365157, he365156, wf365157⟩ := show rk_36 I (F365084 q365152) from RS_o hT365085 ht365153
                                  refine Gw_callS (As := [.ref q365152, .int o363978]) (gV_ok D I) (cp_1873_SpillForgeModel_clear l hl0 D I P269172 F365084 q365152 o363978 f365157 hm365155 he365156 bo363978' wf365157) dr_cX17_graph_274 ⟨wr_10_185, wr_1_14, wr_10_187, by decide, rfl, (Nat.le_of_ble_eq_true rfl), (Nat.le_of_ble_eq_true rfl)⟩ wr_10_186 (show 0 + 0 ≤ 0 by first | omega | decide) (show 0 + 0 ≤ 0 by first | omega | decide) (Nat.le_of_ble_eq_true rfl) (fun r365161 w365162 dc365158 ds365159 hp365160 => ?_) (fun _ _ _ _ _ z => z.elim)
                                  obtain ⟨F365165, f365163, rfl, rfl, hfr365167, he365168, hdc, hds, x365164⟩ := hp365160
                                  have he365169 : F365165 q269175 = .inr (18, [.ref q359614, .ref q359615, .int p359616, .int p359617]) := (hfr365167 q269175 hm359612 (nm_c (rn_oa he365091 he365156) nm_n)).trans he365091
                                  have he365170 : F365165 q359614 = .inr (4, [.int p360875, .ref q360877, .int p360876]) := (hfr365167 q359614 hm360873 (nm_c (rn_oa he365092 he365156) nm_n)).trans he365092
                                  have he365171 : F365165 q360877 = .inl (I (.object "java/lang/Object"), n360891, .inr (.inr (.inr (.inr f360892)))) := (hfr365167 q360877 hm360893 (nm_c (rn_ref_long he365093 he365156) nm_n)).trans he365093
                                  have he365172 : F365165 q360894 = .inr (17, [.ref q360903, .ref q360904, .int p360905, .int p360906]) := (hfr365167 q360894 hm360901 (nm_c (rn_oa he365094 he365156) nm_n)).trans he365094
                                  have he365173 : F365165 q360903 = .inr (4, [.int p363859, .ref q363861, .int p363860]) := (hfr365167 q360903 hm363857 (nm_c (rn_oa he365095 he365156) nm_n)).trans he365095
                                  have he365174 : F365165 q363861 = .inl (I (.object "java/lang/Object"), n363875, .inr (.inr (.inr (.inr f363876)))) := (hfr365167 q363861 hm363877 (nm_c (rn_ref_long he365096 he365156) nm_n)).trans he365096
                                  have he365175 : F365165 q363878 = .inr (20, [.int p363891, .int p363892, .int p363893, .int p363894, .int p363895, .int p363896, .int p363897]) := (hfr365167 q363878 hm363889 (nm_c (rn_oa he365097 he365156) nm_n)).trans he365097
                                  have he365176 : F365165 q269174 = .inr (22, [.ref (γ 9 0), .ref (γ 9 1), .ref (γ 9 2), .ref (γ 9 3), .ref (γ 9 4), .ref (γ 9 5), .ref (γ 9 6), .ref (γ 9 7), .ref (γ 9 8), .int p365105, .int p365106, .int p365107, .int p365108, .int p365109, .int p365110, .ref (γ 9 15), .ref (γ 9 16), .ref (γ 9 17), .ref (γ 9 18), .ref (γ 9 19), .ref (γ 9 20), .ref (γ 9 21), .ref (γ 9 22), .int p365111, .int p365112, .int p365113, .int p365114, .int p365115, .ref q365103, .ref (γ 9 29), .int p365116, .ref (γ 9 31), .int p365117, .int p365118, .int p365119, .ref q365104]) := (hfr365167 q269174 hm365101 (nm_c (rn_oa he365102 he365156) nm_n)).trans he365102
                                  have he365177 : F365165 (γ 9 1) = .inl (I (.array .long), 2000, .inr (.inr (.inr (.inr f365150)))) := (hfr365167 (γ 9 1) hm365148 (nm_c (rn_ref_long he365149 he365156) nm_n)).trans he365149
                                  have hfr365178 : rFr [q365152] P269172 F365084 F365165 := rFr_call (rSub_rf (P := P269172)) (rFr_rf (W := []) (P := P269172) (F := F365084)) hfr365167 (fun b hb hn => ⟨nm_n, (nm_c (fun e => hn (e ▸ List.mem_cons_self)) nm_n)⟩)
                                  change G _ _ _ _ _ _ _ _ _ _ _
                                  refine G_widen (cs' := 0) (sl' := 0) (by omega) (by omega) ?_
                                  have hT365179 : RS D I P269172 F365165 γ el := RS_fr hT365085 hfr365178 ht365153 (by decide) ⟨f365163, he365168, x365164⟩
                                  have hs365180 : rStr γ [] F269173 F365165 := rStr_fr hT365085 hs365086 hfr365178 ht365153 (by decide)
                                  have kp365181 : F365165 q269174 = F269173 q269174 := (hfr365178 q269174 (RS_m hT365085 htq269174 (by decide)) (nm_c (rn_ty htq269174 ht365153 (by decide)) nm_n)).trans x365088
                                  have kp365182 : F365165 (γ 9 3) = F365084 (γ 9 3) := hfr365178 (γ 9 3) (RS_m hT365085 ht365125 (by decide)) (nm_c (rn_ty ht365125 ht365153 (by decide)) nm_n)
                                  refine G_aload_n 8 dr_cX17_graph_277 rfl ?_
                                  refine G_aload 4 dr_cX17_graph_278 rfl ?_
                                  refine G_iload_n 10 dr_cX17_graph_280 rfl ?_
                                  refine Gw_callV (As := [.ref q363878, .int p269176]) (gV_ok D I) (ct_279840_SpillForgeModel_back l hl0 D I γ el P269172 F365165 q269174 q363878 p269176 hT365179 htq269174 ht363881 (gB_w bp269176' (by decide) (by decide))) dr_cX17_graph_281 ⟨wr_10_174, wr_1_14, wr_10_177, by decide, rfl, (Nat.le_of_ble_eq_true rfl), (Nat.le_of_ble_eq_true rfl)⟩ wr_10_176 wr_p_96 hm365101 he365176 rfl (show 0 + 0 ≤ 0 by first | omega | decide) (show 0 + 0 ≤ 0 by first | omega | decide) (Nat.le_of_ble_eq_true rfl) (fun r365186 w365187 dc365183 ds365184 hp365185 => ?_) (fun _ _ _ _ _ z => z.elim)
                                  obtain ⟨F365190, rfl, rfl, hT365191, hs365192, hdc, hds, x365188, x365189⟩ := hp365185
                                  have he365193 : F365190 q269175 = .inr (18, [.ref q359614, .ref q359615, .int p359616, .int p359617]) := (hs365192 q269175 (rT0 htq269175 (by decide)) (rT1 htq269175 (by decide)) (rT2 htq269175 (by decide))).trans he365169
                                  have he365194 : F365190 q359614 = .inr (4, [.int p360875, .ref q360877, .int p360876]) := (hs365192 q359614 (rT0 ht359618 (by decide)) (rT1 ht359618 (by decide)) (rT2 ht359618 (by decide))).trans he365170
                                  have he365195 : F365190 q360877 = .inl (I (.object "java/lang/Object"), n360891, .inr (.inr (.inr (.inr f360892)))) := (hs365192 q360877 (rT0 r360883 (by decide)) (rT1 r360883 (by decide)) (rT2 r360883 (by decide))).trans he365171
                                  have he365196 : F365190 q360894 = .inr (17, [.ref q360903, .ref q360904, .int p360905, .int p360906]) := (hs365192 q360894 (rT0 ht360899 (by decide)) (rT1 ht360899 (by decide)) (rT2 ht360899 (by decide))).trans he365172
                                  have he365197 : F365190 q360903 = .inr (4, [.int p363859, .ref q363861, .int p363860]) := (hs365192 q360903 (rT0 ht360907 (by decide)) (rT1 ht360907 (by decide)) (rT2 ht360907 (by decide))).trans he365173
                                  have he365198 : F365190 q363861 = .inl (I (.object "java/lang/Object"), n363875, .inr (.inr (.inr (.inr f363876)))) := (hs365192 q363861 (rT0 r363867 (by decide)) (rT1 r363867 (by decide)) (rT2 r363867 (by decide))).trans he365174
                                  have he365199 : F365190 q363878 = .inr (20, [.int p363891, .int p363892, .int p363893, .int p363894, .int p363895, .int p363896, .int p363897]) := (hs365192 q363878 (rT0 ht363881 (by decide)) (rT1 ht363881 (by decide)) (rT2 ht363881 (by decide))).trans he365175
                                  have hs365200 : rStr γ [] F269173 F365190 := rStr_tr hs365180 hs365192
                                  have kp365201 : F365190 q269174 = F269173 q269174 := (x365188).trans kp365181
                                  have kp365202 : F365190 (γ 9 3) = F365084 (γ 9 3) := (x365189).trans kp365182
                                  have he365203 : F365190 q269174 = .inr (22, [.ref (γ 9 0), .ref (γ 9 1), .ref (γ 9 2), .ref (γ 9 3), .ref (γ 9 4), .ref (γ 9 5), .ref (γ 9 6), .ref (γ 9 7), .ref (γ 9 8), .int p365105, .int p365106, .int p365107, .int p365108, .int p365109, .int p365110, .ref (γ 9 15), .ref (γ 9 16), .ref (γ 9 17), .ref (γ 9 18), .ref (γ 9 19), .ref (γ 9 20), .ref (γ 9 21), .ref (γ 9 22), .int p365111, .int p365112, .int p365113, .int p365114, .int p365115, .ref q365103, .ref (γ 9 29), .int p365116, .ref (γ 9 31), .int p365117, .int p365118, .int p365119, .ref q365104]) := (x365188).trans he365176
                                  change G _ _ _ _ _ _ _ _ _ _ _
                                  refine G_widen (cs' := 0) (sl' := 0) (by omega) (by omega) ?_
                                  obtain ⟨z365204, hz365204⟩ : ∃ z : Int32, z = g363837 + Int32.ofInt (-1) := ⟨_, rfl⟩
                                  have ez365204 : z365204.toInt = g363837.toInt + (-1) := gI_inc hz365204 (by decide) bg363837' (by decide) (by decide)
                                  have bz365204 : gB z365204 (-1) 999998 := ⟨by omega, by omega⟩
                                  refine G_iinc (L' := [(5, .int z365204), (10, .int g365083), (9, .int 0), (8, .int (-1)), (7, .int o363978), (6, .ref q363878), (4, .ref q360894), (3, .int g359603), (0, .ref q269174), (1, .ref q269175), (2, .int p269176)]) z365204 5 dr_cX17_graph_284 rfl hz365204.symm (Nat.le_of_ble_eq_true rfl) rfl ?_
                                  refine G_goto 109 dr_cX17_graph_287 (by decide +kernel) ?_
                                  refine G_lv (L' := [(5, .int z365204), (4, .ref q360894), (3, .int g359603), (0, .ref q269174), (1, .ref q269175), (2, .int p269176)]) [0, 6, 7, 8, 9, 10] rfl ?_
                                  exact ih109_363843 F365190 z365204 (gB_w bz365204 (by decide) (by decide)) hT365191 hs365200 (by omega) (fun h0 => by have z := (by rw [kp365202]; exact x365087) h0; rw [show ((g363837.toInt : Int).toNat : Nat) = (z365204.toInt + 1 : Int).toNat by omega] at z; exact z) kp365201 (by omega)
                                · have r365205 : g365083.toInt < 32 := gj_nleL hc365099 (show Int32.toInt 32 = 32 by decide)
                                  have bg365083' : gB g365083 0 31 := ⟨by omega, by omega⟩
                                  refine G_aload_n 8 dr_cX17_graph_217 rfl ?_
                                  have hm365206 : q269174 ∈ P269172 := RS_m hT365085 htq269174 (by decide)
                                  obtain ⟨q365208, q365209, p365210, p365211, p365212, p365213, p365214, p365215, p365216, p365217, p365218, p365219, p365220, p365221, p365222, p365223, p365224, he365207, hB365251, ht365225, ht365226, ht365227, ht365228, ht365229, ht365230, ht365231, ht365232, ht365233, ht365234, ht365235, ht365236, ht365237, ht365238, ht365239, ht365240, ht365241, ht365242, ht365243, ht365244, ht365245, ht365246, ht365247, ht365248, hB365252⟩ := show rk_10 γ (F365084 q269174) from RS_o hT365085 htq269174
                                  refine Gp_get 1 hm365206 he365207 dr_cX17_graph_218 (gk_X17 D I) (Nat.le_of_ble_eq_true rfl) wr_7_75 rfl ?_
                                  refine G_iload 3 dr_cX17_graph_221 rfl ?_
                                  have hm365253 : (γ 9 1) ∈ P269172 := RS_m hT365085 ht365228 (by decide)
                                  obtain ⟨f365255, he365254, hg365256⟩ := show rk_13 I γ (F365084 (γ 9 1)) from RS_o hT365085 ht365228
                                  obtain ⟨q365257, hx365259⟩ : ∃ x, x = γ 11 o363978.toInt.toNat := ⟨_, rfl⟩
                                  have ht365258 : rKd γ q365257 36 := by rw [hx365259]; exact (hg365256 _ (show o363978.toInt.toNat < 2000 by omega)).2.1
                                  refine Gp_aald 5 hm365253 he365254 dr_cX17_graph_223 rfl rfl (gB_in bo363978' (by decide) (by decide)) ?_
                                  rw [show f365255 o363978.toNatClampNeg = some q365257 from (hg365256 _ (show o363978.toInt.toNat < 2000 by omega)).1.trans (by rw [hx365259])]
                                  change G _ _ _ _ _ _ _ (.ref q365257 :: _) _ _ _
                                  refine G_iload 0 dr_cX17_graph_224 rfl ?_
                                  refine G_dup2_11 dr_cX17_graph_226 rfl rfl ?_
                                  have hm365260 : q365257 ∈ P269172 := RS_m hT365085 ht365258 (by decide)
                                  obtain ⟨f365262, he365261, wf365262⟩ := show rk_36 I (F365084 q365257) from RS_o hT365085 ht365258
                                  refine Gp_lald 2 hm365260 he365261 dr_cX17_graph_227 rfl (gB_in bg365083' (by decide) (by decide)) (G_namL fun u365263 hu365263 => ?_)
                                  have qu365263 : lb_Q u365263 (2000 - 64 * g365083.toInt) := lb_Wld hu365263 wf365262 (by omega) (by omega) (lb_Mod0 (by omega) (by omega))
                                  refine G_aload_n 8 dr_cX17_graph_228 rfl ?_
                                  refine Gp_get 2 hm365206 he365207 dr_cX17_graph_229 (gk_X17 D I) (Nat.le_of_ble_eq_true rfl) wr_7_76 rfl ?_
                                  refine G_iload 0 dr_cX17_graph_232 rfl ?_
                                  have hm365264 : (γ 9 2) ∈ P269172 := RS_m hT365085 ht365229 (by decide)
                                  obtain ⟨f365266, he365265, wf365266⟩ := show rk_35 I (F365084 (γ 9 2)) from RS_o hT365085 ht365229
                                  refine Gp_lald 2 hm365264 he365265 dr_cX17_graph_234 rfl (gB_in bg365083' (by decide) (by decide)) (G_namL fun u365267 hu365267 => ?_)
                                  have qu365267 : lb_Q u365267 (2000 - 64 * g365083.toInt) := lb_Wld hu365267 wf365266 (by omega) (by omega) (lb_Mod0 (by omega) (by omega))
                                  refine G_lor dr_cX17_graph_235 (G_namL fun u365268 hu365268 => ?_)
                                  have qu365268 : lb_Q u365268 (2000 - 64 * g365083.toInt) := lb_Qor hu365268 qu365263 qu365267
                                  refine Gp_last 2 hm365260 he365261 dr_cX17_graph_236 rfl (gB_in bg365083' (by decide) (by decide)) (fun F365269 e365270 n365271 => ?_)
                                  obtain ⟨f365272, hf365272⟩ : ∃ z, z = vp_updL f365262 g365083.toNatClampNeg u365268 := ⟨_, rfl⟩
                                  rw [← hf365272] at e365270
                                  have he365273 : F365269 q269175 = .inr (18, [.ref q359614, .ref q359615, .int p359616, .int p359617]) := (n365271 q269175 (rn_oa he365091 he365261)).trans he365091
                                  have he365274 : F365269 q359614 = .inr (4, [.int p360875, .ref q360877, .int p360876]) := (n365271 q359614 (rn_oa he365092 he365261)).trans he365092
                                  have he365275 : F365269 q360877 = .inl (I (.object "java/lang/Object"), n360891, .inr (.inr (.inr (.inr f360892)))) := (n365271 q360877 (rn_ref_long he365093 he365261)).trans he365093
                                  have he365276 : F365269 q360894 = .inr (17, [.ref q360903, .ref q360904, .int p360905, .int p360906]) := (n365271 q360894 (rn_oa he365094 he365261)).trans he365094
                                  have he365277 : F365269 q360903 = .inr (4, [.int p363859, .ref q363861, .int p363860]) := (n365271 q360903 (rn_oa he365095 he365261)).trans he365095
                                  have he365278 : F365269 q363861 = .inl (I (.object "java/lang/Object"), n363875, .inr (.inr (.inr (.inr f363876)))) := (n365271 q363861 (rn_ref_long he365096 he365261)).trans he365096
                                  have he365279 : F365269 q363878 = .inr (20, [.int p363891, .int p363892, .int p363893, .int p363894, .int p363895, .int p363896, .int p363897]) := (n365271 q363878 (rn_oa he365097 he365261)).trans he365097
                                  have he365280 : F365269 q269174 = .inr (22, [.ref (γ 9 0), .ref (γ 9 1), .ref (γ 9 2), .ref (γ 9 3), .ref (γ 9 4), .ref (γ 9 5), .ref (γ 9 6), .ref (γ 9 7), .ref (γ 9 8), .int p365210, .int p365211, .int p365212, .int p365213, .int p365214, .int p365215, .ref (γ 9 15), .ref (γ 9 16), .ref (γ 9 17), .ref (γ 9 18), .ref (γ 9 19), .ref (γ 9 20), .ref (γ 9 21), .ref (γ 9 22), .int p365216, .int p365217, .int p365218, .int p365219, .int p365220, .ref q365208, .ref (γ 9 29), .int p365221, .ref (γ 9 31), .int p365222, .int p365223, .int p365224, .ref q365209]) := (n365271 q269174 (rn_oa he365207 he365261)).trans he365207
                                  have he365281 : F365269 (γ 9 1) = .inl (I (.array .long), 2000, .inr (.inr (.inr (.inr f365255)))) := (n365271 (γ 9 1) (rn_ref_long he365254 he365261)).trans he365254
                                  have he365282 : F365269 (γ 9 2) = .inl (I .long, 32, .inr (.inl f365266)) := (n365271 (γ 9 2) (rn_ty ht365229 ht365258 (by decide))).trans he365265
                                  have he365283 : F365269 q365257 = .inl (I .long, 32, .inr (.inl f365272)) := e365270
                                  have hs365284 : rStr γ [] F269173 F365269 := rStr_put hs365086 n365271 ht365258 (by decide)
                                  have kp365285 : F365269 q269174 = F269173 q269174 := (n365271 q269174 (rn_ty htq269174 ht365258 (by decide))).trans x365088
                                  have kp365286 : F365269 (γ 9 3) = F365084 (γ 9 3) := n365271 (γ 9 3) (rn_ty ht365230 ht365258 (by decide))
                                  have wf365272 : lb_W f365272 (32) (32) (2000) := lb_Wst hf365272 wf365262 (by omega) (lb_Mod0 (by omega) (by omega)) qu365268
                                  obtain ⟨z365287, hz365287⟩ : ∃ z : Int32, z = g365083 + Int32.ofInt 1 := ⟨_, rfl⟩
                                  have ez365287 : z365287.toInt = g365083.toInt + 1 := gI_inc hz365287 (by decide) bg365083' (by decide) (by decide)
                                  have bz365287 : gB z365287 1 32 := ⟨by omega, by omega⟩
                                  refine G_iinc (L' := [(10, .int z365287), (9, .int 0), (8, .int (-1)), (7, .int o363978), (6, .ref q363878), (5, .int g363837), (4, .ref q360894), (3, .int g359603), (0, .ref q269174), (1, .ref q269175), (2, .int p269176)]) z365287 0 dr_cX17_graph_237 rfl hz365287.symm (Nat.le_of_ble_eq_true rfl) rfl ?_
                                  refine G_goto 210 dr_cX17_graph_240 (by decide +kernel) ?_
                                  have hT365288 : RS D I P269172 F365269 γ el := RS_set hT365085 n365271 ht365258 (by decide) ⟨f365272, he365283, wf365272⟩
                                  exact ih210_365088 F365269 z365287 (gB_w bz365287 (by decide) (by decide)) hT365288 hs365284 (by rw [kp365286]; exact x365087) kp365285 (by have qa0 : Int32.toInt (-1) = (-1) := (by decide); have qa1 : Int32.toInt 0 = 0 := (by decide); omega)
                            exact hlp210_365088 (((33 : Int) - 0).toNat + 1) F363956 0 (gB_w (gBl (show Int32.toInt 0 = 0 by decide)) (by decide) (by decide)) hT363957 hs363966 gr363972 kp363967 (Nat.lt_succ_self _)
                        · have r365289 : p363896.toInt ≠ 0 := gj_neq hc364853 (show Int32.toInt 0 = 0 by decide)
                          have bp363896' : gB p363896 1 1 := ⟨by omega, by omega⟩
                          refine G_aload 1 dr_cX17_graph_164 rfl ?_
                          refine Gp_get 2 hm363889 he363965 dr_cX17_graph_166 (gk_X15 D I) (Nat.le_of_ble_eq_true rfl) wr_9_186 rfl ?_
                          refine G_goto 173 dr_cX17_graph_169 (by decide +kernel) ?_
                          refine G_istore (L' := [(8, .int p363893), (7, .int o363978), (6, .ref q363878), (5, .int g363837), (4, .ref q360894), (3, .int g359603), (0, .ref q269174), (1, .ref q269175), (2, .int p269176)]) dr_cX17_graph_173 (Nat.le_of_ble_eq_true rfl) rfl ?_
                          refine G_iload 1 dr_cX17_graph_175 rfl ?_
                          refine G_if_lt 277 dr_cX17_graph_177 (by decide +kernel) (fun hc365290 => ?_) (fun hc365290 => ?_)
                          · have r365291 : o363978.toInt < 0 := gj_lt hc365290 (show Int32.toInt 0 = 0 by decide)
                            have bo363978' : gB o363978 (-1) (-1) := ⟨by omega, by omega⟩
                            refine G_aload_n 6 dr_cX17_graph_277 rfl ?_
                            refine G_aload 2 dr_cX17_graph_278 rfl ?_
                            refine G_iload_n 8 dr_cX17_graph_280 rfl ?_
                            refine Gw_callV (As := [.ref q363878, .int p269176]) (gV_ok D I) (ct_279840_SpillForgeModel_back l hl0 D I γ el P269172 F363956 q269174 q363878 p269176 hT363957 htq269174 ht363881 (gB_w bp269176' (by decide) (by decide))) dr_cX17_graph_281 ⟨wr_10_174, wr_1_14, wr_10_177, by decide, rfl, (Nat.le_of_ble_eq_true rfl), (Nat.le_of_ble_eq_true rfl)⟩ wr_10_176 wr_p_96 hm363907 he363968 rfl (show 0 + 0 ≤ 0 by first | omega | decide) (show 0 + 0 ≤ 0 by first | omega | decide) (Nat.le_of_ble_eq_true rfl) (fun r365295 w365296 dc365292 ds365293 hp365294 => ?_) (fun _ _ _ _ _ z => z.elim)
                            obtain ⟨F365299, rfl, rfl, hT365300, hs365301, hdc, hds, x365297, x365298⟩ := hp365294
                            have he365302 : F365299 q269175 = .inr (18, [.ref q359614, .ref q359615, .int p359616, .int p359617]) := (hs365301 q269175 (rT0 htq269175 (by decide)) (rT1 htq269175 (by decide)) (rT2 htq269175 (by decide))).trans he363959
                            have he365303 : F365299 q359614 = .inr (4, [.int p360875, .ref q360877, .int p360876]) := (hs365301 q359614 (rT0 ht359618 (by decide)) (rT1 ht359618 (by decide)) (rT2 ht359618 (by decide))).trans he363960
                            have he365304 : F365299 q360877 = .inl (I (.object "java/lang/Object"), n360891, .inr (.inr (.inr (.inr f360892)))) := (hs365301 q360877 (rT0 r360883 (by decide)) (rT1 r360883 (by decide)) (rT2 r360883 (by decide))).trans he363961
                            have he365305 : F365299 q360894 = .inr (17, [.ref q360903, .ref q360904, .int p360905, .int p360906]) := (hs365301 q360894 (rT0 ht360899 (by decide)) (rT1 ht360899 (by decide)) (rT2 ht360899 (by decide))).trans he363962
                            have he365306 : F365299 q360903 = .inr (4, [.int p363859, .ref q363861, .int p363860]) := (hs365301 q360903 (rT0 ht360907 (by decide)) (rT1 ht360907 (by decide)) (rT2 ht360907 (by decide))).trans he363963
                            have he365307 : F365299 q363861 = .inl (I (.object "java/lang/Object"), n363875, .inr (.inr (.inr (.inr f363876)))) := (hs365301 q363861 (rT0 r363867 (by decide)) (rT1 r363867 (by decide)) (rT2 r363867 (by decide))).trans he363964
                            have he365308 : F365299 q363878 = .inr (20, [.int p363891, .int p363892, .int p363893, .int p363894, .int p363895, .int p363896, .int p363897]) := (hs365301 q363878 (rT0 ht363881 (by decide)) (rT1 ht363881 (by decide)) (rT2 ht363881 (by decide))).trans he363965
                            have hs365309 : rStr γ [] F269173 F365299 := rStr_tr hs363966 hs365301
                            have kp365310 : F365299 q269174 = F269173 q269174 := (x365297).trans kp363967
                            have kp365311 : F365299 (γ 9 3) = F363956 (γ 9 3) := x365298
                            have he365312 : F365299 q269174 = .inr (22, [.ref (γ 9 0), .ref (γ 9 1), .ref (γ 9 2), .ref (γ 9 3), .ref (γ 9 4), .ref (γ 9 5), .ref (γ 9 6), .ref (γ 9 7), .ref (γ 9 8), .int p363911, .int p363912, .int p363913, .int p363914, .int p363915, .int p363916, .ref (γ 9 15), .ref (γ 9 16), .ref (γ 9 17), .ref (γ 9 18), .ref (γ 9 19), .ref (γ 9 20), .ref (γ 9 21), .ref (γ 9 22), .int p363917, .int p363918, .int p363919, .int p363920, .int p363921, .ref q363909, .ref (γ 9 29), .int p363922, .ref (γ 9 31), .int p363923, .int p363924, .int p363925, .ref q363910]) := (x365297).trans he363968
                            change G _ _ _ _ _ _ _ _ _ _ _
                            refine G_widen (cs' := 0) (sl' := 0) (by omega) (by omega) ?_
                            obtain ⟨z365313, hz365313⟩ : ∃ z : Int32, z = g363837 + Int32.ofInt (-1) := ⟨_, rfl⟩
                            have ez365313 : z365313.toInt = g363837.toInt + (-1) := gI_inc hz365313 (by decide) bg363837' (by decide) (by decide)
                            have bz365313 : gB z365313 (-1) 999998 := ⟨by omega, by omega⟩
                            refine G_iinc (L' := [(5, .int z365313), (8, .int p363893), (7, .int o363978), (6, .ref q363878), (4, .ref q360894), (3, .int g359603), (0, .ref q269174), (1, .ref q269175), (2, .int p269176)]) z365313 3 dr_cX17_graph_284 rfl hz365313.symm (Nat.le_of_ble_eq_true rfl) rfl ?_
                            refine G_goto 109 dr_cX17_graph_287 (by decide +kernel) ?_
                            refine G_lv (L' := [(5, .int z365313), (4, .ref q360894), (3, .int g359603), (0, .ref q269174), (1, .ref q269175), (2, .int p269176)]) [0, 4, 5, 6, 7, 8] rfl ?_
                            exact ih109_363843 F365299 z365313 (gB_w bz365313 (by decide) (by decide)) hT365300 hs365309 (by omega) (fun h0 => by have z := (by rw [kp365311]; exact gr363972) h0; rw [show ((g363837.toInt : Int).toNat : Nat) = (z365313.toInt + 1 : Int).toNat by omega] at z; exact z) kp365310 (by omega)
                          · have r365314 : 0 ≤ o363978.toInt := gj_nlt hc365290 (show Int32.toInt 0 = 0 by decide)
                            have bo363978' : gB o363978 0 1999 := ⟨by omega, by omega⟩
                            refine G_iload 0 dr_cX17_graph_180 rfl ?_
                            refine G_if_lt 204 dr_cX17_graph_182 (by decide +kernel) (fun hc365315 => ?_) (fun hc365315 => ?_)
                            · have r365316 : p363893.toInt < 0 := gj_lt hc365315 (show Int32.toInt 0 = 0 by decide)
                              have bp363893' : gB p363893 (-2147483648) (-1) := ⟨by omega, by omega⟩
                              refine G_iconst 0 dr_cX17_graph_204 (by decide +kernel) ?_
                              refine G_istore (L' := [(9, .int 0), (8, .int p363893), (7, .int o363978), (6, .ref q363878), (5, .int g363837), (4, .ref q360894), (3, .int g359603), (0, .ref q269174), (1, .ref q269175), (2, .int p269176)]) dr_cX17_graph_205 (Nat.le_of_ble_eq_true rfl) rfl ?_
                              refine G_iconst 0 dr_cX17_graph_207 (by decide +kernel) ?_
                              refine G_istore (L' := [(10, .int 0), (9, .int 0), (8, .int p363893), (7, .int o363978), (6, .ref q363878), (5, .int g363837), (4, .ref q360894), (3, .int g359603), (0, .ref q269174), (1, .ref q269175), (2, .int p269176)]) dr_cX17_graph_208 (Nat.le_of_ble_eq_true rfl) rfl ?_
                              have hlp210_365525 : ∀ (n210_365525 : Nat) (F365521 : Nat → va_E) (g365520 : Int32), gB g365520 0 32 → RS D I P269172 F365521 γ el → rStr γ [] F269173 F365521 → (gIp (p269176.toInt = 0) (rGr γ el F269173 q269175 (γ 6 (γ 1 q269175)) (cB (F365521 (γ 9 3))) (vB (g359603.toInt : Int).toNat (g363837.toInt : Int).toNat))) → (F365521 q269174 = F269173 q269174) → ((33 : Int) - g365520.toInt).toNat < n210_365525 → G (gV D I) l (gRm 5 111 0 0) (gMA (gV D I) (pt_269178_SpillForgeModel_graph D I γ el P269172 F269173 q269174 q269175 p269176) gNA 0 0) ky_269178_SpillForgeModel_graph 210 [(10, .int g365520), (9, .int 0), (8, .int p363893), (7, .int o363978), (6, .ref q363878), (5, .int g363837), (4, .ref q360894), (3, .int g359603), (0, .ref q269174), (1, .ref q269175), (2, .int p269176)] [] (va_pl P269172 F365521) 0 0 := by
                                intro n210_365525
                                induction n210_365525 with
                                | zero => intro F365521 g365520 bg365520 hT365522 hs365523 x365524 x365525 hm210_365525; exact absurd hm210_365525 (Nat.not_lt_zero _)
                                | succ n210_365525 ih210_365525 =>
                                  intro F365521 g365520 bg365520 hT365522 hs365523 x365524 x365525 hm210_365525
                                  have hs365527 : rStr γ [] F363956 F365521 := fun b h0 hb hw => (hs365523 b h0 hb hw).trans (hs363966 b h0 hb hw).symm
                                  have he365528 : F365521 q269175 = .inr (18, [.ref q359614, .ref q359615, .int p359616, .int p359617]) := (hs365527 q269175 (rT0 htq269175 (by decide)) (rT1 htq269175 (by decide)) (rT2 htq269175 (by decide))).trans he363959
                                  have he365529 : F365521 q359614 = .inr (4, [.int p360875, .ref q360877, .int p360876]) := (hs365527 q359614 (rT0 ht359618 (by decide)) (rT1 ht359618 (by decide)) (rT2 ht359618 (by decide))).trans he363960
                                  have he365530 : F365521 q360877 = .inl (I (.object "java/lang/Object"), n360891, .inr (.inr (.inr (.inr f360892)))) := (hs365527 q360877 (rT0 r360883 (by decide)) (rT1 r360883 (by decide)) (rT2 r360883 (by decide))).trans he363961
                                  have he365531 : F365521 q360894 = .inr (17, [.ref q360903, .ref q360904, .int p360905, .int p360906]) := (hs365527 q360894 (rT0 ht360899 (by decide)) (rT1 ht360899 (by decide)) (rT2 ht360899 (by decide))).trans he363962
                                  have he365532 : F365521 q360903 = .inr (4, [.int p363859, .ref q363861, .int p363860]) := (hs365527 q360903 (rT0 ht360907 (by decide)) (rT1 ht360907 (by decide)) (rT2 ht360907 (by decide))).trans he363963
                                  have he365533 : F365521 q363861 = .inl (I (.object "java/lang/Object"), n363875, .inr (.inr (.inr (.inr f363876)))) := (hs365527 q363861 (rT0 r363867 (by decide)) (rT1 r363867 (by decide)) (rT2 r363867 (by decide))).trans he363964
                                  have he365534 : F365521 q363878 = .inr (20, [.int p363891, .int p363892, .int p363893, .int p363894, .int p363895, .int p363896, .int p363897]) := (hs365527 q363878 (rT0 ht363881 (by decide)) (rT1 ht363881 (by decide)) (rT2 ht363881 (by decide))).trans he363965
                                  have hs365535 : rStr γ [] F269173 F365521 := rStr_tr hs363966 hs365527
                                  refine G_iload 0 dr_cX17_graph_210 rfl ?_
                                  refine G_bipush 32 dr_cX17_graph_212 (by decide +kernel) ?_
                                  refine G_icmp_ge 243 dr_cX17_graph_214 (by decide +kernel) (fun hc365536 => ?_) (fun hc365536 => ?_)
                                  · have r365537 : 32 ≤ g365520.toInt := gj_leL hc365536 (show Int32.toInt 32 = 32 by decide)
                                    have bg365520' : gB g365520 32 32 := ⟨by omega, by omega⟩
                                    refine G_iload 2 dr_cX17_graph_243 rfl ?_
                                    refine G_if_lt 265 dr_cX17_graph_245 (by decide +kernel) (fun _ => ?_) (fun hc => absurd (show False by have := gj_nlt hc (show Int32.toInt 0 = 0 by decide); omega) not_false)
                                    refine G_aload_n 8 dr_cX17_graph_265 rfl ?_
                                    have hm365538 : q269174 ∈ P269172 := RS_m hT365522 htq269174 (by decide)
                                    obtain ⟨q365540, q365541, p365542, p365543, p365544, p365545, p365546, p365547, p365548, p365549, p365550, p365551, p365552, p365553, p365554, p365555, p365556, he365539, hB365583, ht365557, ht365558, ht365559, ht365560, ht365561, ht365562, ht365563, ht365564, ht365565, ht365566, ht365567, ht365568, ht365569, ht365570, ht365571, ht365572, ht365573, ht365574, ht365575, ht365576, ht365577, ht365578, ht365579, ht365580, hB365584⟩ := show rk_10 γ (F365521 q269174) from RS_o hT365522 htq269174
                                    refine Gp_get 1 hm365538 he365539 dr_cX17_graph_266 (gk_X17 D I) (Nat.le_of_ble_eq_true rfl) wr_7_75 rfl ?_
                                    refine G_iload 3 dr_cX17_graph_269 rfl ?_
                                    have hm365585 : (γ 9 1) ∈ P269172 := RS_m hT365522 ht365560 (by decide)
                                    obtain ⟨f365587, he365586, hg365588⟩ := show rk_13 I γ (F365521 (γ 9 1)) from RS_o hT365522 ht365560
                                    obtain ⟨q365589, hx365591⟩ : ∃ x, x = γ 11 o363978.toInt.toNat := ⟨_, rfl⟩
                                    have ht365590 : rKd γ q365589 36 := by rw [hx365591]; exact (hg365588 _ (show o363978.toInt.toNat < 2000 by omega)).2.1
                                    refine Gp_aald 5 hm365585 he365586 dr_cX17_graph_271 rfl rfl (gB_in bo363978' (by decide) (by decide)) ?_
                                    rw [show f365587 o363978.toNatClampNeg = some q365589 from (hg365588 _ (show o363978.toInt.toNat < 2000 by omega)).1.trans (by rw [hx365591])]
                                    change G _ _ _ _ _ _ _ (.ref q365589 :: _) _ _ _
                                    refine G_iload 3 dr_cX17_graph_272 rfl ?_
                                    have hm365592 : q365589 ∈ P269172 := RS_m hT365522 ht365590 (by decide)
                                    obtain ⟨f365594, he365593, wf365594⟩ := show rk_36 I (F365521 q365589) from RS_o hT365522 ht365590
                                    refine Gw_callS (As := [.ref q365589, .int o363978]) (gV_ok D I) (cp_1873_SpillForgeModel_clear l hl0 D I P269172 F365521 q365589 o363978 f365594 hm365592 he365593 bo363978' wf365594) dr_cX17_graph_274 ⟨wr_10_185, wr_1_14, wr_10_187, by decide, rfl, (Nat.le_of_ble_eq_true rfl), (Nat.le_of_ble_eq_true rfl)⟩ wr_10_186 (show 0 + 0 ≤ 0 by first | omega | decide) (show 0 + 0 ≤ 0 by first | omega | decide) (Nat.le_of_ble_eq_true rfl) (fun r365598 w365599 dc365595 ds365596 hp365597 => ?_) (fun _ _ _ _ _ z => z.elim)
                                    obtain ⟨F365602, f365600, rfl, rfl, hfr365604, he365605, hdc, hds, x365601⟩ := hp365597
                                    have he365606 : F365602 q269175 = .inr (18, [.ref q359614, .ref q359615, .int p359616, .int p359617]) := (hfr365604 q269175 hm359612 (nm_c (rn_oa he365528 he365593) nm_n)).trans he365528
                                    have he365607 : F365602 q359614 = .inr (4, [.int p360875, .ref q360877, .int p360876]) := (hfr365604 q359614 hm360873 (nm_c (rn_oa he365529 he365593) nm_n)).trans he365529
                                    have he365608 : F365602 q360877 = .inl (I (.object "java/lang/Object"), n360891, .inr (.inr (.inr (.inr f360892)))) := (hfr365604 q360877 hm360893 (nm_c (rn_ref_long he365530 he365593) nm_n)).trans he365530
                                    have he365609 : F365602 q360894 = .inr (17, [.ref q360903, .ref q360904, .int p360905, .int p360906]) := (hfr365604 q360894 hm360901 (nm_c (rn_oa he365531 he365593) nm_n)).trans he365531
                                    have he365610 : F365602 q360903 = .inr (4, [.int p363859, .ref q363861, .int p363860]) := (hfr365604 q360903 hm363857 (nm_c (rn_oa he365532 he365593) nm_n)).trans he365532
                                    have he365611 : F365602 q363861 = .inl (I (.object "java/lang/Object"), n363875, .inr (.inr (.inr (.inr f363876)))) := (hfr365604 q363861 hm363877 (nm_c (rn_ref_long he365533 he365593) nm_n)).trans he365533
                                    have he365612 : F365602 q363878 = .inr (20, [.int p363891, .int p363892, .int p363893, .int p363894, .int p363895, .int p363896, .int p363897]) := (hfr365604 q363878 hm363889 (nm_c (rn_oa he365534 he365593) nm_n)).trans he365534
                                    have he365613 : F365602 q269174 = .inr (22, [.ref (γ 9 0), .ref (γ 9 1), .ref (γ 9 2), .ref (γ 9 3), .ref (γ 9 4), .ref (γ 9 5), .ref (γ 9 6), .ref (γ 9 7), .ref (γ 9 8), .int p365542, .int p365543, .int p365544, .int p365545, .int p365546, .int p365547, .ref (γ 9 15), .ref (γ 9 16), .ref (γ 9 17), .ref (γ 9 18), .ref (γ 9 19), .ref (γ 9 20), .ref (γ 9 21), .ref (γ 9 22), .int p365548, .int p365549, .int p365550, .int p365551, .int p365552, .ref q365540, .ref (γ 9 29), .int p365553, .ref (γ 9 31), .int p365554, .int p365555, .int p365556, .ref q365541]) := (hfr365604 q269174 hm365538 (nm_c (rn_oa he365539 he365593) nm_n)).trans he365539
                                    have he365614 : F365602 (γ 9 1) = .inl (I (.array .long), 2000, .inr (.inr (.inr (.inr f365587)))) := (hfr365604 (γ 9 1) hm365585 (nm_c (rn_ref_long he365586 he365593) nm_n)).trans he365586
                                    have hfr365615 : rFr [q365589] P269172 F365521 F365602 := rFr_call (rSub_rf (P := P269172)) (rFr_rf (W := []) (P := P269172) (F := F365521)) hfr365604 (fun b hb hn => ⟨nm_n, (nm_c (fun e => hn (e ▸ List.mem_cons_self)) nm_n)⟩)
                                    change G _ _ _ _ _ _ _ _ _ _ _
                                    refine G_widen (cs' := 0) (sl' := 0) (by omega) (by omega) ?_
                                    have hT365616 : RS D I P269172 F365602 γ el := RS_fr hT365522 hfr365615 ht365590 (by decide) ⟨f365600, he365605, x365601⟩
                                    have hs365617 : rStr γ [] F269173 F365602 := rStr_fr hT365522 hs365523 hfr365615 ht365590 (by decide)
                                    have kp365618 : F365602 q269174 = F269173 q269174 := (hfr365615 q269174 (RS_m hT365522 htq269174 (by decide)) (nm_c (rn_ty htq269174 ht365590 (by decide)) nm_n)).trans x365525
                                    have kp365619 : F365602 (γ 9 3) = F365521 (γ 9 3) := hfr365615 (γ 9 3) (RS_m hT365522 ht365562 (by decide)) (nm_c (rn_ty ht365562 ht365590 (by decide)) nm_n)
                                    refine G_aload_n 8 dr_cX17_graph_277 rfl ?_
                                    refine G_aload 4 dr_cX17_graph_278 rfl ?_
                                    refine G_iload_n 10 dr_cX17_graph_280 rfl ?_
                                    refine Gw_callV (As := [.ref q363878, .int p269176]) (gV_ok D I) (ct_279840_SpillForgeModel_back l hl0 D I γ el P269172 F365602 q269174 q363878 p269176 hT365616 htq269174 ht363881 (gB_w bp269176' (by decide) (by decide))) dr_cX17_graph_281 ⟨wr_10_174, wr_1_14, wr_10_177, by decide, rfl, (Nat.le_of_ble_eq_true rfl), (Nat.le_of_ble_eq_true rfl)⟩ wr_10_176 wr_p_96 hm365538 he365613 rfl (show 0 + 0 ≤ 0 by first | omega | decide) (show 0 + 0 ≤ 0 by first | omega | decide) (Nat.le_of_ble_eq_true rfl) (fun r365623 w365624 dc365620 ds365621 hp365622 => ?_) (fun _ _ _ _ _ z => z.elim)
                                    obtain ⟨F365627, rfl, rfl, hT365628, hs365629, hdc, hds, x365625, x365626⟩ := hp365622
                                    have he365630 : F365627 q269175 = .inr (18, [.ref q359614, .ref q359615, .int p359616, .int p359617]) := (hs365629 q269175 (rT0 htq269175 (by decide)) (rT1 htq269175 (by decide)) (rT2 htq269175 (by decide))).trans he365606
                                    have he365631 : F365627 q359614 = .inr (4, [.int p360875, .ref q360877, .int p360876]) := (hs365629 q359614 (rT0 ht359618 (by decide)) (rT1 ht359618 (by decide)) (rT2 ht359618 (by decide))).trans he365607
                                    have he365632 : F365627 q360877 = .inl (I (.object "java/lang/Object"), n360891, .inr (.inr (.inr (.inr f360892)))) := (hs365629 q360877 (rT0 r360883 (by decide)) (rT1 r360883 (by decide)) (rT2 r360883 (by decide))).trans he365608
                                    have he365633 : F365627 q360894 = .inr (17, [.ref q360903, .ref q360904, .int p360905, .int p360906]) := (hs365629 q360894 (rT0 ht360899 (by decide)) (rT1 ht360899 (by decide)) (rT2 ht360899 (by decide))).trans he365609
                                    have he365634 : F365627 q360903 = .inr (4, [.int p363859, .ref q363861, .int p363860]) := (hs365629 q360903 (rT0 ht360907 (by decide)) (rT1 ht360907 (by decide)) (rT2 ht360907 (by decide))).trans he365610
                                    have he365635 : F365627 q363861 = .inl (I (.object "java/lang/Object"), n363875, .inr (.inr (.inr (.inr f363876)))) := (hs365629 q363861 (rT0 r363867 (by decide)) (rT1 r363867 (by decide)) (rT2 r363867 (by decide))).trans he365611
                                    have he365636 : F365627 q363878 = .inr (20, [.int p363891, .int p363892, .int p363893, .int p363894, .int p363895, .int p363896, .int p363897]) := (hs365629 q363878 (rT0 ht363881 (by decide)) (rT1 ht363881 (by decide)) (rT2 ht363881 (by decide))).trans he365612
                                    have hs365637 : rStr γ [] F269173 F365627 := rStr_tr hs365617 hs365629
                                    have kp365638 : F365627 q269174 = F269173 q269174 := (x365625).trans kp365618
                                    have kp365639 : F365627 (γ 9 3) = F365521 (γ 9 3) := (x365626).trans kp365619
                                    have he365640 : F365627 q269174 = .inr (22, [.ref (γ 9 0), .ref (γ 9 1), .ref (γ 9 2), .ref (γ 9 3), .ref (γ 9 4), .ref (γ 9 5), .ref (γ 9 6), .ref (γ 9 7), .ref (γ 9 8), .int p365542, .int p365543, .int p365544, .int p365545, .int p365546, .int p365547, .ref (γ 9 15), .ref (γ 9 16), .ref (γ 9 17), .ref (γ 9 18), .ref (γ 9 19), .ref (γ 9 20), .ref (γ 9 21), .ref (γ 9 22), .int p365548, .int p365549, .int p365550, .int p365551, .int p365552, .ref q365540, .ref (γ 9 29), .int p365553, .ref (γ 9 31), .int p365554, .int p365555, .int p365556, .ref q365541]) := (x365625).trans he365613
                                    change G _ _ _ _ _ _ _ _ _ _ _
                                    refine G_widen (cs' := 0) (sl' := 0) (by omega) (by omega) ?_
                                    obtain ⟨z365641, hz365641⟩ : ∃ z : Int32, z = g363837 + Int32.ofInt (-1) := ⟨_, rfl⟩
                                    have ez365641 : z365641.toInt = g363837.toInt + (-1) := gI_inc hz365641 (by decide) bg363837' (by decide) (by decide)
                                    have bz365641 : gB z365641 (-1) 999998 := ⟨by omega, by omega⟩
                                    refine G_iinc (L' := [(5, .int z365641), (10, .int g365520), (9, .int 0), (8, .int p363893), (7, .int o363978), (6, .ref q363878), (4, .ref q360894), (3, .int g359603), (0, .ref q269174), (1, .ref q269175), (2, .int p269176)]) z365641 5 dr_cX17_graph_284 rfl hz365641.symm (Nat.le_of_ble_eq_true rfl) rfl ?_
                                    refine G_goto 109 dr_cX17_graph_287 (by decide +kernel) ?_
                                    refine G_lv (L' := [(5, .int z365641), (4, .ref q360894), (3, .int g359603), (0, .ref q269174), (1, .ref q269175), (2, .int p269176)]) [0, 6, 7, 8, 9, 10] rfl ?_
                                    exact ih109_363843 F365627 z365641 (gB_w bz365641 (by decide) (by decide)) hT365628 hs365637 (by omega) (fun h0 => by have z := (by rw [kp365639]; exact x365524) h0; rw [show ((g363837.toInt : Int).toNat : Nat) = (z365641.toInt + 1 : Int).toNat by omega] at z; exact z) kp365638 (by omega)
                                  · have r365642 : g365520.toInt < 32 := gj_nleL hc365536 (show Int32.toInt 32 = 32 by decide)
                                    have bg365520' : gB g365520 0 31 := ⟨by omega, by omega⟩
                                    refine G_aload_n 8 dr_cX17_graph_217 rfl ?_
                                    have hm365643 : q269174 ∈ P269172 := RS_m hT365522 htq269174 (by decide)
                                    obtain ⟨q365645, q365646, p365647, p365648, p365649, p365650, p365651, p365652, p365653, p365654, p365655, p365656, p365657, p365658, p365659, p365660, p365661, he365644, hB365688, ht365662, ht365663, ht365664, ht365665, ht365666, ht365667, ht365668, ht365669, ht365670, ht365671, ht365672, ht365673, ht365674, ht365675, ht365676, ht365677, ht365678, ht365679, ht365680, ht365681, ht365682, ht365683, ht365684, ht365685, hB365689⟩ := show rk_10 γ (F365521 q269174) from RS_o hT365522 htq269174
                                    refine Gp_get 1 hm365643 he365644 dr_cX17_graph_218 (gk_X17 D I) (Nat.le_of_ble_eq_true rfl) wr_7_75 rfl ?_
                                    refine G_iload 3 dr_cX17_graph_221 rfl ?_
                                    have hm365690 : (γ 9 1) ∈ P269172 := RS_m hT365522 ht365665 (by decide)
                                    obtain ⟨f365692, he365691, hg365693⟩ := show rk_13 I γ (F365521 (γ 9 1)) from RS_o hT365522 ht365665
                                    obtain ⟨q365694, hx365696⟩ : ∃ x, x = γ 11 o363978.toInt.toNat := ⟨_, rfl⟩
                                    have ht365695 : rKd γ q365694 36 := by rw [hx365696]; exact (hg365693 _ (show o363978.toInt.toNat < 2000 by omega)).2.1
                                    refine Gp_aald 5 hm365690 he365691 dr_cX17_graph_223 rfl rfl (gB_in bo363978' (by decide) (by decide)) ?_
                                    rw [show f365692 o363978.toNatClampNeg = some q365694 from (hg365693 _ (show o363978.toInt.toNat < 2000 by omega)).1.trans (by rw [hx365696])]
                                    change G _ _ _ _ _ _ _ (.ref q365694 :: _) _ _ _
                                    refine G_iload 0 dr_cX17_graph_224 rfl ?_
                                    refine G_dup2_11 dr_cX17_graph_226 rfl rfl ?_
                                    have hm365697 : q365694 ∈ P269172 := RS_m hT365522 ht365695 (by decide)
                                    obtain ⟨f365699, he365698, wf365699⟩ := show rk_36 I (F365521 q365694) from RS_o hT365522 ht365695
                                    refine Gp_lald 2 hm365697 he365698 dr_cX17_graph_227 rfl (gB_in bg365520' (by decide) (by decide)) (G_namL fun u365700 hu365700 => ?_)
                                    have qu365700 : lb_Q u365700 (2000 - 64 * g365520.toInt) := lb_Wld hu365700 wf365699 (by omega) (by omega) (lb_Mod0 (by omega) (by omega))
                                    refine G_aload_n 8 dr_cX17_graph_228 rfl ?_
                                    refine Gp_get 2 hm365643 he365644 dr_cX17_graph_229 (gk_X17 D I) (Nat.le_of_ble_eq_true rfl) wr_7_76 rfl ?_
                                    refine G_iload 0 dr_cX17_graph_232 rfl ?_
                                    have hm365701 : (γ 9 2) ∈ P269172 := RS_m hT365522 ht365666 (by decide)
                                    obtain ⟨f365703, he365702, wf365703⟩ := show rk_35 I (F365521 (γ 9 2)) from RS_o hT365522 ht365666
                                    refine Gp_lald 2 hm365701 he365702 dr_cX17_graph_234 rfl (gB_in bg365520' (by decide) (by decide)) (G_namL fun u365704 hu365704 => ?_)
                                    have qu365704 : lb_Q u365704 (2000 - 64 * g365520.toInt) := lb_Wld hu365704 wf365703 (by omega) (by omega) (lb_Mod0 (by omega) (by omega))
                                    refine G_lor dr_cX17_graph_235 (G_namL fun u365705 hu365705 => ?_)
                                    have qu365705 : lb_Q u365705 (2000 - 64 * g365520.toInt) := lb_Qor hu365705 qu365700 qu365704
                                    refine Gp_last 2 hm365697 he365698 dr_cX17_graph_236 rfl (gB_in bg365520' (by decide) (by decide)) (fun F365706 e365707 n365708 => ?_)
                                    obtain ⟨f365709, hf365709⟩ : ∃ z, z = vp_updL f365699 g365520.toNatClampNeg u365705 := ⟨_, rfl⟩
                                    rw [← hf365709] at e365707
                                    have he365710 : F365706 q269175 = .inr (18, [.ref q359614, .ref q359615, .int p359616, .int p359617]) := (n365708 q269175 (rn_oa he365528 he365698)).trans he365528
                                    have he365711 : F365706 q359614 = .inr (4, [.int p360875, .ref q360877, .int p360876]) := (n365708 q359614 (rn_oa he365529 he365698)).trans he365529
                                    have he365712 : F365706 q360877 = .inl (I (.object "java/lang/Object"), n360891, .inr (.inr (.inr (.inr f360892)))) := (n365708 q360877 (rn_ref_long he365530 he365698)).trans he365530
                                    have he365713 : F365706 q360894 = .inr (17, [.ref q360903, .ref q360904, .int p360905, .int p360906]) := (n365708 q360894 (rn_oa he365531 he365698)).trans he365531
                                    have he365714 : F365706 q360903 = .inr (4, [.int p363859, .ref q363861, .int p363860]) := (n365708 q360903 (rn_oa he365532 he365698)).trans he365532
                                    have he365715 : F365706 q363861 = .inl (I (.object "java/lang/Object"), n363875, .inr (.inr (.inr (.inr f363876)))) := (n365708 q363861 (rn_ref_long he365533 he365698)).trans he365533
                                    have he365716 : F365706 q363878 = .inr (20, [.int p363891, .int p363892, .int p363893, .int p363894, .int p363895, .int p363896, .int p363897]) := (n365708 q363878 (rn_oa he365534 he365698)).trans he365534
                                    have he365717 : F365706 q269174 = .inr (22, [.ref (γ 9 0), .ref (γ 9 1), .ref (γ 9 2), .ref (γ 9 3), .ref (γ 9 4), .ref (γ 9 5), .ref (γ 9 6), .ref (γ 9 7), .ref (γ 9 8), .int p365647, .int p365648, .int p365649, .int p365650, .int p365651, .int p365652, .ref (γ 9 15), .ref (γ 9 16), .ref (γ 9 17), .ref (γ 9 18), .ref (γ 9 19), .ref (γ 9 20), .ref (γ 9 21), .ref (γ 9 22), .int p365653, .int p365654, .int p365655, .int p365656, .int p365657, .ref q365645, .ref (γ 9 29), .int p365658, .ref (γ 9 31), .int p365659, .int p365660, .int p365661, .ref q365646]) := (n365708 q269174 (rn_oa he365644 he365698)).trans he365644
                                    have he365718 : F365706 (γ 9 1) = .inl (I (.array .long), 2000, .inr (.inr (.inr (.inr f365692)))) := (n365708 (γ 9 1) (rn_ref_long he365691 he365698)).trans he365691
                                    have he365719 : F365706 (γ 9 2) = .inl (I .long, 32, .inr (.inl f365703)) := (n365708 (γ 9 2) (rn_ty ht365666 ht365695 (by decide))).trans he365702
                                    have he365720 : F365706 q365694 = .inl (I .long, 32, .inr (.inl f365709)) := e365707
                                    have hs365721 : rStr γ [] F269173 F365706 := rStr_put hs365523 n365708 ht365695 (by decide)
                                    have kp365722 : F365706 q269174 = F269173 q269174 := (n365708 q269174 (rn_ty htq269174 ht365695 (by decide))).trans x365525
                                    have kp365723 : F365706 (γ 9 3) = F365521 (γ 9 3) := n365708 (γ 9 3) (rn_ty ht365667 ht365695 (by decide))
                                    have wf365709 : lb_W f365709 (32) (32) (2000) := lb_Wst hf365709 wf365699 (by omega) (lb_Mod0 (by omega) (by omega)) qu365705
                                    obtain ⟨z365724, hz365724⟩ : ∃ z : Int32, z = g365520 + Int32.ofInt 1 := ⟨_, rfl⟩
                                    have ez365724 : z365724.toInt = g365520.toInt + 1 := gI_inc hz365724 (by decide) bg365520' (by decide) (by decide)
                                    have bz365724 : gB z365724 1 32 := ⟨by omega, by omega⟩
                                    refine G_iinc (L' := [(10, .int z365724), (9, .int 0), (8, .int p363893), (7, .int o363978), (6, .ref q363878), (5, .int g363837), (4, .ref q360894), (3, .int g359603), (0, .ref q269174), (1, .ref q269175), (2, .int p269176)]) z365724 0 dr_cX17_graph_237 rfl hz365724.symm (Nat.le_of_ble_eq_true rfl) rfl ?_
                                    refine G_goto 210 dr_cX17_graph_240 (by decide +kernel) ?_
                                    have hT365725 : RS D I P269172 F365706 γ el := RS_set hT365522 n365708 ht365695 (by decide) ⟨f365709, he365720, wf365709⟩
                                    exact ih210_365525 F365706 z365724 (gB_w bz365724 (by decide) (by decide)) hT365725 hs365721 (by rw [kp365723]; exact x365524) kp365722 (by have qa0 : Int32.toInt 0 = 0 := (by decide); omega)
                              exact hlp210_365525 (((33 : Int) - 0).toNat + 1) F363956 0 (gB_w (gBl (show Int32.toInt 0 = 0 by decide)) (by decide) (by decide)) hT363957 hs363966 gr363972 kp363967 (Nat.lt_succ_self _)
                            · have r365726 : 0 ≤ p363893.toInt := gj_nlt hc365315 (show Int32.toInt 0 = 0 by decide)
                              have bp363893' : gB p363893 0 2147483647 := ⟨by omega, by omega⟩
                              refine G_aload_n 6 dr_cX17_graph_185 rfl ?_
                              refine Gp_get 1 hm363907 he363968 dr_cX17_graph_186 (gk_X17 D I) (Nat.le_of_ble_eq_true rfl) wr_7_75 rfl ?_
                              refine G_iload 1 dr_cX17_graph_189 rfl ?_
                              have hm365727 : (γ 9 1) ∈ P269172 := RS_m hT363957 ht363929 (by decide)
                              obtain ⟨f365729, he365728, hg365730⟩ := show rk_13 I γ (F363956 (γ 9 1)) from RS_o hT363957 ht363929
                              obtain ⟨q365731, hx365733⟩ : ∃ x, x = γ 11 o363978.toInt.toNat := ⟨_, rfl⟩
                              have ht365732 : rKd γ q365731 36 := by rw [hx365733]; exact (hg365730 _ (show o363978.toInt.toNat < 2000 by omega)).2.1
                              refine Gp_aald 5 hm365727 he365728 dr_cX17_graph_191 rfl rfl (gB_in bo363978' (by decide) (by decide)) ?_
                              rw [show f365729 o363978.toNatClampNeg = some q365731 from (hg365730 _ (show o363978.toInt.toNat < 2000 by omega)).1.trans (by rw [hx365733])]
                              change G _ _ _ _ _ _ _ (.ref q365731 :: _) _ _ _
                              refine G_iload 0 dr_cX17_graph_192 rfl ?_
                              have hm365734 : q365731 ∈ P269172 := RS_m hT363957 ht365732 (by decide)
                              obtain ⟨f365736, he365735, wf365736⟩ := show rk_36 I (F363956 q365731) from RS_o hT363957 ht365732
                              refine Gw_callS (As := [.ref q365731, .int p363893]) (gV_ok D I) (cp_1838_SpillForgeModel_has l hl0 D I P269172 F363956 q365731 p363893 f365736 hm365734 he365735 ⟨by omega, by omega⟩) dr_cX17_graph_194 ⟨wr_10_203, wr_1_14, wr_10_205, by decide, rfl, (Nat.le_of_ble_eq_true rfl), (Nat.le_of_ble_eq_true rfl)⟩ wr_10_204 (show 0 + 0 ≤ 0 by first | omega | decide) (show 0 + 0 ≤ 0 by first | omega | decide) (Nat.le_of_ble_eq_true rfl) (fun r365740 w365741 dc365737 ds365738 hp365739 => ?_) (fun _ _ _ _ _ z => z.elim)
                              rcases hp365739 with ⟨z365742, z365743, rfl, rfl, hdc, hds, r365744, r365745, r365746, r365747⟩ | ⟨z365748, z365749, rfl, rfl, hdc, hds, r365750, r365751, r365752, r365753⟩
                              · change G _ _ _ _ _ _ _ (.int 0 :: _) _ _ _
                                refine G_widen (cs' := 0) (sl' := 0) (by omega) (by omega) ?_
                                refine G_if_eq 204 dr_cX17_graph_197 (by decide +kernel) (fun _ => ?_) (fun hc => absurd hc (by decide))
                                refine G_iconst 0 dr_cX17_graph_204 (by decide +kernel) ?_
                                refine G_istore (L' := [(9, .int 0), (8, .int p363893), (7, .int o363978), (6, .ref q363878), (5, .int g363837), (4, .ref q360894), (3, .int g359603), (0, .ref q269174), (1, .ref q269175), (2, .int p269176)]) dr_cX17_graph_205 (Nat.le_of_ble_eq_true rfl) rfl ?_
                                refine G_iconst 0 dr_cX17_graph_207 (by decide +kernel) ?_
                                refine G_istore (L' := [(10, .int 0), (9, .int 0), (8, .int p363893), (7, .int o363978), (6, .ref q363878), (5, .int g363837), (4, .ref q360894), (3, .int g359603), (0, .ref q269174), (1, .ref q269175), (2, .int p269176)]) dr_cX17_graph_208 (Nat.le_of_ble_eq_true rfl) rfl ?_
                                have hlp210_365994 : ∀ (n210_365994 : Nat) (F365990 : Nat → va_E) (g365989 : Int32), gB g365989 0 32 → RS D I P269172 F365990 γ el → rStr γ [] F269173 F365990 → (gIp (p269176.toInt = 0) (rGr γ el F269173 q269175 (γ 6 (γ 1 q269175)) (cB (F365990 (γ 9 3))) (vB (g359603.toInt : Int).toNat (g363837.toInt : Int).toNat))) → (F365990 q269174 = F269173 q269174) → ((33 : Int) - g365989.toInt).toNat < n210_365994 → G (gV D I) l (gRm 5 111 0 0) (gMA (gV D I) (pt_269178_SpillForgeModel_graph D I γ el P269172 F269173 q269174 q269175 p269176) gNA 0 0) ky_269178_SpillForgeModel_graph 210 [(10, .int g365989), (9, .int 0), (8, .int p363893), (7, .int o363978), (6, .ref q363878), (5, .int g363837), (4, .ref q360894), (3, .int g359603), (0, .ref q269174), (1, .ref q269175), (2, .int p269176)] [] (va_pl P269172 F365990) 0 0 := by
                                  intro n210_365994
                                  induction n210_365994 with
                                  | zero => intro F365990 g365989 bg365989 hT365991 hs365992 x365993 x365994 hm210_365994; exact absurd hm210_365994 (Nat.not_lt_zero _)
                                  | succ n210_365994 ih210_365994 =>
                                    intro F365990 g365989 bg365989 hT365991 hs365992 x365993 x365994 hm210_365994
                                    have hs365996 : rStr γ [] F363956 F365990 := fun b h0 hb hw => (hs365992 b h0 hb hw).trans (hs363966 b h0 hb hw).symm
                                    have he365997 : F365990 q269175 = .inr (18, [.ref q359614, .ref q359615, .int p359616, .int p359617]) := (hs365996 q269175 (rT0 htq269175 (by decide)) (rT1 htq269175 (by decide)) (rT2 htq269175 (by decide))).trans he363959
                                    have he365998 : F365990 q359614 = .inr (4, [.int p360875, .ref q360877, .int p360876]) := (hs365996 q359614 (rT0 ht359618 (by decide)) (rT1 ht359618 (by decide)) (rT2 ht359618 (by decide))).trans he363960
                                    have he365999 : F365990 q360877 = .inl (I (.object "java/lang/Object"), n360891, .inr (.inr (.inr (.inr f360892)))) := (hs365996 q360877 (rT0 r360883 (by decide)) (rT1 r360883 (by decide)) (rT2 r360883 (by decide))).trans he363961
                                    have he366000 : F365990 q360894 = .inr (17, [.ref q360903, .ref q360904, .int p360905, .int p360906]) := (hs365996 q360894 (rT0 ht360899 (by decide)) (rT1 ht360899 (by decide)) (rT2 ht360899 (by decide))).trans he363962
                                    have he366001 : F365990 q360903 = .inr (4, [.int p363859, .ref q363861, .int p363860]) := (hs365996 q360903 (rT0 ht360907 (by decide)) (rT1 ht360907 (by decide)) (rT2 ht360907 (by decide))).trans he363963
                                    have he366002 : F365990 q363861 = .inl (I (.object "java/lang/Object"), n363875, .inr (.inr (.inr (.inr f363876)))) := (hs365996 q363861 (rT0 r363867 (by decide)) (rT1 r363867 (by decide)) (rT2 r363867 (by decide))).trans he363964
                                    have he366003 : F365990 q363878 = .inr (20, [.int p363891, .int p363892, .int p363893, .int p363894, .int p363895, .int p363896, .int p363897]) := (hs365996 q363878 (rT0 ht363881 (by decide)) (rT1 ht363881 (by decide)) (rT2 ht363881 (by decide))).trans he363965
                                    have hs366004 : rStr γ [] F269173 F365990 := rStr_tr hs363966 hs365996
                                    refine G_iload 0 dr_cX17_graph_210 rfl ?_
                                    refine G_bipush 32 dr_cX17_graph_212 (by decide +kernel) ?_
                                    refine G_icmp_ge 243 dr_cX17_graph_214 (by decide +kernel) (fun hc366005 => ?_) (fun hc366005 => ?_)
                                    · have r366006 : 32 ≤ g365989.toInt := gj_leL hc366005 (show Int32.toInt 32 = 32 by decide)
                                      have bg365989' : gB g365989 32 32 := ⟨by omega, by omega⟩
                                      refine G_iload 2 dr_cX17_graph_243 rfl ?_
                                      refine G_if_lt 265 dr_cX17_graph_245 (by decide +kernel) (fun hc => absurd (show False by have := gj_lt hc (show Int32.toInt 0 = 0 by decide); omega) not_false) (fun _ => ?_)
                                      refine G_iload 1 dr_cX17_graph_248 rfl ?_
                                      refine G_if_ne 265 dr_cX17_graph_250 (by decide +kernel) (fun hc => absurd hc (by decide)) (fun _ => ?_)
                                      refine G_aload_n 8 dr_cX17_graph_253 rfl ?_
                                      have hm366007 : q269174 ∈ P269172 := RS_m hT365991 htq269174 (by decide)
                                      obtain ⟨q366009, q366010, p366011, p366012, p366013, p366014, p366015, p366016, p366017, p366018, p366019, p366020, p366021, p366022, p366023, p366024, p366025, he366008, hB366052, ht366026, ht366027, ht366028, ht366029, ht366030, ht366031, ht366032, ht366033, ht366034, ht366035, ht366036, ht366037, ht366038, ht366039, ht366040, ht366041, ht366042, ht366043, ht366044, ht366045, ht366046, ht366047, ht366048, ht366049, hB366053⟩ := show rk_10 γ (F365990 q269174) from RS_o hT365991 htq269174
                                      refine Gp_get 1 hm366007 he366008 dr_cX17_graph_254 (gk_X17 D I) (Nat.le_of_ble_eq_true rfl) wr_7_75 rfl ?_
                                      refine G_iload 3 dr_cX17_graph_257 rfl ?_
                                      have hm366054 : (γ 9 1) ∈ P269172 := RS_m hT365991 ht366029 (by decide)
                                      obtain ⟨f366056, he366055, hg366057⟩ := show rk_13 I γ (F365990 (γ 9 1)) from RS_o hT365991 ht366029
                                      obtain ⟨q366058, hx366060⟩ : ∃ x, x = γ 11 o363978.toInt.toNat := ⟨_, rfl⟩
                                      have ht366059 : rKd γ q366058 36 := by rw [hx366060]; exact (hg366057 _ (show o363978.toInt.toNat < 2000 by omega)).2.1
                                      refine Gp_aald 5 hm366054 he366055 dr_cX17_graph_259 rfl rfl (gB_in bo363978' (by decide) (by decide)) ?_
                                      rw [show f366056 o363978.toNatClampNeg = some q366058 from (hg366057 _ (show o363978.toInt.toNat < 2000 by omega)).1.trans (by rw [hx366060])]
                                      change G _ _ _ _ _ _ _ (.ref q366058 :: _) _ _ _
                                      refine G_iload 2 dr_cX17_graph_260 rfl ?_
                                      have hm366061 : q366058 ∈ P269172 := RS_m hT365991 ht366059 (by decide)
                                      obtain ⟨f366063, he366062, wf366063⟩ := show rk_36 I (F365990 q366058) from RS_o hT365991 ht366059
                                      refine Gw_callS (As := [.ref q366058, .int p363893]) (gV_ok D I) (cp_1873_SpillForgeModel_clear l hl0 D I P269172 F365990 q366058 p363893 f366063 hm366061 he366062 ⟨by omega, by omega⟩ wf366063) dr_cX17_graph_262 ⟨wr_10_185, wr_1_14, wr_10_187, by decide, rfl, (Nat.le_of_ble_eq_true rfl), (Nat.le_of_ble_eq_true rfl)⟩ wr_10_186 (show 0 + 0 ≤ 0 by first | omega | decide) (show 0 + 0 ≤ 0 by first | omega | decide) (Nat.le_of_ble_eq_true rfl) (fun r366067 w366068 dc366064 ds366065 hp366066 => ?_) (fun _ _ _ _ _ z => z.elim)
                                      obtain ⟨F366071, f366069, rfl, rfl, hfr366073, he366074, hdc, hds, x366070⟩ := hp366066
                                      have he366075 : F366071 q269175 = .inr (18, [.ref q359614, .ref q359615, .int p359616, .int p359617]) := (hfr366073 q269175 hm359612 (nm_c (rn_oa he365997 he366062) nm_n)).trans he365997
                                      have he366076 : F366071 q359614 = .inr (4, [.int p360875, .ref q360877, .int p360876]) := (hfr366073 q359614 hm360873 (nm_c (rn_oa he365998 he366062) nm_n)).trans he365998
                                      have he366077 : F366071 q360877 = .inl (I (.object "java/lang/Object"), n360891, .inr (.inr (.inr (.inr f360892)))) := (hfr366073 q360877 hm360893 (nm_c (rn_ref_long he365999 he366062) nm_n)).trans he365999
                                      have he366078 : F366071 q360894 = .inr (17, [.ref q360903, .ref q360904, .int p360905, .int p360906]) := (hfr366073 q360894 hm360901 (nm_c (rn_oa he366000 he366062) nm_n)).trans he366000
                                      have he366079 : F366071 q360903 = .inr (4, [.int p363859, .ref q363861, .int p363860]) := (hfr366073 q360903 hm363857 (nm_c (rn_oa he366001 he366062) nm_n)).trans he366001
                                      have he366080 : F366071 q363861 = .inl (I (.object "java/lang/Object"), n363875, .inr (.inr (.inr (.inr f363876)))) := (hfr366073 q363861 hm363877 (nm_c (rn_ref_long he366002 he366062) nm_n)).trans he366002
                                      have he366081 : F366071 q363878 = .inr (20, [.int p363891, .int p363892, .int p363893, .int p363894, .int p363895, .int p363896, .int p363897]) := (hfr366073 q363878 hm363889 (nm_c (rn_oa he366003 he366062) nm_n)).trans he366003
                                      have he366082 : F366071 q269174 = .inr (22, [.ref (γ 9 0), .ref (γ 9 1), .ref (γ 9 2), .ref (γ 9 3), .ref (γ 9 4), .ref (γ 9 5), .ref (γ 9 6), .ref (γ 9 7), .ref (γ 9 8), .int p366011, .int p366012, .int p366013, .int p366014, .int p366015, .int p366016, .ref (γ 9 15), .ref (γ 9 16), .ref (γ 9 17), .ref (γ 9 18), .ref (γ 9 19), .ref (γ 9 20), .ref (γ 9 21), .ref (γ 9 22), .int p366017, .int p366018, .int p366019, .int p366020, .int p366021, .ref q366009, .ref (γ 9 29), .int p366022, .ref (γ 9 31), .int p366023, .int p366024, .int p366025, .ref q366010]) := (hfr366073 q269174 hm366007 (nm_c (rn_oa he366008 he366062) nm_n)).trans he366008
                                      have he366083 : F366071 (γ 9 1) = .inl (I (.array .long), 2000, .inr (.inr (.inr (.inr f366056)))) := (hfr366073 (γ 9 1) hm366054 (nm_c (rn_ref_long he366055 he366062) nm_n)).trans he366055
                                      have hfr366084 : rFr [q366058] P269172 F365990 F366071 := rFr_call (rSub_rf (P := P269172)) (rFr_rf (W := []) (P := P269172) (F := F365990)) hfr366073 (fun b hb hn => ⟨nm_n, (nm_c (fun e => hn (e ▸ List.mem_cons_self)) nm_n)⟩)
                                      change G _ _ _ _ _ _ _ _ _ _ _
                                      refine G_widen (cs' := 0) (sl' := 0) (by omega) (by omega) ?_
                                      have hT366085 : RS D I P269172 F366071 γ el := RS_fr hT365991 hfr366084 ht366059 (by decide) ⟨f366069, he366074, x366070⟩
                                      have hs366086 : rStr γ [] F269173 F366071 := rStr_fr hT365991 hs365992 hfr366084 ht366059 (by decide)
                                      have kp366087 : F366071 q269174 = F269173 q269174 := (hfr366084 q269174 (RS_m hT365991 htq269174 (by decide)) (nm_c (rn_ty htq269174 ht366059 (by decide)) nm_n)).trans x365994
                                      have kp366088 : F366071 (γ 9 3) = F365990 (γ 9 3) := hfr366084 (γ 9 3) (RS_m hT365991 ht366031 (by decide)) (nm_c (rn_ty ht366031 ht366059 (by decide)) nm_n)
                                      refine G_aload_n 8 dr_cX17_graph_265 rfl ?_
                                      refine Gp_get 1 hm366007 he366082 dr_cX17_graph_266 (gk_X17 D I) (Nat.le_of_ble_eq_true rfl) wr_7_75 rfl ?_
                                      refine G_iload 3 dr_cX17_graph_269 rfl ?_
                                      obtain ⟨q366089, hx366091⟩ : ∃ x, x = γ 11 o363978.toInt.toNat := ⟨_, rfl⟩
                                      have ht366090 : rKd γ q366089 36 := by rw [hx366091]; exact (hg366057 _ (show o363978.toInt.toNat < 2000 by omega)).2.1
                                      refine Gp_aald 5 hm366054 he366083 dr_cX17_graph_271 rfl rfl (gB_in bo363978' (by decide) (by decide)) ?_
                                      rw [show f366056 o363978.toNatClampNeg = some q366089 from (hg366057 _ (show o363978.toInt.toNat < 2000 by omega)).1.trans (by rw [hx366091])]
                                      change G _ _ _ _ _ _ _ (.ref q366089 :: _) _ _ _
                                      refine G_iload 3 dr_cX17_graph_272 rfl ?_
                                      have hm366092 : q366089 ∈ P269172 := RS_m hT366085 ht366090 (by decide)
                                      obtain ⟨f366094, he366093, wf366094⟩ := show rk_36 I (F366071 q366089) from RS_o hT366085 ht366090
                                      refine Gw_callS (As := [.ref q366089, .int o363978]) (gV_ok D I) (cp_1873_SpillForgeModel_clear l hl0 D I P269172 F366071 q366089 o363978 f366094 hm366092 he366093 bo363978' wf366094) dr_cX17_graph_274 ⟨wr_10_185, wr_1_14, wr_10_187, by decide, rfl, (Nat.le_of_ble_eq_true rfl), (Nat.le_of_ble_eq_true rfl)⟩ wr_10_186 (show 0 + 0 ≤ 0 by first | omega | decide) (show 0 + 0 ≤ 0 by first | omega | decide) (Nat.le_of_ble_eq_true rfl) (fun r366098 w366099 dc366095 ds366096 hp366097 => ?_) (fun _ _ _ _ _ z => z.elim)
                                      obtain ⟨F366102, f366100, rfl, rfl, hfr366104, he366105, hdc, hds, x366101⟩ := hp366097
                                      have he366106 : F366102 q269175 = .inr (18, [.ref q359614, .ref q359615, .int p359616, .int p359617]) := (hfr366104 q269175 hm359612 (nm_c (rn_oa he366075 he366093) nm_n)).trans he366075
                                      have he366107 : F366102 q359614 = .inr (4, [.int p360875, .ref q360877, .int p360876]) := (hfr366104 q359614 hm360873 (nm_c (rn_oa he366076 he366093) nm_n)).trans he366076
                                      have he366108 : F366102 q360877 = .inl (I (.object "java/lang/Object"), n360891, .inr (.inr (.inr (.inr f360892)))) := (hfr366104 q360877 hm360893 (nm_c (rn_ref_long he366077 he366093) nm_n)).trans he366077
                                      have he366109 : F366102 q360894 = .inr (17, [.ref q360903, .ref q360904, .int p360905, .int p360906]) := (hfr366104 q360894 hm360901 (nm_c (rn_oa he366078 he366093) nm_n)).trans he366078
                                      have he366110 : F366102 q360903 = .inr (4, [.int p363859, .ref q363861, .int p363860]) := (hfr366104 q360903 hm363857 (nm_c (rn_oa he366079 he366093) nm_n)).trans he366079
                                      have he366111 : F366102 q363861 = .inl (I (.object "java/lang/Object"), n363875, .inr (.inr (.inr (.inr f363876)))) := (hfr366104 q363861 hm363877 (nm_c (rn_ref_long he366080 he366093) nm_n)).trans he366080
                                      have he366112 : F366102 q363878 = .inr (20, [.int p363891, .int p363892, .int p363893, .int p363894, .int p363895, .int p363896, .int p363897]) := (hfr366104 q363878 hm363889 (nm_c (rn_oa he366081 he366093) nm_n)).trans he366081
                                      have he366113 : F366102 q269174 = .inr (22, [.ref (γ 9 0), .ref (γ 9 1), .ref (γ 9 2), .ref (γ 9 3), .ref (γ 9 4), .ref (γ 9 5), .ref (γ 9 6), .ref (γ 9 7), .ref (γ 9 8), .int p366011, .int p366012, .int p366013, .int p366014, .int p366015, .int p366016, .ref (γ 9 15), .ref (γ 9 16), .ref (γ 9 17), .ref (γ 9 18), .ref (γ 9 19), .ref (γ 9 20), .ref (γ 9 21), .ref (γ 9 22), .int p366017, .int p366018, .int p366019, .int p366020, .int p366021, .ref q366009, .ref (γ 9 29), .int p366022, .ref (γ 9 31), .int p366023, .int p366024, .int p366025, .ref q366010]) := (hfr366104 q269174 hm366007 (nm_c (rn_oa he366082 he366093) nm_n)).trans he366082
                                      have he366114 : F366102 (γ 9 1) = .inl (I (.array .long), 2000, .inr (.inr (.inr (.inr f366056)))) := (hfr366104 (γ 9 1) hm366054 (nm_c (rn_ref_long he366083 he366093) nm_n)).trans he366083
                                      have hfr366115 : rFr [q366089] P269172 F366071 F366102 := rFr_call (rSub_rf (P := P269172)) (rFr_rf (W := []) (P := P269172) (F := F366071)) hfr366104 (fun b hb hn => ⟨nm_n, (nm_c (fun e => hn (e ▸ List.mem_cons_self)) nm_n)⟩)
                                      change G _ _ _ _ _ _ _ _ _ _ _
                                      refine G_widen (cs' := 0) (sl' := 0) (by omega) (by omega) ?_
                                      have hT366116 : RS D I P269172 F366102 γ el := RS_fr hT366085 hfr366115 ht366090 (by decide) ⟨f366100, he366105, x366101⟩
                                      have hs366117 : rStr γ [] F269173 F366102 := rStr_fr hT366085 hs366086 hfr366115 ht366090 (by decide)
                                      have kp366118 : F366102 q269174 = F269173 q269174 := (hfr366115 q269174 (RS_m hT366085 htq269174 (by decide)) (nm_c (rn_ty htq269174 ht366090 (by decide)) nm_n)).trans kp366087
                                      have kp366119 : F366102 (γ 9 3) = F365990 (γ 9 3) := (hfr366115 (γ 9 3) (RS_m hT366085 ht366031 (by decide)) (nm_c (rn_ty ht366031 ht366090 (by decide)) nm_n)).trans kp366088
                                      refine G_aload_n 8 dr_cX17_graph_277 rfl ?_
                                      refine G_aload 4 dr_cX17_graph_278 rfl ?_
                                      refine G_iload_n 10 dr_cX17_graph_280 rfl ?_
                                      refine Gw_callV (As := [.ref q363878, .int p269176]) (gV_ok D I) (ct_279840_SpillForgeModel_back l hl0 D I γ el P269172 F366102 q269174 q363878 p269176 hT366116 htq269174 ht363881 (gB_w bp269176' (by decide) (by decide))) dr_cX17_graph_281 ⟨wr_10_174, wr_1_14, wr_10_177, by decide, rfl, (Nat.le_of_ble_eq_true rfl), (Nat.le_of_ble_eq_true rfl)⟩ wr_10_176 wr_p_96 hm366007 he366113 rfl (show 0 + 0 ≤ 0 by first | omega | decide) (show 0 + 0 ≤ 0 by first | omega | decide) (Nat.le_of_ble_eq_true rfl) (fun r366123 w366124 dc366120 ds366121 hp366122 => ?_) (fun _ _ _ _ _ z => z.elim)
                                      obtain ⟨F366127, rfl, rfl, hT366128, hs366129, hdc, hds, x366125, x366126⟩ := hp366122
                                      have he366130 : F366127 q269175 = .inr (18, [.ref q359614, .ref q359615, .int p359616, .int p359617]) := (hs366129 q269175 (rT0 htq269175 (by decide)) (rT1 htq269175 (by decide)) (rT2 htq269175 (by decide))).trans he366106
                                      have he366131 : F366127 q359614 = .inr (4, [.int p360875, .ref q360877, .int p360876]) := (hs366129 q359614 (rT0 ht359618 (by decide)) (rT1 ht359618 (by decide)) (rT2 ht359618 (by decide))).trans he366107
                                      have he366132 : F366127 q360877 = .inl (I (.object "java/lang/Object"), n360891, .inr (.inr (.inr (.inr f360892)))) := (hs366129 q360877 (rT0 r360883 (by decide)) (rT1 r360883 (by decide)) (rT2 r360883 (by decide))).trans he366108
                                      have he366133 : F366127 q360894 = .inr (17, [.ref q360903, .ref q360904, .int p360905, .int p360906]) := (hs366129 q360894 (rT0 ht360899 (by decide)) (rT1 ht360899 (by decide)) (rT2 ht360899 (by decide))).trans he366109
                                      have he366134 : F366127 q360903 = .inr (4, [.int p363859, .ref q363861, .int p363860]) := (hs366129 q360903 (rT0 ht360907 (by decide)) (rT1 ht360907 (by decide)) (rT2 ht360907 (by decide))).trans he366110
                                      have he366135 : F366127 q363861 = .inl (I (.object "java/lang/Object"), n363875, .inr (.inr (.inr (.inr f363876)))) := (hs366129 q363861 (rT0 r363867 (by decide)) (rT1 r363867 (by decide)) (rT2 r363867 (by decide))).trans he366111
                                      have he366136 : F366127 q363878 = .inr (20, [.int p363891, .int p363892, .int p363893, .int p363894, .int p363895, .int p363896, .int p363897]) := (hs366129 q363878 (rT0 ht363881 (by decide)) (rT1 ht363881 (by decide)) (rT2 ht363881 (by decide))).trans he366112
                                      have hs366137 : rStr γ [] F269173 F366127 := rStr_tr hs366117 hs366129
                                      have kp366138 : F366127 q269174 = F269173 q269174 := (x366125).trans kp366118
                                      have kp366139 : F366127 (γ 9 3) = F365990 (γ 9 3) := (x366126).trans kp366119
                                      have he366140 : F366127 q269174 = .inr (22, [.ref (γ 9 0), .ref (γ 9 1), .ref (γ 9 2), .ref (γ 9 3), .ref (γ 9 4), .ref (γ 9 5), .ref (γ 9 6), .ref (γ 9 7), .ref (γ 9 8), .int p366011, .int p366012, .int p366013, .int p366014, .int p366015, .int p366016, .ref (γ 9 15), .ref (γ 9 16), .ref (γ 9 17), .ref (γ 9 18), .ref (γ 9 19), .ref (γ 9 20), .ref (γ 9 21), .ref (γ 9 22), .int p366017, .int p366018, .int p366019, .int p366020, .int p366021, .ref q366009, .ref (γ 9 29), .int p366022, .ref (γ 9 31), .int p366023, .int p366024, .int p366025, .ref q366010]) := (x366125).trans he366113
                                      change G _ _ _ _ _ _ _ _ _ _ _
                                      refine G_widen (cs' := 0) (sl' := 0) (by omega) (by omega) ?_
                                      obtain ⟨z366141, hz366141⟩ : ∃ z : Int32, z = g363837 + Int32.ofInt (-1) := ⟨_, rfl⟩
                                      have ez366141 : z366141.toInt = g363837.toInt + (-1) := gI_inc hz366141 (by decide) bg363837' (by decide) (by decide)
                                      have bz366141 : gB z366141 (-1) 999998 := ⟨by omega, by omega⟩
                                      refine G_iinc (L' := [(5, .int z366141), (10, .int g365989), (9, .int 0), (8, .int p363893), (7, .int o363978), (6, .ref q363878), (4, .ref q360894), (3, .int g359603), (0, .ref q269174), (1, .ref q269175), (2, .int p269176)]) z366141 5 dr_cX17_graph_284 rfl hz366141.symm (Nat.le_of_ble_eq_true rfl) rfl ?_
                                      refine G_goto 109 dr_cX17_graph_287 (by decide +kernel) ?_
                                      refine G_lv (L' := [(5, .int z366141), (4, .ref q360894), (3, .int g359603), (0, .ref q269174), (1, .ref q269175), (2, .int p269176)]) [0, 6, 7, 8, 9, 10] rfl ?_
                                      exact ih109_363843 F366127 z366141 (gB_w bz366141 (by decide) (by decide)) hT366128 hs366137 (by omega) (fun h0 => by have z := (by rw [kp366139]; exact x365993) h0; rw [show ((g363837.toInt : Int).toNat : Nat) = (z366141.toInt + 1 : Int).toNat by omega] at z; exact z) kp366138 (by omega)
                                    · have r366142 : g365989.toInt < 32 := gj_nleL hc366005 (show Int32.toInt 32 = 32 by decide)
                                      have bg365989' : gB g365989 0 31 := ⟨by omega, by omega⟩
                                      refine G_aload_n 8 dr_cX17_graph_217 rfl ?_
                                      have hm366143 : q269174 ∈ P269172 := RS_m hT365991 htq269174 (by decide)
                                      obtain ⟨q366145, q366146, p366147, p366148, p366149, p366150, p366151, p366152, p366153, p366154, p366155, p366156, p366157, p366158, p366159, p366160, p366161, he366144, hB366188, ht366162, ht366163, ht366164, ht366165, ht366166, ht366167, ht366168, ht366169, ht366170, ht366171, ht366172, ht366173, ht366174, ht366175, ht366176, ht366177, ht366178, ht366179, ht366180, ht366181, ht366182, ht366183, ht366184, ht366185, hB366189⟩ := show rk_10 γ (F365990 q269174) from RS_o hT365991 htq269174
                                      refine Gp_get 1 hm366143 he366144 dr_cX17_graph_218 (gk_X17 D I) (Nat.le_of_ble_eq_true rfl) wr_7_75 rfl ?_
                                      refine G_iload 3 dr_cX17_graph_221 rfl ?_
                                      have hm366190 : (γ 9 1) ∈ P269172 := RS_m hT365991 ht366165 (by decide)
                                      obtain ⟨f366192, he366191, hg366193⟩ := show rk_13 I γ (F365990 (γ 9 1)) from RS_o hT365991 ht366165
                                      obtain ⟨q366194, hx366196⟩ : ∃ x, x = γ 11 o363978.toInt.toNat := ⟨_, rfl⟩
                                      have ht366195 : rKd γ q366194 36 := by rw [hx366196]; exact (hg366193 _ (show o363978.toInt.toNat < 2000 by omega)).2.1
                                      refine Gp_aald 5 hm366190 he366191 dr_cX17_graph_223 rfl rfl (gB_in bo363978' (by decide) (by decide)) ?_
                                      rw [show f366192 o363978.toNatClampNeg = some q366194 from (hg366193 _ (show o363978.toInt.toNat < 2000 by omega)).1.trans (by rw [hx366196])]
                                      change G _ _ _ _ _ _ _ (.ref q366194 :: _) _ _ _
                                      refine G_iload 0 dr_cX17_graph_224 rfl ?_
                                      refine G_dup2_11 dr_cX17_graph_226 rfl rfl ?_
                                      have hm366197 : q366194 ∈ P269172 := RS_m hT365991 ht366195 (by decide)
                                      obtain ⟨f366199, he366198, wf366199⟩ := show rk_36 I (F365990 q366194) from RS_o hT365991 ht366195
                                      refine Gp_lald 2 hm366197 he366198 dr_cX17_graph_227 rfl (gB_in bg365989' (by decide) (by decide)) (G_namL fun u366200 hu366200 => ?_)
                                      have qu366200 : lb_Q u366200 (2000 - 64 * g365989.toInt) := lb_Wld hu366200 wf366199 (by omega) (by omega) (lb_Mod0 (by omega) (by omega))
                                      refine G_aload_n 8 dr_cX17_graph_228 rfl ?_
                                      refine Gp_get 2 hm366143 he366144 dr_cX17_graph_229 (gk_X17 D I) (Nat.le_of_ble_eq_true rfl) wr_7_76 rfl ?_
                                      refine G_iload 0 dr_cX17_graph_232 rfl ?_
                                      have hm366201 : (γ 9 2) ∈ P269172 := RS_m hT365991 ht366166 (by decide)
                                      obtain ⟨f366203, he366202, wf366203⟩ := show rk_35 I (F365990 (γ 9 2)) from RS_o hT365991 ht366166
                                      refine Gp_lald 2 hm366201 he366202 dr_cX17_graph_234 rfl (gB_in bg365989' (by decide) (by decide)) (G_namL fun u366204 hu366204 => ?_)
                                      have qu366204 : lb_Q u366204 (2000 - 64 * g365989.toInt) := lb_Wld hu366204 wf366203 (by omega) (by omega) (lb_Mod0 (by omega) (by omega))
                                      refine G_lor dr_cX17_graph_235 (G_namL fun u366205 hu366205 => ?_)
                                      have qu366205 : lb_Q u366205 (2000 - 64 * g365989.toInt) := lb_Qor hu366205 qu366200 qu366204
                                      refine Gp_last 2 hm366197 he366198 dr_cX17_graph_236 rfl (gB_in bg365989' (by decide) (by decide)) (fun F366206 e366207 n366208 => ?_)
                                      obtain ⟨f366209, hf366209⟩ : ∃ z, z = vp_updL f366199 g365989.toNatClampNeg u366205 := ⟨_, rfl⟩
                                      rw [← hf366209] at e366207
                                      have he366210 : F366206 q269175 = .inr (18, [.ref q359614, .ref q359615, .int p359616, .int p359617]) := (n366208 q269175 (rn_oa he365997 he366198)).trans he365997
                                      have he366211 : F366206 q359614 = .inr (4, [.int p360875, .ref q360877, .int p360876]) := (n366208 q359614 (rn_oa he365998 he366198)).trans he365998
                                      have he366212 : F366206 q360877 = .inl (I (.object "java/lang/Object"), n360891, .inr (.inr (.inr (.inr f360892)))) := (n366208 q360877 (rn_ref_long he365999 he366198)).trans he365999
                                      have he366213 : F366206 q360894 = .inr (17, [.ref q360903, .ref q360904, .int p360905, .int p360906]) := (n366208 q360894 (rn_oa he366000 he366198)).trans he366000
                                      have he366214 : F366206 q360903 = .inr (4, [.int p363859, .ref q363861, .int p363860]) := (n366208 q360903 (rn_oa he366001 he366198)).trans he366001
                                      have he366215 : F366206 q363861 = .inl (I (.object "java/lang/Object"), n363875, .inr (.inr (.inr (.inr f363876)))) := (n366208 q363861 (rn_ref_long he366002 he366198)).trans he366002
                                      have he366216 : F366206 q363878 = .inr (20, [.int p363891, .int p363892, .int p363893, .int p363894, .int p363895, .int p363896, .int p363897]) := (n366208 q363878 (rn_oa he366003 he366198)).trans he366003
                                      have he366217 : F366206 q269174 = .inr (22, [.ref (γ 9 0), .ref (γ 9 1), .ref (γ 9 2), .ref (γ 9 3), .ref (γ 9 4), .ref (γ 9 5), .ref (γ 9 6), .ref (γ 9 7), .ref (γ 9 8), .int p366147, .int p366148, .int p366149, .int p366150, .int p366151, .int p366152, .ref (γ 9 15), .ref (γ 9 16), .ref (γ 9 17), .ref (γ 9 18), .ref (γ 9 19), .ref (γ 9 20), .ref (γ 9 21), .ref (γ 9 22), .int p366153, .int p366154, .int p366155, .int p366156, .int p366157, .ref q366145, .ref (γ 9 29), .int p366158, .ref (γ 9 31), .int p366159, .int p366160, .int p366161, .ref q366146]) := (n366208 q269174 (rn_oa he366144 he366198)).trans he366144
                                      have he366218 : F366206 (γ 9 1) = .inl (I (.array .long), 2000, .inr (.inr (.inr (.inr f366192)))) := (n366208 (γ 9 1) (rn_ref_long he366191 he366198)).trans he366191
                                      have he366219 : F366206 (γ 9 2) = .inl (I .long, 32, .inr (.inl f366203)) := (n366208 (γ 9 2) (rn_ty ht366166 ht366195 (by decide))).trans he366202
                                      have he366220 : F366206 q366194 = .inl (I .long, 32, .inr (.inl f366209)) := e366207
                                      have hs366221 : rStr γ [] F269173 F366206 := rStr_put hs365992 n366208 ht366195 (by decide)
                                      have kp366222 : F366206 q269174 = F269173 q269174 := (n366208 q269174 (rn_ty htq269174 ht366195 (by decide))).trans x365994
                                      have kp366223 : F366206 (γ 9 3) = F365990 (γ 9 3) := n366208 (γ 9 3) (rn_ty ht366167 ht366195 (by decide))
                                      have wf366209 : lb_W f366209 (32) (32) (2000) := lb_Wst hf366209 wf366199 (by omega) (lb_Mod0 (by omega) (by omega)) qu366205
                                      obtain ⟨z366224, hz366224⟩ : ∃ z : Int32, z = g365989 + Int32.ofInt 1 := ⟨_, rfl⟩
                                      have ez366224 : z366224.toInt = g365989.toInt + 1 := gI_inc hz366224 (by decide) bg365989' (by decide) (by decide)
                                      have bz366224 : gB z366224 1 32 := ⟨by omega, by omega⟩
                                      refine G_iinc (L' := [(10, .int z366224), (9, .int 0), (8, .int p363893), (7, .int o363978), (6, .ref q363878), (5, .int g363837), (4, .ref q360894), (3, .int g359603), (0, .ref q269174), (1, .ref q269175), (2, .int p269176)]) z366224 0 dr_cX17_graph_237 rfl hz366224.symm (Nat.le_of_ble_eq_true rfl) rfl ?_
                                      refine G_goto 210 dr_cX17_graph_240 (by decide +kernel) ?_
                                      have hT366225 : RS D I P269172 F366206 γ el := RS_set hT365991 n366208 ht366195 (by decide) ⟨f366209, he366220, wf366209⟩
                                      exact ih210_365994 F366206 z366224 (gB_w bz366224 (by decide) (by decide)) hT366225 hs366221 (by rw [kp366223]; exact x365993) kp366222 (by have qa0 : Int32.toInt 0 = 0 := (by decide); omega)
                                exact hlp210_365994 (((33 : Int) - 0).toNat + 1) F363956 0 (gB_w (gBl (show Int32.toInt 0 = 0 by decide)) (by decide) (by decide)) hT363957 hs363966 gr363972 kp363967 (Nat.lt_succ_self _)
                              · change G _ _ _ _ _ _ _ (.int 1 :: _) _ _ _
                                refine G_widen (cs' := 0) (sl' := 0) (by omega) (by omega) ?_
                                refine G_if_eq 204 dr_cX17_graph_197 (by decide +kernel) (fun hc => absurd hc (by decide)) (fun _ => ?_)
                                refine G_iconst 1 dr_cX17_graph_200 (by decide +kernel) ?_
                                refine G_goto 205 dr_cX17_graph_201 (by decide +kernel) ?_
                                refine G_istore (L' := [(9, .int 1), (8, .int p363893), (7, .int o363978), (6, .ref q363878), (5, .int g363837), (4, .ref q360894), (3, .int g359603), (0, .ref q269174), (1, .ref q269175), (2, .int p269176)]) dr_cX17_graph_205 (Nat.le_of_ble_eq_true rfl) rfl ?_
                                refine G_iconst 0 dr_cX17_graph_207 (by decide +kernel) ?_
                                refine G_istore (L' := [(10, .int 0), (9, .int 1), (8, .int p363893), (7, .int o363978), (6, .ref q363878), (5, .int g363837), (4, .ref q360894), (3, .int g359603), (0, .ref q269174), (1, .ref q269175), (2, .int p269176)]) dr_cX17_graph_208 (Nat.le_of_ble_eq_true rfl) rfl ?_
                                have hlp210_366434 : ∀ (n210_366434 : Nat) (F366430 : Nat → va_E) (g366429 : Int32), gB g366429 0 32 → RS D I P269172 F366430 γ el → rStr γ [] F269173 F366430 → (gIp (p269176.toInt = 0) (rGr γ el F269173 q269175 (γ 6 (γ 1 q269175)) (cB (F366430 (γ 9 3))) (vB (g359603.toInt : Int).toNat (g363837.toInt : Int).toNat))) → (F366430 q269174 = F269173 q269174) → ((33 : Int) - g366429.toInt).toNat < n210_366434 → G (gV D I) l (gRm 5 111 0 0) (gMA (gV D I) (pt_269178_SpillForgeModel_graph D I γ el P269172 F269173 q269174 q269175 p269176) gNA 0 0) ky_269178_SpillForgeModel_graph 210 [(10, .int g366429), (9, .int 1), (8, .int p363893), (7, .int o363978), (6, .ref q363878), (5, .int g363837), (4, .ref q360894), (3, .int g359603), (0, .ref q269174), (1, .ref q269175), (2, .int p269176)] [] (va_pl P269172 F366430) 0 0 := by
                                  intro n210_366434
                                  induction n210_366434 with
                                  | zero => intro F366430 g366429 bg366429 hT366431 hs366432 x366433 x366434 hm210_366434; exact absurd hm210_366434 (Nat.not_lt_zero _)
                                  | succ n210_366434 ih210_366434 =>
                                    intro F366430 g366429 bg366429 hT366431 hs366432 x366433 x366434 hm210_366434
                                    have hs366436 : rStr γ [] F363956 F366430 := fun b h0 hb hw => (hs366432 b h0 hb hw).trans (hs363966 b h0 hb hw).symm
                                    have he366437 : F366430 q269175 = .inr (18, [.ref q359614, .ref q359615, .int p359616, .int p359617]) := (hs366436 q269175 (rT0 htq269175 (by decide)) (rT1 htq269175 (by decide)) (rT2 htq269175 (by decide))).trans he363959
                                    have he366438 : F366430 q359614 = .inr (4, [.int p360875, .ref q360877, .int p360876]) := (hs366436 q359614 (rT0 ht359618 (by decide)) (rT1 ht359618 (by decide)) (rT2 ht359618 (by decide))).trans he363960
                                    have he366439 : F366430 q360877 = .inl (I (.object "java/lang/Object"), n360891, .inr (.inr (.inr (.inr f360892)))) := (hs366436 q360877 (rT0 r360883 (by decide)) (rT1 r360883 (by decide)) (rT2 r360883 (by decide))).trans he363961
                                    have he366440 : F366430 q360894 = .inr (17, [.ref q360903, .ref q360904, .int p360905, .int p360906]) := (hs366436 q360894 (rT0 ht360899 (by decide)) (rT1 ht360899 (by decide)) (rT2 ht360899 (by decide))).trans he363962
                                    have he366441 : F366430 q360903 = .inr (4, [.int p363859, .ref q363861, .int p363860]) := (hs366436 q360903 (rT0 ht360907 (by decide)) (rT1 ht360907 (by decide)) (rT2 ht360907 (by decide))).trans he363963
                                    have he366442 : F366430 q363861 = .inl (I (.object "java/lang/Object"), n363875, .inr (.inr (.inr (.inr f363876)))) := (hs366436 q363861 (rT0 r363867 (by decide)) (rT1 r363867 (by decide)) (rT2 r363867 (by decide))).trans he363964
                                    have he366443 : F366430 q363878 = .inr (20, [.int p363891, .int p363892, .int p363893, .int p363894, .int p363895, .int p363896, .int p363897]) := (hs366436 q363878 (rT0 ht363881 (by decide)) (rT1 ht363881 (by decide)) (rT2 ht363881 (by decide))).trans he363965
                                    have hs366444 : rStr γ [] F269173 F366430 := rStr_tr hs363966 hs366436
                                    refine G_iload 0 dr_cX17_graph_210 rfl ?_
                                    refine G_bipush 32 dr_cX17_graph_212 (by decide +kernel) ?_
                                    refine G_icmp_ge 243 dr_cX17_graph_214 (by decide +kernel) (fun hc366445 => ?_) (fun hc366445 => ?_)
                                    · have r366446 : 32 ≤ g366429.toInt := gj_leL hc366445 (show Int32.toInt 32 = 32 by decide)
                                      have bg366429' : gB g366429 32 32 := ⟨by omega, by omega⟩
                                      refine G_iload 2 dr_cX17_graph_243 rfl ?_
                                      refine G_if_lt 265 dr_cX17_graph_245 (by decide +kernel) (fun hc => absurd (show False by have := gj_lt hc (show Int32.toInt 0 = 0 by decide); omega) not_false) (fun _ => ?_)
                                      refine G_iload 1 dr_cX17_graph_248 rfl ?_
                                      refine G_if_ne 265 dr_cX17_graph_250 (by decide +kernel) (fun _ => ?_) (fun hc => absurd hc (by decide))
                                      refine G_aload_n 8 dr_cX17_graph_265 rfl ?_
                                      have hm366447 : q269174 ∈ P269172 := RS_m hT366431 htq269174 (by decide)
                                      obtain ⟨q366449, q366450, p366451, p366452, p366453, p366454, p366455, p366456, p366457, p366458, p366459, p366460, p366461, p366462, p366463, p366464, p366465, he366448, hB366492, ht366466, ht366467, ht366468, ht366469, ht366470, ht366471, ht366472, ht366473, ht366474, ht366475, ht366476, ht366477, ht366478, ht366479, ht366480, ht366481, ht366482, ht366483, ht366484, ht366485, ht366486, ht366487, ht366488, ht366489, hB366493⟩ := show rk_10 γ (F366430 q269174) from RS_o hT366431 htq269174
                                      refine Gp_get 1 hm366447 he366448 dr_cX17_graph_266 (gk_X17 D I) (Nat.le_of_ble_eq_true rfl) wr_7_75 rfl ?_
                                      refine G_iload 3 dr_cX17_graph_269 rfl ?_
                                      have hm366494 : (γ 9 1) ∈ P269172 := RS_m hT366431 ht366469 (by decide)
                                      obtain ⟨f366496, he366495, hg366497⟩ := show rk_13 I γ (F366430 (γ 9 1)) from RS_o hT366431 ht366469
                                      obtain ⟨q366498, hx366500⟩ : ∃ x, x = γ 11 o363978.toInt.toNat := ⟨_, rfl⟩
                                      have ht366499 : rKd γ q366498 36 := by rw [hx366500]; exact (hg366497 _ (show o363978.toInt.toNat < 2000 by omega)).2.1
                                      refine Gp_aald 5 hm366494 he366495 dr_cX17_graph_271 rfl rfl (gB_in bo363978' (by decide) (by decide)) ?_
                                      rw [show f366496 o363978.toNatClampNeg = some q366498 from (hg366497 _ (show o363978.toInt.toNat < 2000 by omega)).1.trans (by rw [hx366500])]
                                      change G _ _ _ _ _ _ _ (.ref q366498 :: _) _ _ _
                                      refine G_iload 3 dr_cX17_graph_272 rfl ?_
                                      have hm366501 : q366498 ∈ P269172 := RS_m hT366431 ht366499 (by decide)
                                      obtain ⟨f366503, he366502, wf366503⟩ := show rk_36 I (F366430 q366498) from RS_o hT366431 ht366499
                                      refine Gw_callS (As := [.ref q366498, .int o363978]) (gV_ok D I) (cp_1873_SpillForgeModel_clear l hl0 D I P269172 F366430 q366498 o363978 f366503 hm366501 he366502 bo363978' wf366503) dr_cX17_graph_274 ⟨wr_10_185, wr_1_14, wr_10_187, by decide, rfl, (Nat.le_of_ble_eq_true rfl), (Nat.le_of_ble_eq_true rfl)⟩ wr_10_186 (show 0 + 0 ≤ 0 by first | omega | decide) (show 0 + 0 ≤ 0 by first | omega | decide) (Nat.le_of_ble_eq_true rfl) (fun r366507 w366508 dc366504 ds366505 hp366506 => ?_) (fun _ _ _ _ _ z => z.elim)
                                      obtain ⟨F366511, f366509, rfl, rfl, hfr366513, he366514, hdc, hds, x366510⟩ := hp366506
                                      have he366515 : F366511 q269175 = .inr (18, [.ref q359614, .ref q359615, .int p359616, .int p359617]) := (hfr366513 q269175 hm359612 (nm_c (rn_oa he366437 he366502) nm_n)).trans he366437
                                      have he366516 : F366511 q359614 = .inr (4, [.int p360875, .ref q360877, .int p360876]) := (hfr366513 q359614 hm360873 (nm_c (rn_oa he366438 he366502) nm_n)).trans he366438
                                      have he366517 : F366511 q360877 = .inl (I (.object "java/lang/Object"), n360891, .inr (.inr (.inr (.inr f360892)))) := (hfr366513 q360877 hm360893 (nm_c (rn_ref_long he366439 he366502) nm_n)).trans he366439
                                      have he366518 : F366511 q360894 = .inr (17, [.ref q360903, .ref q360904, .int p360905, .int p360906]) := (hfr366513 q360894 hm360901 (nm_c (rn_oa he366440 he366502) nm_n)).trans he366440
                                      have he366519 : F366511 q360903 = .inr (4, [.int p363859, .ref q363861, .int p363860]) := (hfr366513 q360903 hm363857 (nm_c (rn_oa he366441 he366502) nm_n)).trans he366441
                                      have he366520 : F366511 q363861 = .inl (I (.object "java/lang/Object"), n363875, .inr (.inr (.inr (.inr f363876)))) := (hfr366513 q363861 hm363877 (nm_c (rn_ref_long he366442 he366502) nm_n)).trans he366442
                                      have he366521 : F366511 q363878 = .inr (20, [.int p363891, .int p363892, .int p363893, .int p363894, .int p363895, .int p363896, .int p363897]) := (hfr366513 q363878 hm363889 (nm_c (rn_oa he366443 he366502) nm_n)).trans he366443
                                      have he366522 : F366511 q269174 = .inr (22, [.ref (γ 9 0), .ref (γ 9 1), .ref (γ 9 2), .ref (γ 9 3), .ref (γ 9 4), .ref (γ 9 5), .ref (γ 9 6), .ref (γ 9 7), .ref (γ 9 8), .int p366451, .int p366452, .int p366453, .int p366454, .int p366455, .int p366456, .ref (γ 9 15), .ref (γ 9 16), .ref (γ 9 17), .ref (γ 9 18), .ref (γ 9 19), .ref (γ 9 20), .ref (γ 9 21), .ref (γ 9 22), .int p366457, .int p366458, .int p366459, .int p366460, .int p366461, .ref q366449, .ref (γ 9 29), .int p366462, .ref (γ 9 31), .int p366463, .int p366464, .int p366465, .ref q366450]) := (hfr366513 q269174 hm366447 (nm_c (rn_oa he366448 he366502) nm_n)).trans he366448
                                      have he366523 : F366511 (γ 9 1) = .inl (I (.array .long), 2000, .inr (.inr (.inr (.inr f366496)))) := (hfr366513 (γ 9 1) hm366494 (nm_c (rn_ref_long he366495 he366502) nm_n)).trans he366495
                                      have hfr366524 : rFr [q366498] P269172 F366430 F366511 := rFr_call (rSub_rf (P := P269172)) (rFr_rf (W := []) (P := P269172) (F := F366430)) hfr366513 (fun b hb hn => ⟨nm_n, (nm_c (fun e => hn (e ▸ List.mem_cons_self)) nm_n)⟩)
                                      change G _ _ _ _ _ _ _ _ _ _ _
                                      refine G_widen (cs' := 0) (sl' := 0) (by omega) (by omega) ?_
                                      have hT366525 : RS D I P269172 F366511 γ el := RS_fr hT366431 hfr366524 ht366499 (by decide) ⟨f366509, he366514, x366510⟩
                                      have hs366526 : rStr γ [] F269173 F366511 := rStr_fr hT366431 hs366432 hfr366524 ht366499 (by decide)
                                      have kp366527 : F366511 q269174 = F269173 q269174 := (hfr366524 q269174 (RS_m hT366431 htq269174 (by decide)) (nm_c (rn_ty htq269174 ht366499 (by decide)) nm_n)).trans x366434
                                      have kp366528 : F366511 (γ 9 3) = F366430 (γ 9 3) := hfr366524 (γ 9 3) (RS_m hT366431 ht366471 (by decide)) (nm_c (rn_ty ht366471 ht366499 (by decide)) nm_n)
                                      refine G_aload_n 8 dr_cX17_graph_277 rfl ?_
                                      refine G_aload 4 dr_cX17_graph_278 rfl ?_
                                      refine G_iload_n 10 dr_cX17_graph_280 rfl ?_
                                      refine Gw_callV (As := [.ref q363878, .int p269176]) (gV_ok D I) (ct_279840_SpillForgeModel_back l hl0 D I γ el P269172 F366511 q269174 q363878 p269176 hT366525 htq269174 ht363881 (gB_w bp269176' (by decide) (by decide))) dr_cX17_graph_281 ⟨wr_10_174, wr_1_14, wr_10_177, by decide, rfl, (Nat.le_of_ble_eq_true rfl), (Nat.le_of_ble_eq_true rfl)⟩ wr_10_176 wr_p_96 hm366447 he366522 rfl (show 0 + 0 ≤ 0 by first | omega | decide) (show 0 + 0 ≤ 0 by first | omega | decide) (Nat.le_of_ble_eq_true rfl) (fun r366532 w366533 dc366529 ds366530 hp366531 => ?_) (fun _ _ _ _ _ z => z.elim)
                                      obtain ⟨F366536, rfl, rfl, hT366537, hs366538, hdc, hds, x366534, x366535⟩ := hp366531
                                      have he366539 : F366536 q269175 = .inr (18, [.ref q359614, .ref q359615, .int p359616, .int p359617]) := (hs366538 q269175 (rT0 htq269175 (by decide)) (rT1 htq269175 (by decide)) (rT2 htq269175 (by decide))).trans he366515
                                      have he366540 : F366536 q359614 = .inr (4, [.int p360875, .ref q360877, .int p360876]) := (hs366538 q359614 (rT0 ht359618 (by decide)) (rT1 ht359618 (by decide)) (rT2 ht359618 (by decide))).trans he366516
                                      have he366541 : F366536 q360877 = .inl (I (.object "java/lang/Object"), n360891, .inr (.inr (.inr (.inr f360892)))) := (hs366538 q360877 (rT0 r360883 (by decide)) (rT1 r360883 (by decide)) (rT2 r360883 (by decide))).trans he366517
                                      have he366542 : F366536 q360894 = .inr (17, [.ref q360903, .ref q360904, .int p360905, .int p360906]) := (hs366538 q360894 (rT0 ht360899 (by decide)) (rT1 ht360899 (by decide)) (rT2 ht360899 (by decide))).trans he366518
                                      have he366543 : F366536 q360903 = .inr (4, [.int p363859, .ref q363861, .int p363860]) := (hs366538 q360903 (rT0 ht360907 (by decide)) (rT1 ht360907 (by decide)) (rT2 ht360907 (by decide))).trans he366519
                                      have he366544 : F366536 q363861 = .inl (I (.object "java/lang/Object"), n363875, .inr (.inr (.inr (.inr f363876)))) := (hs366538 q363861 (rT0 r363867 (by decide)) (rT1 r363867 (by decide)) (rT2 r363867 (by decide))).trans he366520
                                      have he366545 : F366536 q363878 = .inr (20, [.int p363891, .int p363892, .int p363893, .int p363894, .int p363895, .int p363896, .int p363897]) := (hs366538 q363878 (rT0 ht363881 (by decide)) (rT1 ht363881 (by decide)) (rT2 ht363881 (by decide))).trans he366521
                                      have hs366546 : rStr γ [] F269173 F366536 := rStr_tr hs366526 hs366538
                                      have kp366547 : F366536 q269174 = F269173 q269174 := (x366534).trans kp366527
                                      have kp366548 : F366536 (γ 9 3) = F366430 (γ 9 3) := (x366535).trans kp366528
                                      have he366549 : F366536 q269174 = .inr (22, [.ref (γ 9 0), .ref (γ 9 1), .ref (γ 9 2), .ref (γ 9 3), .ref (γ 9 4), .ref (γ 9 5), .ref (γ 9 6), .ref (γ 9 7), .ref (γ 9 8), .int p366451, .int p366452, .int p366453, .int p366454, .int p366455, .int p366456, .ref (γ 9 15), .ref (γ 9 16), .ref (γ 9 17), .ref (γ 9 18), .ref (γ 9 19), .ref (γ 9 20), .ref (γ 9 21), .ref (γ 9 22), .int p366457, .int p366458, .int p366459, .int p366460, .int p366461, .ref q366449, .ref (γ 9 29), .int p366462, .ref (γ 9 31), .int p366463, .int p366464, .int p366465, .ref q366450]) := (x366534).trans he366522
                                      change G _ _ _ _ _ _ _ _ _ _ _
                                      refine G_widen (cs' := 0) (sl' := 0) (by omega) (by omega) ?_
                                      obtain ⟨z366550, hz366550⟩ : ∃ z : Int32, z = g363837 + Int32.ofInt (-1) := ⟨_, rfl⟩
                                      have ez366550 : z366550.toInt = g363837.toInt + (-1) := gI_inc hz366550 (by decide) bg363837' (by decide) (by decide)
                                      have bz366550 : gB z366550 (-1) 999998 := ⟨by omega, by omega⟩
                                      refine G_iinc (L' := [(5, .int z366550), (10, .int g366429), (9, .int 1), (8, .int p363893), (7, .int o363978), (6, .ref q363878), (4, .ref q360894), (3, .int g359603), (0, .ref q269174), (1, .ref q269175), (2, .int p269176)]) z366550 5 dr_cX17_graph_284 rfl hz366550.symm (Nat.le_of_ble_eq_true rfl) rfl ?_
                                      refine G_goto 109 dr_cX17_graph_287 (by decide +kernel) ?_
                                      refine G_lv (L' := [(5, .int z366550), (4, .ref q360894), (3, .int g359603), (0, .ref q269174), (1, .ref q269175), (2, .int p269176)]) [0, 6, 7, 8, 9, 10] rfl ?_
                                      exact ih109_363843 F366536 z366550 (gB_w bz366550 (by decide) (by decide)) hT366537 hs366546 (by omega) (fun h0 => by have z := (by rw [kp366548]; exact x366433) h0; rw [show ((g363837.toInt : Int).toNat : Nat) = (z366550.toInt + 1 : Int).toNat by omega] at z; exact z) kp366547 (by omega)
                                    · have r366551 : g366429.toInt < 32 := gj_nleL hc366445 (show Int32.toInt 32 = 32 by decide)
                                      have bg366429' : gB g366429 0 31 := ⟨by omega, by omega⟩
                                      refine G_aload_n 8 dr_cX17_graph_217 rfl ?_
                                      have hm366552 : q269174 ∈ P269172 := RS_m hT366431 htq269174 (by decide)
                                      obtain ⟨q366554, q366555, p366556, p366557, p366558, p366559, p366560, p366561, p366562, p366563, p366564, p366565, p366566, p366567, p366568, p366569, p366570, he366553, hB366597, ht366571, ht366572, ht366573, ht366574, ht366575, ht366576, ht366577, ht366578, ht366579, ht366580, ht366581, ht366582, ht366583, ht366584, ht366585, ht366586, ht366587, ht366588, ht366589, ht366590, ht366591, ht366592, ht366593, ht366594, hB366598⟩ := show rk_10 γ (F366430 q269174) from RS_o hT366431 htq269174
                                      refine Gp_get 1 hm366552 he366553 dr_cX17_graph_218 (gk_X17 D I) (Nat.le_of_ble_eq_true rfl) wr_7_75 rfl ?_
                                      refine G_iload 3 dr_cX17_graph_221 rfl ?_
                                      have hm366599 : (γ 9 1) ∈ P269172 := RS_m hT366431 ht366574 (by decide)
                                      obtain ⟨f366601, he366600, hg366602⟩ := show rk_13 I γ (F366430 (γ 9 1)) from RS_o hT366431 ht366574
                                      obtain ⟨q366603, hx366605⟩ : ∃ x, x = γ 11 o363978.toInt.toNat := ⟨_, rfl⟩
                                      have ht366604 : rKd γ q366603 36 := by rw [hx366605]; exact (hg366602 _ (show o363978.toInt.toNat < 2000 by omega)).2.1
                                      refine Gp_aald 5 hm366599 he366600 dr_cX17_graph_223 rfl rfl (gB_in bo363978' (by decide) (by decide)) ?_
                                      rw [show f366601 o363978.toNatClampNeg = some q366603 from (hg366602 _ (show o363978.toInt.toNat < 2000 by omega)).1.trans (by rw [hx366605])]
                                      change G _ _ _ _ _ _ _ (.ref q366603 :: _) _ _ _
                                      refine G_iload 0 dr_cX17_graph_224 rfl ?_
                                      refine G_dup2_11 dr_cX17_graph_226 rfl rfl ?_
                                      have hm366606 : q366603 ∈ P269172 := RS_m hT366431 ht366604 (by decide)
                                      obtain ⟨f366608, he366607, wf366608⟩ := show rk_36 I (F366430 q366603) from RS_o hT366431 ht366604
                                      refine Gp_lald 2 hm366606 he366607 dr_cX17_graph_227 rfl (gB_in bg366429' (by decide) (by decide)) (G_namL fun u366609 hu366609 => ?_)
                                      have qu366609 : lb_Q u366609 (2000 - 64 * g366429.toInt) := lb_Wld hu366609 wf366608 (by omega) (by omega) (lb_Mod0 (by omega) (by omega))
                                      refine G_aload_n 8 dr_cX17_graph_228 rfl ?_
                                      refine Gp_get 2 hm366552 he366553 dr_cX17_graph_229 (gk_X17 D I) (Nat.le_of_ble_eq_true rfl) wr_7_76 rfl ?_
                                      refine G_iload 0 dr_cX17_graph_232 rfl ?_
                                      have hm366610 : (γ 9 2) ∈ P269172 := RS_m hT366431 ht366575 (by decide)
                                      obtain ⟨f366612, he366611, wf366612⟩ := show rk_35 I (F366430 (γ 9 2)) from RS_o hT366431 ht366575
                                      refine Gp_lald 2 hm366610 he366611 dr_cX17_graph_234 rfl (gB_in bg366429' (by decide) (by decide)) (G_namL fun u366613 hu366613 => ?_)
                                      have qu366613 : lb_Q u366613 (2000 - 64 * g366429.toInt) := lb_Wld hu366613 wf366612 (by omega) (by omega) (lb_Mod0 (by omega) (by omega))
                                      refine G_lor dr_cX17_graph_235 (G_namL fun u366614 hu366614 => ?_)
                                      have qu366614 : lb_Q u366614 (2000 - 64 * g366429.toInt) := lb_Qor hu366614 qu366609 qu366613
                                      refine Gp_last 2 hm366606 he366607 dr_cX17_graph_236 rfl (gB_in bg366429' (by decide) (by decide)) (fun F366615 e366616 n366617 => ?_)
                                      obtain ⟨f366618, hf366618⟩ : ∃ z, z = vp_updL f366608 g366429.toNatClampNeg u366614 := ⟨_, rfl⟩
                                      rw [← hf366618] at e366616
                                      have he366619 : F366615 q269175 = .inr (18, [.ref q359614, .ref q359615, .int p359616, .int p359617]) := (n366617 q269175 (rn_oa he366437 he366607)).trans he366437
                                      have he366620 : F366615 q359614 = .inr (4, [.int p360875, .ref q360877, .int p360876]) := (n366617 q359614 (rn_oa he366438 he366607)).trans he366438
                                      have he366621 : F366615 q360877 = .inl (I (.object "java/lang/Object"), n360891, .inr (.inr (.inr (.inr f360892)))) := (n366617 q360877 (rn_ref_long he366439 he366607)).trans he366439
                                      have he366622 : F366615 q360894 = .inr (17, [.ref q360903, .ref q360904, .int p360905, .int p360906]) := (n366617 q360894 (rn_oa he366440 he366607)).trans he366440
                                      have he366623 : F366615 q360903 = .inr (4, [.int p363859, .ref q363861, .int p363860]) := (n366617 q360903 (rn_oa he366441 he366607)).trans he366441
                                      have he366624 : F366615 q363861 = .inl (I (.object "java/lang/Object"), n363875, .inr (.inr (.inr (.inr f363876)))) := (n366617 q363861 (rn_ref_long he366442 he366607)).trans he366442
                                      have he366625 : F366615 q363878 = .inr (20, [.int p363891, .int p363892, .int p363893, .int p363894, .int p363895, .int p363896, .int p363897]) := (n366617 q363878 (rn_oa he366443 he366607)).trans he366443
                                      have he366626 : F366615 q269174 = .inr (22, [.ref (γ 9 0), .ref (γ 9 1), .ref (γ 9 2), .ref (γ 9 3), .ref (γ 9 4), .ref (γ 9 5), .ref (γ 9 6), .ref (γ 9 7), .ref (γ 9 8), .int p366556, .int p366557, .int p366558, .int p366559, .int p366560, .int p366561, .ref (γ 9 15), .ref (γ 9 16), .ref (γ 9 17), .ref (γ 9 18), .ref (γ 9 19), .ref (γ 9 20), .ref (γ 9 21), .ref (γ 9 22), .int p366562, .int p366563, .int p366564, .int p366565, .int p366566, .ref q366554, .ref (γ 9 29), .int p366567, .ref (γ 9 31), .int p366568, .int p366569, .int p366570, .ref q366555]) := (n366617 q269174 (rn_oa he366553 he366607)).trans he366553
                                      have he366627 : F366615 (γ 9 1) = .inl (I (.array .long), 2000, .inr (.inr (.inr (.inr f366601)))) := (n366617 (γ 9 1) (rn_ref_long he366600 he366607)).trans he366600
                                      have he366628 : F366615 (γ 9 2) = .inl (I .long, 32, .inr (.inl f366612)) := (n366617 (γ 9 2) (rn_ty ht366575 ht366604 (by decide))).trans he366611
                                      have he366629 : F366615 q366603 = .inl (I .long, 32, .inr (.inl f366618)) := e366616
                                      have hs366630 : rStr γ [] F269173 F366615 := rStr_put hs366432 n366617 ht366604 (by decide)
                                      have kp366631 : F366615 q269174 = F269173 q269174 := (n366617 q269174 (rn_ty htq269174 ht366604 (by decide))).trans x366434
                                      have kp366632 : F366615 (γ 9 3) = F366430 (γ 9 3) := n366617 (γ 9 3) (rn_ty ht366576 ht366604 (by decide))
                                      have wf366618 : lb_W f366618 (32) (32) (2000) := lb_Wst hf366618 wf366608 (by omega) (lb_Mod0 (by omega) (by omega)) qu366614
                                      obtain ⟨z366633, hz366633⟩ : ∃ z : Int32, z = g366429 + Int32.ofInt 1 := ⟨_, rfl⟩
                                      have ez366633 : z366633.toInt = g366429.toInt + 1 := gI_inc hz366633 (by decide) bg366429' (by decide) (by decide)
                                      have bz366633 : gB z366633 1 32 := ⟨by omega, by omega⟩
                                      refine G_iinc (L' := [(10, .int z366633), (9, .int 1), (8, .int p363893), (7, .int o363978), (6, .ref q363878), (5, .int g363837), (4, .ref q360894), (3, .int g359603), (0, .ref q269174), (1, .ref q269175), (2, .int p269176)]) z366633 0 dr_cX17_graph_237 rfl hz366633.symm (Nat.le_of_ble_eq_true rfl) rfl ?_
                                      refine G_goto 210 dr_cX17_graph_240 (by decide +kernel) ?_
                                      have hT366634 : RS D I P269172 F366615 γ el := RS_set hT366431 n366617 ht366604 (by decide) ⟨f366618, he366629, wf366618⟩
                                      exact ih210_366434 F366615 z366633 (gB_w bz366633 (by decide) (by decide)) hT366634 hs366630 (by rw [kp366632]; exact x366433) kp366631 (by have qa0 : Int32.toInt 1 = 1 := (by decide); omega)
                                exact hlp210_366434 (((33 : Int) - 0).toNat + 1) F363956 0 (gB_w (gBl (show Int32.toInt 0 = 0 by decide)) (by decide) (by decide)) hT363957 hs363966 gr363972 kp363967 (Nat.lt_succ_self _)
              exact hlp109_363843 (((z361042.toInt : Int) - (-2)).toNat + 1) F361015 z361042 bz361042 hT361016 hs361022 (by omega) (fun h0 => by have z := (by rw [kp361024]; exact gr361007) h0; rw [show (γ 2 q360903 : Nat) = (z361042.toInt + 1 : Int).toNat by omega] at z; exact z) kp361023 (Nat.lt_succ_self _)
        exact hlp56_359608 (((1000001 : Int) - 0).toNat + 1) F352564 0 (gB_w (gBl (show Int32.toInt 0 = 0 by decide)) (by decide) (by decide)) hT352565 hs352566 (fun _ => gq_0 (fun m hm => x352567 m (by omega))) x352568 (Nat.lt_succ_self _)
      · have r366635 : g352563.toInt < 2000 := gj_nleL hc352572 (show Int32.toInt 2000 = 2000 by decide)
        have bg352563' : gB g352563 0 1999 := ⟨by omega, by omega⟩
        refine G_aload_n 1 dr_cX17_graph_15 rfl ?_
        have hm366636 : q269174 ∈ P269172 := RS_m hT352565 htq269174 (by decide)
        obtain ⟨q366638, q366639, p366640, p366641, p366642, p366643, p366644, p366645, p366646, p366647, p366648, p366649, p366650, p366651, p366652, p366653, p366654, he366637, hB366681, ht366655, ht366656, ht366657, ht366658, ht366659, ht366660, ht366661, ht366662, ht366663, ht366664, ht366665, ht366666, ht366667, ht366668, ht366669, ht366670, ht366671, ht366672, ht366673, ht366674, ht366675, ht366676, ht366677, ht366678, hB366682⟩ := show rk_10 γ (F352564 q269174) from RS_o hT352565 htq269174
        refine Gp_get 3 hm366636 he366637 dr_cX17_graph_16 (gk_X17 D I) (Nat.le_of_ble_eq_true rfl) wr_7_77 rfl ?_
        refine G_iload_n 0 dr_cX17_graph_19 rfl ?_
        refine G_iconst 0 dr_cX17_graph_20 (by decide +kernel) ?_
        have hm366683 : (γ 9 3) ∈ P269172 := RS_m hT352565 ht366660 (by decide)
        obtain ⟨f366685, he366684, bf366685⟩ := show rk_14 I (F352564 (γ 9 3)) from RS_o hT352565 ht366660
        refine Gp_zast 3 hm366683 he366684 dr_cX17_graph_21 rfl (gB_in bg352563' (by decide) (by decide)) (fun F366686 e366687 n366688 => ?_)
        obtain ⟨f366689, hf366689⟩ : ∃ z, z = upd f366685 g352563.toNatClampNeg (vp_nar .boolean 0) := ⟨_, rfl⟩
        rw [← hf366689] at e366687
        have he366690 : F366686 q269174 = .inr (22, [.ref (γ 9 0), .ref (γ 9 1), .ref (γ 9 2), .ref (γ 9 3), .ref (γ 9 4), .ref (γ 9 5), .ref (γ 9 6), .ref (γ 9 7), .ref (γ 9 8), .int p366640, .int p366641, .int p366642, .int p366643, .int p366644, .int p366645, .ref (γ 9 15), .ref (γ 9 16), .ref (γ 9 17), .ref (γ 9 18), .ref (γ 9 19), .ref (γ 9 20), .ref (γ 9 21), .ref (γ 9 22), .int p366646, .int p366647, .int p366648, .int p366649, .int p366650, .ref q366638, .ref (γ 9 29), .int p366651, .ref (γ 9 31), .int p366652, .int p366653, .int p366654, .ref q366639]) := (n366688 q269174 (rn_oa he366637 he366684)).trans he366637
        have he366691 : F366686 (γ 9 3) = .inl (I .boolean, 2000, .inl f366689) := e366687
        have hs366692 : rStr γ [] F269173 F366686 := rStr_put hs352566 n366688 ht366660 (by decide)
        have kp366693 : F366686 q269174 = F269173 q269174 := (n366688 q269174 (rn_ty htq269174 ht366660 (by decide))).trans x352568
        have bf366689 : gF f366689 0 1 := gF_upd hf366689 bf366685 (gB_w (gBl (show Int32.toInt 0 = 0 by decide)) (by decide) (by decide))
        refine G_iconst 0 dr_cX17_graph_22 (by decide +kernel) ?_
        refine G_istore (L' := [(4, .int 0), (3, .int g352563), (0, .ref q269174), (1, .ref q269175), (2, .int p269176)]) dr_cX17_graph_23 (Nat.le_of_ble_eq_true rfl) rfl ?_
        have hT366694 : RS D I P269172 F366686 γ el := RS_set hT352565 n366688 ht366660 (by decide) ⟨f366689, he366691, bf366689⟩
        have hlp25_366779 : ∀ (n25_366779 : Nat) (F366775 : Nat → va_E) (g366774 : Int32), gB g366774 0 32 → RS D I P269172 F366775 γ el → rStr γ [] F269173 F366775 → (∀ n : Nat, (n : Int) < g352563.toInt + 1 → ¬ rSd (cB (F366775 (γ 9 3))) n) → (F366775 q269174 = F269173 q269174) → ((33 : Int) - g366774.toInt).toNat < n25_366779 → G (gV D I) l (gRm 5 111 0 0) (gMA (gV D I) (pt_269178_SpillForgeModel_graph D I γ el P269172 F269173 q269174 q269175 p269176) gNA 0 0) ky_269178_SpillForgeModel_graph 25 [(4, .int g366774), (3, .int g352563), (0, .ref q269174), (1, .ref q269175), (2, .int p269176)] [] (va_pl P269172 F366775) 0 0 := by
          intro n25_366779
          induction n25_366779 with
          | zero => intro F366775 g366774 bg366774 hT366776 hs366777 x366778 x366779 hm25_366779; exact absurd hm25_366779 (Nat.not_lt_zero _)
          | succ n25_366779 ih25_366779 =>
            intro F366775 g366774 bg366774 hT366776 hs366777 x366778 x366779 hm25_366779
            have hs366781 : rStr γ [] F366686 F366775 := fun b h0 hb hw => (hs366777 b h0 hb hw).trans (hs366692 b h0 hb hw).symm
            have hs366782 : rStr γ [] F269173 F366775 := rStr_tr hs366692 hs366781
            refine G_iload 0 dr_cX17_graph_25 rfl ?_
            refine G_bipush 32 dr_cX17_graph_27 (by decide +kernel) ?_
            refine G_icmp_ge 48 dr_cX17_graph_29 (by decide +kernel) (fun hc366783 => ?_) (fun hc366783 => ?_)
            · have r366784 : 32 ≤ g366774.toInt := gj_leL hc366783 (show Int32.toInt 32 = 32 by decide)
              have bg366774' : gB g366774 32 32 := ⟨by omega, by omega⟩
              obtain ⟨z366785, hz366785⟩ : ∃ z : Int32, z = g352563 + Int32.ofInt 1 := ⟨_, rfl⟩
              have ez366785 : z366785.toInt = g352563.toInt + 1 := gI_inc hz366785 (by decide) bg352563' (by decide) (by decide)
              have bz366785 : gB z366785 1 2000 := ⟨by omega, by omega⟩
              refine G_iinc (L' := [(3, .int z366785), (4, .int g366774), (0, .ref q269174), (1, .ref q269175), (2, .int p269176)]) z366785 1 dr_cX17_graph_48 rfl hz366785.symm (Nat.le_of_ble_eq_true rfl) rfl ?_
              refine G_goto 8 dr_cX17_graph_51 (by decide +kernel) ?_
              refine G_lv (L' := [(3, .int z366785), (0, .ref q269174), (1, .ref q269175), (2, .int p269176)]) [0, 2, 3, 4] rfl ?_
              exact ih8_352568 F366775 z366785 (gB_w bz366785 (by decide) (by decide)) hT366776 hs366777 (by rw [ez366785]; exact x366778) x366779 (by omega)
            · have r366786 : g366774.toInt < 32 := gj_nleL hc366783 (show Int32.toInt 32 = 32 by decide)
              have bg366774' : gB g366774 0 31 := ⟨by omega, by omega⟩
              refine G_aload_n 2 dr_cX17_graph_32 rfl ?_
              have hm366787 : q269174 ∈ P269172 := RS_m hT366776 htq269174 (by decide)
              obtain ⟨q366789, q366790, p366791, p366792, p366793, p366794, p366795, p366796, p366797, p366798, p366799, p366800, p366801, p366802, p366803, p366804, p366805, he366788, hB366832, ht366806, ht366807, ht366808, ht366809, ht366810, ht366811, ht366812, ht366813, ht366814, ht366815, ht366816, ht366817, ht366818, ht366819, ht366820, ht366821, ht366822, ht366823, ht366824, ht366825, ht366826, ht366827, ht366828, ht366829, hB366833⟩ := show rk_10 γ (F366775 q269174) from RS_o hT366776 htq269174
              refine Gp_get 1 hm366787 he366788 dr_cX17_graph_33 (gk_X17 D I) (Nat.le_of_ble_eq_true rfl) wr_7_75 rfl ?_
              refine G_iload_n 1 dr_cX17_graph_36 rfl ?_
              have hm366834 : (γ 9 1) ∈ P269172 := RS_m hT366776 ht366809 (by decide)
              obtain ⟨f366836, he366835, hg366837⟩ := show rk_13 I γ (F366775 (γ 9 1)) from RS_o hT366776 ht366809
              obtain ⟨q366838, hx366840⟩ : ∃ x, x = γ 11 g352563.toInt.toNat := ⟨_, rfl⟩
              have ht366839 : rKd γ q366838 36 := by rw [hx366840]; exact (hg366837 _ (show g352563.toInt.toNat < 2000 by omega)).2.1
              refine Gp_aald 5 hm366834 he366835 dr_cX17_graph_37 rfl rfl (gB_in bg352563' (by decide) (by decide)) ?_
              rw [show f366836 g352563.toNatClampNeg = some q366838 from (hg366837 _ (show g352563.toInt.toNat < 2000 by omega)).1.trans (by rw [hx366840])]
              change G _ _ _ _ _ _ _ (.ref q366838 :: _) _ _ _
              refine G_iload 0 dr_cX17_graph_38 rfl ?_
              refine G_lconst 0 dr_cX17_graph_40 rfl ?_
              have hm366841 : q366838 ∈ P269172 := RS_m hT366776 ht366839 (by decide)
              obtain ⟨f366843, he366842, wf366843⟩ := show rk_36 I (F366775 q366838) from RS_o hT366776 ht366839
              refine Gp_last 2 hm366841 he366842 dr_cX17_graph_41 rfl (gB_in bg366774' (by decide) (by decide)) (fun F366844 e366845 n366846 => ?_)
              obtain ⟨f366847, hf366847⟩ : ∃ z, z = vp_updL f366843 g366774.toNatClampNeg 0 := ⟨_, rfl⟩
              rw [← hf366847] at e366845
              have he366848 : F366844 q269174 = .inr (22, [.ref (γ 9 0), .ref (γ 9 1), .ref (γ 9 2), .ref (γ 9 3), .ref (γ 9 4), .ref (γ 9 5), .ref (γ 9 6), .ref (γ 9 7), .ref (γ 9 8), .int p366791, .int p366792, .int p366793, .int p366794, .int p366795, .int p366796, .ref (γ 9 15), .ref (γ 9 16), .ref (γ 9 17), .ref (γ 9 18), .ref (γ 9 19), .ref (γ 9 20), .ref (γ 9 21), .ref (γ 9 22), .int p366797, .int p366798, .int p366799, .int p366800, .int p366801, .ref q366789, .ref (γ 9 29), .int p366802, .ref (γ 9 31), .int p366803, .int p366804, .int p366805, .ref q366790]) := (n366846 q269174 (rn_oa he366788 he366842)).trans he366788
              have he366849 : F366844 (γ 9 1) = .inl (I (.array .long), 2000, .inr (.inr (.inr (.inr f366836)))) := (n366846 (γ 9 1) (rn_ref_long he366835 he366842)).trans he366835
              have he366850 : F366844 q366838 = .inl (I .long, 32, .inr (.inl f366847)) := e366845
              have hs366851 : rStr γ [] F269173 F366844 := rStr_put hs366777 n366846 ht366839 (by decide)
              have kp366852 : F366844 q269174 = F269173 q269174 := (n366846 q269174 (rn_ty htq269174 ht366839 (by decide))).trans x366779
              have kp366853 : F366844 (γ 9 3) = F366775 (γ 9 3) := n366846 (γ 9 3) (rn_ty ht366811 ht366839 (by decide))
              have wf366847 : lb_W f366847 (32) (32) (2000) := lb_Wst hf366847 wf366843 (by omega) (lb_Mod0 (by omega) (by omega)) lb_Q0
              obtain ⟨z366854, hz366854⟩ : ∃ z : Int32, z = g366774 + Int32.ofInt 1 := ⟨_, rfl⟩
              have ez366854 : z366854.toInt = g366774.toInt + 1 := gI_inc hz366854 (by decide) bg366774' (by decide) (by decide)
              have bz366854 : gB z366854 1 32 := ⟨by omega, by omega⟩
              refine G_iinc (L' := [(4, .int z366854), (3, .int g352563), (0, .ref q269174), (1, .ref q269175), (2, .int p269176)]) z366854 0 dr_cX17_graph_42 rfl hz366854.symm (Nat.le_of_ble_eq_true rfl) rfl ?_
              refine G_goto 25 dr_cX17_graph_45 (by decide +kernel) ?_
              have hT366855 : RS D I P269172 F366844 γ el := RS_set hT366776 n366846 ht366839 (by decide) ⟨f366847, he366850, wf366847⟩
              exact ih25_366779 F366844 z366854 (gB_w bz366854 (by decide) (by decide)) hT366855 hs366851 (by rw [kp366853]; exact x366778) kp366852 (by omega)
        exact hlp25_366779 (((33 : Int) - 0).toNat + 1) F366686 0 (gB_w (gBl (show Int32.toInt 0 = 0 by decide)) (by decide) (by decide)) hT366694 hs366692 (by rw [cB_of he366691]; exact sd_z hf366689 (by omega) (by have q := x352567; rw [cB_of he366684] at q; exact q)) kp366693 (Nat.lt_succ_self _)
  exact hlp8_352568 (((2001 : Int) - 0).toNat + 1) F269232 0 (gB_w (gBl (show Int32.toInt 0 = 0 by decide)) (by decide) (by decide)) hT269233 hs269235 (fun n hn => absurd hn (by have qa : Int32.toInt 0 = 0 := (by decide); omega)) kp269236 (Nat.lt_succ_self _)
