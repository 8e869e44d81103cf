theorem dr_cX17_graph_0 : decode cX17_graph 0 = .ok (.aload_n 0, 1) := by decide +kernel
theorem dr_cX17_graph_1 : decode cX17_graph 1 = .ok (.aload_n 1, 1) := by decide +kernel
theorem dr_cX17_graph_2 : decode cX17_graph 2 = .ok (.iload_n 2, 1) := by decide +kernel
theorem dr_cX17_graph_3 : decode cX17_graph 3 = .ok (.invokevirtual 127, 3) := by decide +kernel
theorem wr_10_156 : (Jvm.Cond.methodLink "SpillForgeModel" (127 : Nat) ({ cls := "SpillForgeModel", name := "findLive", desc := "(LSpillForgeModel$Code;Z)V" } : Jvm.MethodName)) ∈ gw := gw_10 156 rfl rfl
theorem wr_10_159 : (Jvm.Cond.code ({ cls := "SpillForgeModel", name := "findLive", desc := "(LSpillForgeModel$Code;Z)V" } : Jvm.MethodName) prog_14_method_9_code (7 : Nat) (Option.none : Option Jvm.ClassFile.FieldType)) ∈ gw := gw_10 159 rfl rfl
theorem wr_10_158 : (Jvm.Cond.instanceMethod ({ cls := "SpillForgeModel", name := "findLive", desc := "(LSpillForgeModel$Code;Z)V" } : Jvm.MethodName)) ∈ gw := gw_10 158 rfl rfl
theorem wr_p_94 : Cond.selects "SpillForgeModel" ⟨"SpillForgeModel", "findLive", "(LSpillForgeModel$Code;Z)V"⟩ ⟨"SpillForgeModel", "findLive", "(LSpillForgeModel$Code;Z)V"⟩ ∈ gw := gw_p _ 94 rfl rfl rfl
theorem dr_cX17_graph_6 : decode cX17_graph 6 = .ok (.iconst 0, 1) := by decide +kernel
theorem dr_cX17_graph_7 : decode cX17_graph 7 = .ok (.istore_n 3, 1) := by decide +kernel
theorem dr_cX17_graph_8 : decode cX17_graph 8 = .ok (.iload_n 3, 1) := by decide +kernel
theorem dr_cX17_graph_9 : decode cX17_graph 9 = .ok (.sipush 2000, 3) := by decide +kernel
theorem dr_cX17_graph_12 : decode cX17_graph 12 = .ok (.if_icmp .ge 42, 3) := by decide +kernel
theorem dr_cX17_graph_54 : decode cX17_graph 54 = .ok (.iconst 0, 1) := by decide +kernel
theorem dr_cX17_graph_55 : decode cX17_graph 55 = .ok (.istore_n 3, 1) := by decide +kernel
theorem dr_cX17_graph_56 : decode cX17_graph 56 = .ok (.iload_n 3, 1) := by decide +kernel
theorem dr_cX17_graph_57 : decode cX17_graph 57 = .ok (.aload_n 1, 1) := by decide +kernel
theorem dr_cX17_graph_58 : decode cX17_graph 58 = .ok (.invokevirtual 96, 3) := by decide +kernel
theorem dr_cX17_graph_61 : decode cX17_graph 61 = .ok (.if_icmp .ge 235, 3) := by decide +kernel
theorem dr_cX17_graph_296 : decode cX17_graph 296 = .ok (.iconst 0, 1) := by decide +kernel
theorem dr_cX17_graph_297 : decode cX17_graph 297 = .ok (.istore_n 3, 1) := by decide +kernel
theorem dr_cX17_graph_298 : decode cX17_graph 298 = .ok (.iload_n 3, 1) := by decide +kernel
theorem dr_cX17_graph_299 : decode cX17_graph 299 = .ok (.sipush 2000, 3) := by decide +kernel
theorem dr_cX17_graph_302 : decode cX17_graph 302 = .ok (.if_icmp .ge 87, 3) := by decide +kernel
theorem dr_cX17_graph_389 : decode cX17_graph 389 = .ok (.return_, 1) := by decide +kernel
theorem dr_cX17_graph_305 : decode cX17_graph 305 = .ok (.aload_n 0, 1) := by decide +kernel
theorem dr_cX17_graph_306 : decode cX17_graph 306 = .ok (.getfield 131, 3) := by decide +kernel
theorem dr_cX17_graph_309 : decode cX17_graph 309 = .ok (.iload_n 3, 1) := by decide +kernel
theorem dr_cX17_graph_310 : decode cX17_graph 310 = .ok (.baload, 1) := by decide +kernel
theorem dr_cX17_graph_311 : decode cX17_graph 311 = .ok (.ifCond .ne 6, 3) := by decide +kernel
theorem dr_cX17_graph_317 : decode cX17_graph 317 = .ok (.iconst 0, 1) := by decide +kernel
theorem dr_cX17_graph_318 : decode cX17_graph 318 = .ok (.istore 4, 2) := by decide +kernel
theorem dr_cX17_graph_320 : decode cX17_graph 320 = .ok (.iload 4, 2) := by decide +kernel
theorem dr_cX17_graph_322 : decode cX17_graph 322 = .ok (.bipush 32, 2) := by decide +kernel
theorem dr_cX17_graph_324 : decode cX17_graph 324 = .ok (.if_icmp .ge 59, 3) := by decide +kernel
theorem dr_cX17_graph_383 : decode cX17_graph 383 = .ok (.iinc 3 1, 3) := by decide +kernel
theorem dr_cX17_graph_386 : decode cX17_graph 386 = .ok (.goto (-88), 3) := by decide +kernel
theorem dr_cX17_graph_327 : decode cX17_graph 327 = .ok (.aload_n 0, 1) := by decide +kernel
theorem dr_cX17_graph_328 : decode cX17_graph 328 = .ok (.getfield 135, 3) := by decide +kernel
theorem dr_cX17_graph_331 : decode cX17_graph 331 = .ok (.iload_n 3, 1) := by decide +kernel
theorem dr_cX17_graph_332 : decode cX17_graph 332 = .ok (.aaload, 1) := by decide +kernel
theorem dr_cX17_graph_333 : decode cX17_graph 333 = .ok (.iload 4, 2) := by decide +kernel
theorem dr_cX17_graph_335 : decode cX17_graph 335 = .ok (.laload, 1) := by decide +kernel
theorem dr_cX17_graph_336 : decode cX17_graph 336 = .ok (.lstore 5, 2) := by decide +kernel
theorem dr_cX17_graph_338 : decode cX17_graph 338 = .ok (.lload 5, 2) := by decide +kernel
theorem dr_cX17_graph_340 : decode cX17_graph 340 = .ok (.lconst 0, 1) := by decide +kernel
theorem dr_cX17_graph_341 : decode cX17_graph 341 = .ok (.lcmp, 1) := by decide +kernel
theorem dr_cX17_graph_342 : decode cX17_graph 342 = .ok (.ifCond .eq 35, 3) := by decide +kernel
theorem dr_cX17_graph_377 : decode cX17_graph 377 = .ok (.iinc 4 1, 3) := by decide +kernel
theorem dr_cX17_graph_380 : decode cX17_graph 380 = .ok (.goto (-60), 3) := by decide +kernel
theorem dr_cX17_graph_345 : decode cX17_graph 345 = .ok (.aload_n 0, 1) := by decide +kernel
theorem dr_cX17_graph_346 : decode cX17_graph 346 = .ok (.getfield 135, 3) := by decide +kernel
theorem dr_cX17_graph_349 : decode cX17_graph 349 = .ok (.bipush 64, 2) := by decide +kernel
theorem dr_cX17_graph_351 : decode cX17_graph 351 = .ok (.iload 4, 2) := by decide +kernel
theorem dr_cX17_graph_353 : decode cX17_graph 353 = .ok (.imul, 1) := by decide +kernel
theorem dr_cX17_graph_354 : decode cX17_graph 354 = .ok (.lload 5, 2) := by decide +kernel
theorem dr_cX17_graph_356 : decode cX17_graph 356 = .ok (.invokestatic 149, 3) := by decide +kernel
theorem wr_11_1 : (Jvm.Cond.methodLink "SpillForgeModel" (149 : Nat) ({ cls := "java/lang/Long", name := "numberOfTrailingZeros", desc := "(J)I" } : Jvm.MethodName)) ∈ gw := gw_11 1 rfl rfl
theorem wr_11_3 : (Jvm.Cond.code ({ cls := "java/lang/Long", name := "numberOfTrailingZeros", desc := "(J)I" } : Jvm.MethodName) prog_31_method_49_code (3 : Nat) (Option.some Jvm.ClassFile.FieldType.int)) ∈ gw := gw_11 3 rfl rfl
theorem wr_11_2 : (Jvm.Cond.static ({ cls := "java/lang/Long", name := "numberOfTrailingZeros", desc := "(J)I" } : Jvm.MethodName)) ∈ gw := gw_11 2 rfl rfl
theorem dr_cX17_graph_359 : decode cX17_graph 359 = .ok (.iadd, 1) := by decide +kernel
theorem dr_cX17_graph_360 : decode cX17_graph 360 = .ok (.aaload, 1) := by decide +kernel
theorem dr_cX17_graph_361 : decode cX17_graph 361 = .ok (.iload_n 3, 1) := by decide +kernel
theorem dr_cX17_graph_362 : decode cX17_graph 362 = .ok (.invokestatic 67, 3) := by decide +kernel
theorem dr_cX17_graph_365 : decode cX17_graph 365 = .ok (.lload 5, 2) := by decide +kernel
theorem dr_cX17_graph_367 : decode cX17_graph 367 = .ok (.lload 5, 2) := by decide +kernel
theorem dr_cX17_graph_369 : decode cX17_graph 369 = .ok (.lconst 1, 1) := by decide +kernel
theorem dr_cX17_graph_370 : decode cX17_graph 370 = .ok (.lsub, 1) := by decide +kernel
theorem dr_cX17_graph_371 : decode cX17_graph 371 = .ok (.land, 1) := by decide +kernel
theorem dr_cX17_graph_372 : decode cX17_graph 372 = .ok (.lstore 5, 2) := by decide +kernel
theorem dr_cX17_graph_374 : decode cX17_graph 374 = .ok (.goto (-36), 3) := by decide +kernel
theorem dr_cX17_graph_314 : decode cX17_graph 314 = .ok (.goto 69, 3) := by decide +kernel
theorem dr_cX17_graph_64 : decode cX17_graph 64 = .ok (.aload_n 1, 1) := by decide +kernel
theorem dr_cX17_graph_65 : decode cX17_graph 65 = .ok (.iload_n 3, 1) := by decide +kernel
theorem dr_cX17_graph_66 : decode cX17_graph 66 = .ok (.invokevirtual 101, 3) := by decide +kernel
theorem dr_cX17_graph_69 : decode cX17_graph 69 = .ok (.astore 4, 2) := by decide +kernel
theorem dr_cX17_graph_71 : decode cX17_graph 71 = .ok (.aload_n 0, 1) := by decide +kernel
theorem dr_cX17_graph_72 : decode cX17_graph 72 = .ok (.aload 4, 2) := by decide +kernel
theorem dr_cX17_graph_74 : decode cX17_graph 74 = .ok (.invokevirtual 105, 3) := by decide +kernel
theorem dr_cX17_graph_77 : decode cX17_graph 77 = .ok (.aload_n 0, 1) := by decide +kernel
theorem dr_cX17_graph_78 : decode cX17_graph 78 = .ok (.aload 4, 2) := by decide +kernel
theorem dr_cX17_graph_80 : decode cX17_graph 80 = .ok (.getfield 109, 3) := by decide +kernel
theorem dr_cX17_graph_83 : decode cX17_graph 83 = .ok (.iload_n 2, 1) := by decide +kernel
theorem dr_cX17_graph_84 : decode cX17_graph 84 = .ok (.invokevirtual 138, 3) := by decide +kernel
theorem wr_10_237 : (Jvm.Cond.methodLink "SpillForgeModel" (138 : Nat) ({ cls := "SpillForgeModel", name := "stand", desc := "(LSpillForgeModel$Row;Z)V" } : Jvm.MethodName)) ∈ gw := gw_10 237 rfl rfl
theorem wr_11_0 : (Jvm.Cond.code ({ cls := "SpillForgeModel", name := "stand", desc := "(LSpillForgeModel$Row;Z)V" } : Jvm.MethodName) prog_14_method_11_code (4 : Nat) (Option.none : Option Jvm.ClassFile.FieldType)) ∈ gw := gw_11 0 rfl rfl
theorem wr_10_239 : (Jvm.Cond.instanceMethod ({ cls := "SpillForgeModel", name := "stand", desc := "(LSpillForgeModel$Row;Z)V" } : Jvm.MethodName)) ∈ gw := gw_10 239 rfl rfl
theorem wr_p_100 : Cond.selects "SpillForgeModel" ⟨"SpillForgeModel", "stand", "(LSpillForgeModel$Row;Z)V"⟩ ⟨"SpillForgeModel", "stand", "(LSpillForgeModel$Row;Z)V"⟩ ∈ gw := gw_p _ 100 rfl rfl rfl
theorem dr_cX17_graph_87 : decode cX17_graph 87 = .ok (.aload_n 0, 1) := by decide +kernel
theorem dr_cX17_graph_88 : decode cX17_graph 88 = .ok (.aload 4, 2) := by decide +kernel
theorem dr_cX17_graph_90 : decode cX17_graph 90 = .ok (.getfield 109, 3) := by decide +kernel
theorem dr_cX17_graph_93 : decode cX17_graph 93 = .ok (.iload_n 2, 1) := by decide +kernel
theorem dr_cX17_graph_94 : decode cX17_graph 94 = .ok (.invokevirtual 113, 3) := by decide +kernel
theorem dr_cX17_graph_97 : decode cX17_graph 97 = .ok (.aload 4, 2) := by decide +kernel
theorem dr_cX17_graph_99 : decode cX17_graph 99 = .ok (.getfield 117, 3) := by decide +kernel
theorem dr_cX17_graph_102 : decode cX17_graph 102 = .ok (.invokevirtual 121, 3) := by decide +kernel
theorem dr_cX17_graph_105 : decode cX17_graph 105 = .ok (.iconst 1, 1) := by decide +kernel
theorem dr_cX17_graph_106 : decode cX17_graph 106 = .ok (.isub, 1) := by decide +kernel
theorem dr_cX17_graph_107 : decode cX17_graph 107 = .ok (.istore 5, 2) := by decide +kernel
theorem dr_cX17_graph_109 : decode cX17_graph 109 = .ok (.iload 5, 2) := by decide +kernel
theorem dr_cX17_graph_111 : decode cX17_graph 111 = .ok (.ifCond .lt 179, 3) := by decide +kernel
theorem dr_cX17_graph_290 : decode cX17_graph 290 = .ok (.iinc 3 1, 3) := by decide +kernel
theorem dr_cX17_graph_293 : decode cX17_graph 293 = .ok (.goto (-237), 3) := by decide +kernel
theorem dr_cX17_graph_114 : decode cX17_graph 114 = .ok (.aload 4, 2) := by decide +kernel
theorem dr_cX17_graph_116 : decode cX17_graph 116 = .ok (.getfield 117, 3) := by decide +kernel
theorem dr_cX17_graph_119 : decode cX17_graph 119 = .ok (.iload 5, 2) := by decide +kernel
theorem dr_cX17_graph_121 : decode cX17_graph 121 = .ok (.invokevirtual 124, 3) := by decide +kernel
theorem dr_cX17_graph_124 : decode cX17_graph 124 = .ok (.checkcast 40, 3) := by decide +kernel
theorem dr_cX17_graph_127 : decode cX17_graph 127 = .ok (.astore 6, 2) := by decide +kernel
theorem dr_cX17_graph_129 : decode cX17_graph 129 = .ok (.aload_n 0, 1) := by decide +kernel
theorem dr_cX17_graph_130 : decode cX17_graph 130 = .ok (.aload 6, 2) := by decide +kernel
theorem dr_cX17_graph_132 : decode cX17_graph 132 = .ok (.iload_n 2, 1) := by decide +kernel
theorem dr_cX17_graph_133 : decode cX17_graph 133 = .ok (.invokevirtual 138, 3) := by decide +kernel
theorem dr_cX17_graph_136 : decode cX17_graph 136 = .ok (.aload 6, 2) := by decide +kernel
theorem dr_cX17_graph_138 : decode cX17_graph 138 = .ok (.iload_n 2, 1) := by decide +kernel
theorem dr_cX17_graph_139 : decode cX17_graph 139 = .ok (.invokestatic 55, 3) := by decide +kernel
theorem dr_cX17_graph_142 : decode cX17_graph 142 = .ok (.istore 7, 2) := by decide +kernel
theorem dr_cX17_graph_144 : decode cX17_graph 144 = .ok (.iload_n 2, 1) := by decide +kernel
theorem dr_cX17_graph_145 : decode cX17_graph 145 = .ok (.ifCond .ne 27, 3) := by decide +kernel
theorem dr_cX17_graph_172 : decode cX17_graph 172 = .ok (.iconst (-1), 1) := by decide +kernel
theorem dr_cX17_graph_173 : decode cX17_graph 173 = .ok (.istore 8, 2) := by decide +kernel
theorem dr_cX17_graph_175 : decode cX17_graph 175 = .ok (.iload 7, 2) := by decide +kernel
theorem dr_cX17_graph_177 : decode cX17_graph 177 = .ok (.ifCond .lt 100, 3) := by decide +kernel
theorem dr_cX17_graph_277 : decode cX17_graph 277 = .ok (.aload_n 0, 1) := by decide +kernel
theorem dr_cX17_graph_278 : decode cX17_graph 278 = .ok (.aload 6, 2) := by decide +kernel
theorem dr_cX17_graph_280 : decode cX17_graph 280 = .ok (.iload_n 2, 1) := by decide +kernel
theorem dr_cX17_graph_281 : decode cX17_graph 281 = .ok (.invokevirtual 113, 3) := by decide +kernel
theorem dr_cX17_graph_284 : decode cX17_graph 284 = .ok (.iinc 5 (-1), 3) := by decide +kernel
theorem dr_cX17_graph_287 : decode cX17_graph 287 = .ok (.goto (-178), 3) := by decide +kernel
theorem dr_cX17_graph_180 : decode cX17_graph 180 = .ok (.iload 8, 2) := by decide +kernel
theorem dr_cX17_graph_182 : decode cX17_graph 182 = .ok (.ifCond .lt 22, 3) := by decide +kernel
theorem dr_cX17_graph_204 : decode cX17_graph 204 = .ok (.iconst 0, 1) := by decide +kernel
theorem dr_cX17_graph_205 : decode cX17_graph 205 = .ok (.istore 9, 2) := by decide +kernel
theorem dr_cX17_graph_207 : decode cX17_graph 207 = .ok (.iconst 0, 1) := by decide +kernel
theorem dr_cX17_graph_208 : decode cX17_graph 208 = .ok (.istore 10, 2) := by decide +kernel
theorem dr_cX17_graph_210 : decode cX17_graph 210 = .ok (.iload 10, 2) := by decide +kernel
theorem dr_cX17_graph_212 : decode cX17_graph 212 = .ok (.bipush 32, 2) := by decide +kernel
theorem dr_cX17_graph_214 : decode cX17_graph 214 = .ok (.if_icmp .ge 29, 3) := by decide +kernel
theorem dr_cX17_graph_243 : decode cX17_graph 243 = .ok (.iload 8, 2) := by decide +kernel
theorem dr_cX17_graph_245 : decode cX17_graph 245 = .ok (.ifCond .lt 20, 3) := by decide +kernel
theorem dr_cX17_graph_265 : decode cX17_graph 265 = .ok (.aload_n 0, 1) := by decide +kernel
theorem dr_cX17_graph_266 : decode cX17_graph 266 = .ok (.getfield 135, 3) := by decide +kernel
theorem dr_cX17_graph_269 : decode cX17_graph 269 = .ok (.iload 7, 2) := by decide +kernel
theorem dr_cX17_graph_271 : decode cX17_graph 271 = .ok (.aaload, 1) := by decide +kernel
theorem dr_cX17_graph_272 : decode cX17_graph 272 = .ok (.iload 7, 2) := by decide +kernel
theorem dr_cX17_graph_274 : decode cX17_graph 274 = .ok (.invokestatic 63, 3) := by decide +kernel
theorem dr_cX17_graph_217 : decode cX17_graph 217 = .ok (.aload_n 0, 1) := by decide +kernel
theorem dr_cX17_graph_218 : decode cX17_graph 218 = .ok (.getfield 135, 3) := by decide +kernel
theorem dr_cX17_graph_221 : decode cX17_graph 221 = .ok (.iload 7, 2) := by decide +kernel
theorem dr_cX17_graph_223 : decode cX17_graph 223 = .ok (.aaload, 1) := by decide +kernel
theorem dr_cX17_graph_224 : decode cX17_graph 224 = .ok (.iload 10, 2) := by decide +kernel
theorem dr_cX17_graph_226 : decode cX17_graph 226 = .ok (.dup2, 1) := by decide +kernel
theorem dr_cX17_graph_227 : decode cX17_graph 227 = .ok (.laload, 1) := by decide +kernel
theorem dr_cX17_graph_228 : decode cX17_graph 228 = .ok (.aload_n 0, 1) := by decide +kernel
theorem dr_cX17_graph_229 : decode cX17_graph 229 = .ok (.getfield 59, 3) := by decide +kernel
theorem dr_cX17_graph_232 : decode cX17_graph 232 = .ok (.iload 10, 2) := by decide +kernel
theorem dr_cX17_graph_234 : decode cX17_graph 234 = .ok (.laload, 1) := by decide +kernel
theorem dr_cX17_graph_235 : decode cX17_graph 235 = .ok (.lor, 1) := by decide +kernel
theorem dr_cX17_graph_236 : decode cX17_graph 236 = .ok (.lastore, 1) := by decide +kernel
theorem dr_cX17_graph_237 : decode cX17_graph 237 = .ok (.iinc 10 1, 3) := by decide +kernel
theorem dr_cX17_graph_240 : decode cX17_graph 240 = .ok (.goto (-30), 3) := by decide +kernel
theorem dr_cX17_graph_148 : decode cX17_graph 148 = .ok (.aload 6, 2) := by decide +kernel
theorem dr_cX17_graph_150 : decode cX17_graph 150 = .ok (.getfield 39, 3) := by decide +kernel
theorem dr_cX17_graph_153 : decode cX17_graph 153 = .ok (.ifCond .ne 19, 3) := by decide +kernel
theorem dr_cX17_graph_156 : decode cX17_graph 156 = .ok (.aload 6, 2) := by decide +kernel
theorem dr_cX17_graph_158 : decode cX17_graph 158 = .ok (.getfield 141, 3) := by decide +kernel
theorem dr_cX17_graph_161 : decode cX17_graph 161 = .ok (.ifCond .eq 11, 3) := by decide +kernel
theorem dr_cX17_graph_164 : decode cX17_graph 164 = .ok (.aload 6, 2) := by decide +kernel
theorem dr_cX17_graph_166 : decode cX17_graph 166 = .ok (.getfield 73, 3) := by decide +kernel
theorem dr_cX17_graph_169 : decode cX17_graph 169 = .ok (.goto 4, 3) := by decide +kernel
theorem dr_cX17_graph_185 : decode cX17_graph 185 = .ok (.aload_n 0, 1) := by decide +kernel
theorem dr_cX17_graph_186 : decode cX17_graph 186 = .ok (.getfield 135, 3) := by decide +kernel
theorem dr_cX17_graph_189 : decode cX17_graph 189 = .ok (.iload 7, 2) := by decide +kernel
theorem dr_cX17_graph_191 : decode cX17_graph 191 = .ok (.aaload, 1) := by decide +kernel
theorem dr_cX17_graph_192 : decode cX17_graph 192 = .ok (.iload 8, 2) := by decide +kernel
theorem dr_cX17_graph_194 : decode cX17_graph 194 = .ok (.invokestatic 145, 3) := by decide +kernel
theorem dr_cX17_graph_197 : decode cX17_graph 197 = .ok (.ifCond .eq 7, 3) := by decide +kernel
theorem dr_cX17_graph_248 : decode cX17_graph 248 = .ok (.iload 9, 2) := by decide +kernel
theorem dr_cX17_graph_250 : decode cX17_graph 250 = .ok (.ifCond .ne 15, 3) := by decide +kernel
theorem dr_cX17_graph_253 : decode cX17_graph 253 = .ok (.aload_n 0, 1) := by decide +kernel
theorem dr_cX17_graph_254 : decode cX17_graph 254 = .ok (.getfield 135, 3) := by decide +kernel
theorem dr_cX17_graph_257 : decode cX17_graph 257 = .ok (.iload 7, 2) := by decide +kernel
theorem dr_cX17_graph_259 : decode cX17_graph 259 = .ok (.aaload, 1) := by decide +kernel
theorem dr_cX17_graph_260 : decode cX17_graph 260 = .ok (.iload 8, 2) := by decide +kernel
theorem dr_cX17_graph_262 : decode cX17_graph 262 = .ok (.invokestatic 63, 3) := by decide +kernel
theorem dr_cX17_graph_200 : decode cX17_graph 200 = .ok (.iconst 1, 1) := by decide +kernel
theorem dr_cX17_graph_201 : decode cX17_graph 201 = .ok (.goto 4, 3) := by decide +kernel
theorem dr_cX17_graph_15 : decode cX17_graph 15 = .ok (.aload_n 0, 1) := by decide +kernel
theorem dr_cX17_graph_16 : decode cX17_graph 16 = .ok (.getfield 131, 3) := by decide +kernel
theorem dr_cX17_graph_19 : decode cX17_graph 19 = .ok (.iload_n 3, 1) := by decide +kernel
theorem dr_cX17_graph_20 : decode cX17_graph 20 = .ok (.iconst 0, 1) := by decide +kernel
theorem dr_cX17_graph_21 : decode cX17_graph 21 = .ok (.bastore, 1) := by decide +kernel
theorem dr_cX17_graph_22 : decode cX17_graph 22 = .ok (.iconst 0, 1) := by decide +kernel
theorem dr_cX17_graph_23 : decode cX17_graph 23 = .ok (.istore 4, 2) := by decide +kernel
theorem dr_cX17_graph_25 : decode cX17_graph 25 = .ok (.iload 4, 2) := by decide +kernel
theorem dr_cX17_graph_27 : decode cX17_graph 27 = .ok (.bipush 32, 2) := by decide +kernel
theorem dr_cX17_graph_29 : decode cX17_graph 29 = .ok (.if_icmp .ge 19, 3) := by decide +kernel
theorem dr_cX17_graph_48 : decode cX17_graph 48 = .ok (.iinc 3 1, 3) := by decide +kernel
theorem dr_cX17_graph_51 : decode cX17_graph 51 = .ok (.goto (-43), 3) := by decide +kernel
theorem dr_cX17_graph_32 : decode cX17_graph 32 = .ok (.aload_n 0, 1) := by decide +kernel
theorem dr_cX17_graph_33 : decode cX17_graph 33 = .ok (.getfield 135, 3) := by decide +kernel
theorem dr_cX17_graph_36 : decode cX17_graph 36 = .ok (.iload_n 3, 1) := by decide +kernel
theorem dr_cX17_graph_37 : decode cX17_graph 37 = .ok (.aaload, 1) := by decide +kernel
theorem dr_cX17_graph_38 : decode cX17_graph 38 = .ok (.iload 4, 2) := by decide +kernel
theorem dr_cX17_graph_40 : decode cX17_graph 40 = .ok (.lconst 0, 1) := by decide +kernel
theorem dr_cX17_graph_41 : decode cX17_graph 41 = .ok (.lastore, 1) := by decide +kernel
theorem dr_cX17_graph_42 : decode cX17_graph 42 = .ok (.iinc 4 1, 3) := by decide +kernel
theorem dr_cX17_graph_45 : decode cX17_graph 45 = .ok (.goto (-20), 3) := by decide +kernel
abbrev ky_281701_SpillForgeModel_back : gKey := (cX17_back, 4, "SpillForgeModel", none, [], "back", fun _ _ => True)
def pt_281701_SpillForgeModel_back (D : va_G) (I : FieldType → ClassId) (γ el : Nat → Nat → Nat) (P281696 : List Nat) (F281697 : Nat → va_E) (q281698 : Nat) (q281699 : Nat) (p281700 : Int32) : Option Value → va_W → Nat → Nat → Prop := fun r w dc ds => ∃ (F282158 : Nat → va_E), r = none ∧ w = va_pl P281696 F282158 ∧ RS D I P281696 F282158 γ el ∧ rStr γ [] F281697 F282158 ∧ dc ≤ 0 ∧ ds ≤ 0 ∧ (F282158 q281698 = F281697 q281698) ∧ (F282158 (γ 9 3) = F281697 (γ 9 3))
set_option maxRecDepth 100000 in
set_option maxHeartbeats 4000000 in
theorem ct_281701_SpillForgeModel_back (l : Launch) (hl0 : l.stackTraces = false) (D : va_G) (I : FieldType → ClassId) (γ el : Nat → Nat → Nat) (P281696 : List Nat) (F281697 : Nat → va_E) (q281698 : Nat) (q281699 : Nat) (p281700 : Int32) (hT : RS D I P281696 F281697 γ el) (htq281698 : rKd γ q281698 10) (htq281699 : rKd γ q281699 1) (bp281700 : gB p281700 0 1) : CtA (gV D I) l yX17_back cX17_back 4 none 2 41 0 0 [.ref q281698, .ref q281699, .int p281700] (va_pl P281696 F281697) (pt_281701_SpillForgeModel_back D I γ el P281696 F281697 q281698 q281699 p281700) gNA := by
  refine CtA_of hl0 (by decide) (Nat.le_of_ble_eq_true rfl) ?_
  refine G_aload_n 1 dr_cX17_back_0 rfl ?_
  refine G_iload_n 2 dr_cX17_back_1 rfl ?_
  have hm281702 : q281699 ∈ P281696 := RS_m hT htq281699 (by decide)
  obtain ⟨p281704, p281705, p281706, p281707, p281708, p281709, p281710, he281703, bp281704, bp281705, bp281708, bp281709, bp281710, r281711, r281712, r281713, r281714⟩ := show rk_1 γ q281699 (F281697 q281699) from RS_o hT htq281699
  have bp281706 := gB_any p281706
  have bp281707 := gB_any p281707
  refine Gw_callS (As := [.ref q281699, .int p281700]) (gV_ok D I) (cp_1778_SpillForgeModel_setOf l hl0 D I P281696 F281697 q281699 p281700 p281704 p281705 p281706 p281707 p281708 p281709 p281710 hm281702 he281703 bp281700 bp281704 bp281705 bp281708 bp281709 bp281710) dr_cX17_back_2 ⟨wr_10_178, wr_1_14, wr_10_180, by decide, rfl, (Nat.le_of_ble_eq_true rfl), (Nat.le_of_ble_eq_true rfl)⟩ wr_10_179 (show 0 + 0 ≤ 0 by first | omega | decide) (show 0 + 0 ≤ 0 by first | omega | decide) (Nat.le_of_ble_eq_true rfl) (fun r281718 w281719 dc281715 ds281716 hp281717 => ?_) (fun _ _ _ _ _ z => z.elim)
  obtain ⟨o281720, rfl, rfl, hdc, hds, bo281720⟩ := hp281717
  change G _ _ _ _ _ _ _ (.int o281720 :: _) _ _ _
  refine G_widen (cs' := 0) (sl' := 0) (by omega) (by omega) ?_
  refine G_istore_n (L' := [(3, .int o281720), (0, .ref q281698), (1, .ref q281699), (2, .int p281700)]) dr_cX17_back_5 (Nat.le_of_ble_eq_true rfl) rfl ?_
  refine G_iload_n 0 dr_cX17_back_6 rfl ?_
  refine G_if_lt 18 dr_cX17_back_7 (by decide +kernel) (fun hc281721 => ?_) (fun hc281721 => ?_)
  · have r281722 : o281720.toInt < 0 := gj_lt hc281721 (show Int32.toInt 0 = 0 by decide)
    have bo281720' : gB o281720 (-1) (-1) := ⟨by omega, by omega⟩
    refine G_iload_n 3 dr_cX17_back_18 rfl ?_
    refine G_if_eq 43 dr_cX17_back_19 (by decide +kernel) (fun hc281723 => ?_) (fun hc281723 => ?_)
    · have r281724 : p281700.toInt = 0 := gj_eq hc281723 (show Int32.toInt 0 = 0 by decide)
      have bp281700' : gB p281700 0 0 := ⟨by omega, by omega⟩
      refine G_aload_n 2 dr_cX17_back_43 rfl ?_
      refine Gw_callV (As := []) (gV_ok D I) (cp_1669_Row_usesA l hl0 D I P281696 F281697 q281699 p281704 p281705 p281706 p281707 p281708 p281709 p281710 hm281702 he281703 bp281704 bp281705 bp281708 bp281709 bp281710) dr_cX17_back_44 ⟨wr_10_192, wr_1_39, wr_10_195, by decide, rfl, (Nat.le_of_ble_eq_true rfl), (Nat.le_of_ble_eq_true rfl)⟩ wr_10_193 wr_10_194 hm281702 he281703 rfl (show 0 + 0 ≤ 0 by first | omega | decide) (show 0 + 0 ≤ 0 by first | omega | decide) (Nat.le_of_ble_eq_true rfl) (fun r281728 w281729 dc281725 ds281726 hp281727 => ?_) (fun _ _ _ _ _ z => z.elim)
      obtain ⟨o281730, rfl, rfl, hdc, hds, bo281730, x281731⟩ := hp281727
      change G _ _ _ _ _ _ _ (.int o281730 :: _) _ _ _
      refine G_widen (cs' := 0) (sl' := 0) (by omega) (by omega) ?_
      refine G_if_eq 61 dr_cX17_back_47 (by decide +kernel) (fun hc281732 => ?_) (fun hc281732 => ?_)
      · have r281733 : o281730.toInt = 0 := gj_eq hc281732 (show Int32.toInt 0 = 0 by decide)
        have bo281730' : gB o281730 0 0 := ⟨by omega, by omega⟩
        refine G_aload_n 2 dr_cX17_back_61 rfl ?_
        refine Gw_callV (As := []) (gV_ok D I) (cp_1693_Row_usesB l hl0 D I P281696 F281697 q281699 p281704 p281705 p281706 p281707 p281708 p281709 p281710 hm281702 he281703 bp281704 bp281705 bp281708 bp281709 bp281710) dr_cX17_back_62 ⟨wr_10_196, wr_1_39, wr_10_199, by decide, rfl, (Nat.le_of_ble_eq_true rfl), (Nat.le_of_ble_eq_true rfl)⟩ wr_10_197 wr_10_198 hm281702 he281703 rfl (show 0 + 0 ≤ 0 by first | omega | decide) (show 0 + 0 ≤ 0 by first | omega | decide) (Nat.le_of_ble_eq_true rfl) (fun r281737 w281738 dc281734 ds281735 hp281736 => ?_) (fun _ _ _ _ _ z => z.elim)
        obtain ⟨o281739, rfl, rfl, hdc, hds, bo281739, x281740⟩ := hp281736
        change G _ _ _ _ _ _ _ (.int o281739 :: _) _ _ _
        refine G_widen (cs' := 0) (sl' := 0) (by omega) (by omega) ?_
        refine G_if_eq 79 dr_cX17_back_65 (by decide +kernel) (fun hc281741 => ?_) (fun hc281741 => ?_)
        · have r281742 : o281739.toInt = 0 := gj_eq hc281741 (show Int32.toInt 0 = 0 by decide)
          have bo281739' : gB o281739 0 0 := ⟨by omega, by omega⟩
          exact G_vretA dr_cX17_back_79 rfl (Nat.le_of_ble_eq_true rfl) (Nat.le_of_ble_eq_true rfl) ⟨F281697, rfl, rfl, hT, (rStr_rf (γ := γ) (W := []) (F := F281697)), (Nat.le_of_ble_eq_true rfl), (Nat.le_of_ble_eq_true rfl), rfl, rfl⟩
        · have r281743 : o281739.toInt ≠ 0 := gj_neq hc281741 (show Int32.toInt 0 = 0 by decide)
          have bo281739' : gB o281739 1 1 := ⟨by omega, by omega⟩
          refine G_aload_n 1 dr_cX17_back_68 rfl ?_
          have hm281744 : q281698 ∈ P281696 := RS_m hT htq281698 (by decide)
          obtain ⟨q281746, q281747, p281748, p281749, p281750, p281751, p281752, p281753, p281754, p281755, p281756, p281757, p281758, p281759, p281760, p281761, p281762, he281745, hB281789, ht281763, ht281764, ht281765, ht281766, ht281767, ht281768, ht281769, ht281770, ht281771, ht281772, ht281773, ht281774, ht281775, ht281776, ht281777, ht281778, ht281779, ht281780, ht281781, ht281782, ht281783, ht281784, ht281785, ht281786, hB281790⟩ := show rk_10 γ (F281697 q281698) from RS_o hT htq281698
          refine Gp_get 2 hm281744 he281745 dr_cX17_back_69 (gk_X17 D I) (Nat.le_of_ble_eq_true rfl) wr_7_76 rfl ?_
          refine G_aload_n 2 dr_cX17_back_72 rfl ?_
          refine Gp_get 3 hm281702 he281703 dr_cX17_back_73 (gk_X15 D I) (Nat.le_of_ble_eq_true rfl) wr_9_190 rfl ?_
          have hm281791 : (γ 9 2) ∈ P281696 := RS_m hT ht281767 (by decide)
          obtain ⟨f281793, he281792, wf281793⟩ := show rk_35 I (F281697 (γ 9 2)) from RS_o hT ht281767
          refine Gw_callS (As := [.ref (γ 9 2), .int p281707]) (gV_ok D I) (cp_1853_SpillForgeModel_set l hl0 D I P281696 F281697 (γ 9 2) p281707 f281793 hm281791 he281792 ⟨by omega, by omega⟩ wf281793) dr_cX17_back_76 ⟨wr_10_189, wr_1_14, wr_10_191, by decide, rfl, (Nat.le_of_ble_eq_true rfl), (Nat.le_of_ble_eq_true rfl)⟩ wr_10_190 (show 0 + 0 ≤ 0 by first | omega | decide) (show 0 + 0 ≤ 0 by first | omega | decide) (Nat.le_of_ble_eq_true rfl) (fun r281797 w281798 dc281794 ds281795 hp281796 => ?_) (fun _ _ _ _ _ z => z.elim)
          obtain ⟨F281801, f281799, rfl, rfl, hfr281803, he281804, hdc, hds, x281800⟩ := hp281796
          have he281805 : F281801 q281699 = .inr (20, [.int p281704, .int p281705, .int p281706, .int p281707, .int p281708, .int p281709, .int p281710]) := (hfr281803 q281699 hm281702 (nm_c (rn_oa he281703 he281792) nm_n)).trans he281703
          have he281806 : F281801 q281698 = .inr (22, [.ref (γ 9 0), .ref (γ 9 1), .ref (γ 9 2), .ref (γ 9 3), .ref (γ 9 4), .ref (γ 9 5), .ref (γ 9 6), .ref (γ 9 7), .ref (γ 9 8), .int p281748, .int p281749, .int p281750, .int p281751, .int p281752, .int p281753, .ref (γ 9 15), .ref (γ 9 16), .ref (γ 9 17), .ref (γ 9 18), .ref (γ 9 19), .ref (γ 9 20), .ref (γ 9 21), .ref (γ 9 22), .int p281754, .int p281755, .int p281756, .int p281757, .int p281758, .ref q281746, .ref (γ 9 29), .int p281759, .ref (γ 9 31), .int p281760, .int p281761, .int p281762, .ref q281747]) := (hfr281803 q281698 hm281744 (nm_c (rn_oa he281745 he281792) nm_n)).trans he281745
          have hfr281807 : rFr [(γ 9 2)] P281696 F281697 F281801 := rFr_call (rSub_rf (P := P281696)) (rFr_rf (W := []) (P := P281696) (F := F281697)) hfr281803 (fun b hb hn => ⟨nm_n, (nm_c (fun e => hn (e ▸ List.mem_cons_self)) nm_n)⟩)
          change G _ _ _ _ _ _ _ _ _ _ _
          refine G_widen (cs' := 0) (sl' := 0) (by omega) (by omega) ?_
          have hT281808 : RS D I P281696 F281801 γ el := RS_fr hT hfr281807 ht281767 (by decide) ⟨f281799, he281804, x281800⟩
          have hs281809 : rStr γ [] F281697 F281801 := rStr_fr hT (rStr_rf (γ := γ) (W := []) (F := F281697)) hfr281807 ht281767 (by decide)
          have kp281810 : F281801 q281698 = F281697 q281698 := hfr281807 q281698 (RS_m hT htq281698 (by decide)) (nm_c (rn_ty htq281698 ht281767 (by decide)) nm_n)
          have kp281811 : F281801 (γ 9 3) = F281697 (γ 9 3) := hfr281807 (γ 9 3) (RS_m hT ht281768 (by decide)) (nm_c (rn_ty ht281768 ht281767 (by decide)) nm_n)
          exact G_vretA dr_cX17_back_79 rfl (Nat.le_of_ble_eq_true rfl) (Nat.le_of_ble_eq_true rfl) ⟨F281801, rfl, rfl, hT281808, hs281809, (Nat.le_of_ble_eq_true rfl), (Nat.le_of_ble_eq_true rfl), kp281810, kp281811⟩
      · have r281812 : o281730.toInt ≠ 0 := gj_neq hc281732 (show Int32.toInt 0 = 0 by decide)
        have bo281730' : gB o281730 1 1 := ⟨by omega, by omega⟩
        refine G_aload_n 1 dr_cX17_back_50 rfl ?_
        have hm281813 : q281698 ∈ P281696 := RS_m hT htq281698 (by decide)
        obtain ⟨q281815, q281816, p281817, p281818, p281819, p281820, p281821, p281822, p281823, p281824, p281825, p281826, p281827, p281828, p281829, p281830, p281831, he281814, hB281858, ht281832, ht281833, ht281834, ht281835, ht281836, ht281837, ht281838, ht281839, ht281840, ht281841, ht281842, ht281843, ht281844, ht281845, ht281846, ht281847, ht281848, ht281849, ht281850, ht281851, ht281852, ht281853, ht281854, ht281855, hB281859⟩ := show rk_10 γ (F281697 q281698) from RS_o hT htq281698
        refine Gp_get 2 hm281813 he281814 dr_cX17_back_51 (gk_X17 D I) (Nat.le_of_ble_eq_true rfl) wr_7_76 rfl ?_
        refine G_aload_n 2 dr_cX17_back_54 rfl ?_
        refine Gp_get 2 hm281702 he281703 dr_cX17_back_55 (gk_X15 D I) (Nat.le_of_ble_eq_true rfl) wr_9_186 rfl ?_
        have hm281860 : (γ 9 2) ∈ P281696 := RS_m hT ht281836 (by decide)
        obtain ⟨f281862, he281861, wf281862⟩ := show rk_35 I (F281697 (γ 9 2)) from RS_o hT ht281836
        refine Gw_callS (As := [.ref (γ 9 2), .int p281706]) (gV_ok D I) (cp_1853_SpillForgeModel_set l hl0 D I P281696 F281697 (γ 9 2) p281706 f281862 hm281860 he281861 ⟨by omega, by omega⟩ wf281862) dr_cX17_back_58 ⟨wr_10_189, wr_1_14, wr_10_191, by decide, rfl, (Nat.le_of_ble_eq_true rfl), (Nat.le_of_ble_eq_true rfl)⟩ wr_10_190 (show 0 + 0 ≤ 0 by first | omega | decide) (show 0 + 0 ≤ 0 by first | omega | decide) (Nat.le_of_ble_eq_true rfl) (fun r281866 w281867 dc281863 ds281864 hp281865 => ?_) (fun _ _ _ _ _ z => z.elim)
        obtain ⟨F281870, f281868, rfl, rfl, hfr281872, he281873, hdc, hds, x281869⟩ := hp281865
        have he281874 : F281870 q281699 = .inr (20, [.int p281704, .int p281705, .int p281706, .int p281707, .int p281708, .int p281709, .int p281710]) := (hfr281872 q281699 hm281702 (nm_c (rn_oa he281703 he281861) nm_n)).trans he281703
        have he281875 : F281870 q281698 = .inr (22, [.ref (γ 9 0), .ref (γ 9 1), .ref (γ 9 2), .ref (γ 9 3), .ref (γ 9 4), .ref (γ 9 5), .ref (γ 9 6), .ref (γ 9 7), .ref (γ 9 8), .int p281817, .int p281818, .int p281819, .int p281820, .int p281821, .int p281822, .ref (γ 9 15), .ref (γ 9 16), .ref (γ 9 17), .ref (γ 9 18), .ref (γ 9 19), .ref (γ 9 20), .ref (γ 9 21), .ref (γ 9 22), .int p281823, .int p281824, .int p281825, .int p281826, .int p281827, .ref q281815, .ref (γ 9 29), .int p281828, .ref (γ 9 31), .int p281829, .int p281830, .int p281831, .ref q281816]) := (hfr281872 q281698 hm281813 (nm_c (rn_oa he281814 he281861) nm_n)).trans he281814
        have hfr281876 : rFr [(γ 9 2)] P281696 F281697 F281870 := rFr_call (rSub_rf (P := P281696)) (rFr_rf (W := []) (P := P281696) (F := F281697)) hfr281872 (fun b hb hn => ⟨nm_n, (nm_c (fun e => hn (e ▸ List.mem_cons_self)) nm_n)⟩)
        change G _ _ _ _ _ _ _ _ _ _ _
        refine G_widen (cs' := 0) (sl' := 0) (by omega) (by omega) ?_
        have hT281877 : RS D I P281696 F281870 γ el := RS_fr hT hfr281876 ht281836 (by decide) ⟨f281868, he281873, x281869⟩
        have hs281878 : rStr γ [] F281697 F281870 := rStr_fr hT (rStr_rf (γ := γ) (W := []) (F := F281697)) hfr281876 ht281836 (by decide)
        have kp281879 : F281870 q281698 = F281697 q281698 := hfr281876 q281698 (RS_m hT htq281698 (by decide)) (nm_c (rn_ty htq281698 ht281836 (by decide)) nm_n)
        have kp281880 : F281870 (γ 9 3) = F281697 (γ 9 3) := hfr281876 (γ 9 3) (RS_m hT ht281837 (by decide)) (nm_c (rn_ty ht281837 ht281836 (by decide)) nm_n)
        refine G_aload_n 2 dr_cX17_back_61 rfl ?_
        refine Gw_callV (As := []) (gV_ok D I) (cp_1693_Row_usesB l hl0 D I P281696 F281870 q281699 p281704 p281705 p281706 p281707 p281708 p281709 p281710 hm281702 he281874 bp281704 bp281705 bp281708 bp281709 bp281710) dr_cX17_back_62 ⟨wr_10_196, wr_1_39, wr_10_199, by decide, rfl, (Nat.le_of_ble_eq_true rfl), (Nat.le_of_ble_eq_true rfl)⟩ wr_10_197 wr_10_198 hm281702 he281874 rfl (show 0 + 0 ≤ 0 by first | omega | decide) (show 0 + 0 ≤ 0 by first | omega | decide) (Nat.le_of_ble_eq_true rfl) (fun r281884 w281885 dc281881 ds281882 hp281883 => ?_) (fun _ _ _ _ _ z => z.elim)
        obtain ⟨o281886, rfl, rfl, hdc, hds, bo281886, x281887⟩ := hp281883
        change G _ _ _ _ _ _ _ (.int o281886 :: _) _ _ _
        refine G_widen (cs' := 0) (sl' := 0) (by omega) (by omega) ?_
        refine G_if_eq 79 dr_cX17_back_65 (by decide +kernel) (fun hc281888 => ?_) (fun hc281888 => ?_)
        · have r281889 : o281886.toInt = 0 := gj_eq hc281888 (show Int32.toInt 0 = 0 by decide)
          have bo281886' : gB o281886 0 0 := ⟨by omega, by omega⟩
          exact G_vretA dr_cX17_back_79 rfl (Nat.le_of_ble_eq_true rfl) (Nat.le_of_ble_eq_true rfl) ⟨F281870, rfl, rfl, hT281877, hs281878, (Nat.le_of_ble_eq_true rfl), (Nat.le_of_ble_eq_true rfl), kp281879, kp281880⟩
        · have r281890 : o281886.toInt ≠ 0 := gj_neq hc281888 (show Int32.toInt 0 = 0 by decide)
          have bo281886' : gB o281886 1 1 := ⟨by omega, by omega⟩
          refine G_aload_n 1 dr_cX17_back_68 rfl ?_
          refine Gp_get 2 hm281813 he281875 dr_cX17_back_69 (gk_X17 D I) (Nat.le_of_ble_eq_true rfl) wr_7_76 rfl ?_
          refine G_aload_n 2 dr_cX17_back_72 rfl ?_
          refine Gp_get 3 hm281702 he281874 dr_cX17_back_73 (gk_X15 D I) (Nat.le_of_ble_eq_true rfl) wr_9_190 rfl ?_
          refine Gw_callS (As := [.ref (γ 9 2), .int p281707]) (gV_ok D I) (cp_1853_SpillForgeModel_set l hl0 D I P281696 F281870 (γ 9 2) p281707 f281868 hm281860 he281873 ⟨by omega, by omega⟩ x281869) dr_cX17_back_76 ⟨wr_10_189, wr_1_14, wr_10_191, by decide, rfl, (Nat.le_of_ble_eq_true rfl), (Nat.le_of_ble_eq_true rfl)⟩ wr_10_190 (show 0 + 0 ≤ 0 by first | omega | decide) (show 0 + 0 ≤ 0 by first | omega | decide) (Nat.le_of_ble_eq_true rfl) (fun r281894 w281895 dc281891 ds281892 hp281893 => ?_) (fun _ _ _ _ _ z => z.elim)
          obtain ⟨F281898, f281896, rfl, rfl, hfr281900, he281901, hdc, hds, x281897⟩ := hp281893
          have he281902 : F281898 q281699 = .inr (20, [.int p281704, .int p281705, .int p281706, .int p281707, .int p281708, .int p281709, .int p281710]) := (hfr281900 q281699 hm281702 (nm_c (rn_oa he281874 he281873) nm_n)).trans he281874
          have he281903 : F281898 q281698 = .inr (22, [.ref (γ 9 0), .ref (γ 9 1), .ref (γ 9 2), .ref (γ 9 3), .ref (γ 9 4), .ref (γ 9 5), .ref (γ 9 6), .ref (γ 9 7), .ref (γ 9 8), .int p281817, .int p281818, .int p281819, .int p281820, .int p281821, .int p281822, .ref (γ 9 15), .ref (γ 9 16), .ref (γ 9 17), .ref (γ 9 18), .ref (γ 9 19), .ref (γ 9 20), .ref (γ 9 21), .ref (γ 9 22), .int p281823, .int p281824, .int p281825, .int p281826, .int p281827, .ref q281815, .ref (γ 9 29), .int p281828, .ref (γ 9 31), .int p281829, .int p281830, .int p281831, .ref q281816]) := (hfr281900 q281698 hm281813 (nm_c (rn_oa he281875 he281873) nm_n)).trans he281875
          have hfr281904 : rFr [(γ 9 2)] P281696 F281870 F281898 := rFr_call (rSub_rf (P := P281696)) (rFr_rf (W := []) (P := P281696) (F := F281870)) hfr281900 (fun b hb hn => ⟨nm_n, (nm_c (fun e => hn (e ▸ List.mem_cons_self)) nm_n)⟩)
          change G _ _ _ _ _ _ _ _ _ _ _
          refine G_widen (cs' := 0) (sl' := 0) (by omega) (by omega) ?_
          have hT281905 : RS D I P281696 F281898 γ el := RS_fr hT281877 hfr281904 ht281836 (by decide) ⟨f281896, he281901, x281897⟩
          have hs281906 : rStr γ [] F281697 F281898 := rStr_fr hT281877 hs281878 hfr281904 ht281836 (by decide)
          have kp281907 : F281898 q281698 = F281697 q281698 := (hfr281904 q281698 (RS_m hT281877 htq281698 (by decide)) (nm_c (rn_ty htq281698 ht281836 (by decide)) nm_n)).trans kp281879
          have kp281908 : F281898 (γ 9 3) = F281697 (γ 9 3) := (hfr281904 (γ 9 3) (RS_m hT281877 ht281837 (by decide)) (nm_c (rn_ty ht281837 ht281836 (by decide)) nm_n)).trans kp281880
          exact G_vretA dr_cX17_back_79 rfl (Nat.le_of_ble_eq_true rfl) (Nat.le_of_ble_eq_true rfl) ⟨F281898, rfl, rfl, hT281905, hs281906, (Nat.le_of_ble_eq_true rfl), (Nat.le_of_ble_eq_true rfl), kp281907, kp281908⟩
    · have r281909 : p281700.toInt ≠ 0 := gj_neq hc281723 (show Int32.toInt 0 = 0 by decide)
      have bp281700' : gB p281700 1 1 := ⟨by omega, by omega⟩
      refine G_aload_n 2 dr_cX17_back_22 rfl ?_
      refine Gp_get 0 hm281702 he281703 dr_cX17_back_23 (gk_X15 D I) (Nat.le_of_ble_eq_true rfl) wr_9_177 rfl ?_
      refine G_bipush 21 dr_cX17_back_26 (by decide +kernel) ?_
      refine G_icmp_ne 42 dr_cX17_back_28 (by decide +kernel) (fun hc281910 => ?_) (fun hc281910 => ?_)
      · have r281911 : p281704.toInt ≠ 21 := gj_neq hc281910 (show Int32.toInt 21 = 21 by decide)
        exact G_vretA dr_cX17_back_42 rfl (Nat.le_of_ble_eq_true rfl) (Nat.le_of_ble_eq_true rfl) ⟨F281697, rfl, rfl, hT, (rStr_rf (γ := γ) (W := []) (F := F281697)), (Nat.le_of_ble_eq_true rfl), (Nat.le_of_ble_eq_true rfl), rfl, rfl⟩
      · have r281912 : p281704.toInt = 21 := gj_eq hc281910 (show Int32.toInt 21 = 21 by decide)
        have bp281704' : gB p281704 21 21 := ⟨by omega, by omega⟩
        refine G_aload_n 1 dr_cX17_back_31 rfl ?_
        have hm281913 : q281698 ∈ P281696 := RS_m hT htq281698 (by decide)
        obtain ⟨q281915, q281916, p281917, p281918, p281919, p281920, p281921, p281922, p281923, p281924, p281925, p281926, p281927, p281928, p281929, p281930, p281931, he281914, hB281958, ht281932, ht281933, ht281934, ht281935, ht281936, ht281937, ht281938, ht281939, ht281940, ht281941, ht281942, ht281943, ht281944, ht281945, ht281946, ht281947, ht281948, ht281949, ht281950, ht281951, ht281952, ht281953, ht281954, ht281955, hB281959⟩ := show rk_10 γ (F281697 q281698) from RS_o hT htq281698
        refine Gp_get 2 hm281913 he281914 dr_cX17_back_32 (gk_X17 D I) (Nat.le_of_ble_eq_true rfl) wr_7_76 rfl ?_
        refine G_aload_n 2 dr_cX17_back_35 rfl ?_
        refine Gp_get 4 hm281702 he281703 dr_cX17_back_36 (gk_X15 D I) (Nat.le_of_ble_eq_true rfl) wr_9_193 rfl ?_
        have hm281960 : (γ 9 2) ∈ P281696 := RS_m hT ht281936 (by decide)
        obtain ⟨f281962, he281961, wf281962⟩ := show rk_35 I (F281697 (γ 9 2)) from RS_o hT ht281936
        refine Gw_callS (As := [.ref (γ 9 2), .int p281708]) (gV_ok D I) (cp_1853_SpillForgeModel_set l hl0 D I P281696 F281697 (γ 9 2) p281708 f281962 hm281960 he281961 bp281708 wf281962) dr_cX17_back_39 ⟨wr_10_189, wr_1_14, wr_10_191, by decide, rfl, (Nat.le_of_ble_eq_true rfl), (Nat.le_of_ble_eq_true rfl)⟩ wr_10_190 (show 0 + 0 ≤ 0 by first | omega | decide) (show 0 + 0 ≤ 0 by first | omega | decide) (Nat.le_of_ble_eq_true rfl) (fun r281966 w281967 dc281963 ds281964 hp281965 => ?_) (fun _ _ _ _ _ z => z.elim)
        obtain ⟨F281970, f281968, rfl, rfl, hfr281972, he281973, hdc, hds, x281969⟩ := hp281965
        have he281974 : F281970 q281699 = .inr (20, [.int p281704, .int p281705, .int p281706, .int p281707, .int p281708, .int p281709, .int p281710]) := (hfr281972 q281699 hm281702 (nm_c (rn_oa he281703 he281961) nm_n)).trans he281703
        have he281975 : F281970 q281698 = .inr (22, [.ref (γ 9 0), .ref (γ 9 1), .ref (γ 9 2), .ref (γ 9 3), .ref (γ 9 4), .ref (γ 9 5), .ref (γ 9 6), .ref (γ 9 7), .ref (γ 9 8), .int p281917, .int p281918, .int p281919, .int p281920, .int p281921, .int p281922, .ref (γ 9 15), .ref (γ 9 16), .ref (γ 9 17), .ref (γ 9 18), .ref (γ 9 19), .ref (γ 9 20), .ref (γ 9 21), .ref (γ 9 22), .int p281923, .int p281924, .int p281925, .int p281926, .int p281927, .ref q281915, .ref (γ 9 29), .int p281928, .ref (γ 9 31), .int p281929, .int p281930, .int p281931, .ref q281916]) := (hfr281972 q281698 hm281913 (nm_c (rn_oa he281914 he281961) nm_n)).trans he281914
        have hfr281976 : rFr [(γ 9 2)] P281696 F281697 F281970 := rFr_call (rSub_rf (P := P281696)) (rFr_rf (W := []) (P := P281696) (F := F281697)) hfr281972 (fun b hb hn => ⟨nm_n, (nm_c (fun e => hn (e ▸ List.mem_cons_self)) nm_n)⟩)
        change G _ _ _ _ _ _ _ _ _ _ _
        refine G_widen (cs' := 0) (sl' := 0) (by omega) (by omega) ?_
        have hT281977 : RS D I P281696 F281970 γ el := RS_fr hT hfr281976 ht281936 (by decide) ⟨f281968, he281973, x281969⟩
        have hs281978 : rStr γ [] F281697 F281970 := rStr_fr hT (rStr_rf (γ := γ) (W := []) (F := F281697)) hfr281976 ht281936 (by decide)
        have kp281979 : F281970 q281698 = F281697 q281698 := hfr281976 q281698 (RS_m hT htq281698 (by decide)) (nm_c (rn_ty htq281698 ht281936 (by decide)) nm_n)
        have kp281980 : F281970 (γ 9 3) = F281697 (γ 9 3) := hfr281976 (γ 9 3) (RS_m hT ht281937 (by decide)) (nm_c (rn_ty ht281937 ht281936 (by decide)) nm_n)
        exact G_vretA dr_cX17_back_42 rfl (Nat.le_of_ble_eq_true rfl) (Nat.le_of_ble_eq_true rfl) ⟨F281970, rfl, rfl, hT281977, hs281978, (Nat.le_of_ble_eq_true rfl), (Nat.le_of_ble_eq_true rfl), kp281979, kp281980⟩
  · have r281981 : 0 ≤ o281720.toInt := gj_nlt hc281721 (show Int32.toInt 0 = 0 by decide)
    have bo281720' : gB o281720 0 1999 := ⟨by omega, by omega⟩
    refine G_aload_n 1 dr_cX17_back_10 rfl ?_
    have hm281982 : q281698 ∈ P281696 := RS_m hT htq281698 (by decide)
    obtain ⟨q281984, q281985, p281986, p281987, p281988, p281989, p281990, p281991, p281992, p281993, p281994, p281995, p281996, p281997, p281998, p281999, p282000, he281983, hB282027, ht282001, ht282002, ht282003, ht282004, ht282005, ht282006, ht282007, ht282008, ht282009, ht282010, ht282011, ht282012, ht282013, ht282014, ht282015, ht282016, ht282017, ht282018, ht282019, ht282020, ht282021, ht282022, ht282023, ht282024, hB282028⟩ := show rk_10 γ (F281697 q281698) from RS_o hT htq281698
    refine Gp_get 2 hm281982 he281983 dr_cX17_back_11 (gk_X17 D I) (Nat.le_of_ble_eq_true rfl) wr_7_76 rfl ?_
    refine G_iload_n 0 dr_cX17_back_14 rfl ?_
    have hm282029 : (γ 9 2) ∈ P281696 := RS_m hT ht282005 (by decide)
    obtain ⟨f282031, he282030, wf282031⟩ := show rk_35 I (F281697 (γ 9 2)) from RS_o hT ht282005
    refine Gw_callS (As := [.ref (γ 9 2), .int o281720]) (gV_ok D I) (cp_1873_SpillForgeModel_clear l hl0 D I P281696 F281697 (γ 9 2) o281720 f282031 hm282029 he282030 bo281720' wf282031) dr_cX17_back_15 ⟨wr_10_185, wr_1_14, wr_10_187, by decide, rfl, (Nat.le_of_ble_eq_true rfl), (Nat.le_of_ble_eq_true rfl)⟩ wr_10_186 (show 0 + 0 ≤ 0 by first | omega | decide) (show 0 + 0 ≤ 0 by first | omega | decide) (Nat.le_of_ble_eq_true rfl) (fun r282035 w282036 dc282032 ds282033 hp282034 => ?_) (fun _ _ _ _ _ z => z.elim)
    obtain ⟨F282039, f282037, rfl, rfl, hfr282041, he282042, hdc, hds, x282038⟩ := hp282034
    have he282043 : F282039 q281699 = .inr (20, [.int p281704, .int p281705, .int p281706, .int p281707, .int p281708, .int p281709, .int p281710]) := (hfr282041 q281699 hm281702 (nm_c (rn_oa he281703 he282030) nm_n)).trans he281703
    have he282044 : F282039 q281698 = .inr (22, [.ref (γ 9 0), .ref (γ 9 1), .ref (γ 9 2), .ref (γ 9 3), .ref (γ 9 4), .ref (γ 9 5), .ref (γ 9 6), .ref (γ 9 7), .ref (γ 9 8), .int p281986, .int p281987, .int p281988, .int p281989, .int p281990, .int p281991, .ref (γ 9 15), .ref (γ 9 16), .ref (γ 9 17), .ref (γ 9 18), .ref (γ 9 19), .ref (γ 9 20), .ref (γ 9 21), .ref (γ 9 22), .int p281992, .int p281993, .int p281994, .int p281995, .int p281996, .ref q281984, .ref (γ 9 29), .int p281997, .ref (γ 9 31), .int p281998, .int p281999, .int p282000, .ref q281985]) := (hfr282041 q281698 hm281982 (nm_c (rn_oa he281983 he282030) nm_n)).trans he281983
    have hfr282045 : rFr [(γ 9 2)] P281696 F281697 F282039 := rFr_call (rSub_rf (P := P281696)) (rFr_rf (W := []) (P := P281696) (F := F281697)) hfr282041 (fun b hb hn => ⟨nm_n, (nm_c (fun e => hn (e ▸ List.mem_cons_self)) nm_n)⟩)
    change G _ _ _ _ _ _ _ _ _ _ _
    refine G_widen (cs' := 0) (sl' := 0) (by omega) (by omega) ?_
    have hT282046 : RS D I P281696 F282039 γ el := RS_fr hT hfr282045 ht282005 (by decide) ⟨f282037, he282042, x282038⟩
    have hs282047 : rStr γ [] F281697 F282039 := rStr_fr hT (rStr_rf (γ := γ) (W := []) (F := F281697)) hfr282045 ht282005 (by decide)
    have kp282048 : F282039 q281698 = F281697 q281698 := hfr282045 q281698 (RS_m hT htq281698 (by decide)) (nm_c (rn_ty htq281698 ht282005 (by decide)) nm_n)
    have kp282049 : F282039 (γ 9 3) = F281697 (γ 9 3) := hfr282045 (γ 9 3) (RS_m hT ht282006 (by decide)) (nm_c (rn_ty ht282006 ht282005 (by decide)) nm_n)
    refine G_iload_n 3 dr_cX17_back_18 rfl ?_
    refine G_if_eq 43 dr_cX17_back_19 (by decide +kernel) (fun hc282050 => ?_) (fun hc282050 => ?_)
    · have r282051 : p281700.toInt = 0 := gj_eq hc282050 (show Int32.toInt 0 = 0 by decide)
      have bp281700' : gB p281700 0 0 := ⟨by omega, by omega⟩
      refine G_aload_n 2 dr_cX17_back_43 rfl ?_
      refine Gw_callV (As := []) (gV_ok D I) (cp_1669_Row_usesA l hl0 D I P281696 F282039 q281699 p281704 p281705 p281706 p281707 p281708 p281709 p281710 hm281702 he282043 bp281704 bp281705 bp281708 bp281709 bp281710) dr_cX17_back_44 ⟨wr_10_192, wr_1_39, wr_10_195, by decide, rfl, (Nat.le_of_ble_eq_true rfl), (Nat.le_of_ble_eq_true rfl)⟩ wr_10_193 wr_10_194 hm281702 he282043 rfl (show 0 + 0 ≤ 0 by first | omega | decide) (show 0 + 0 ≤ 0 by first | omega | decide) (Nat.le_of_ble_eq_true rfl) (fun r282055 w282056 dc282052 ds282053 hp282054 => ?_) (fun _ _ _ _ _ z => z.elim)
      obtain ⟨o282057, rfl, rfl, hdc, hds, bo282057, x282058⟩ := hp282054
      change G _ _ _ _ _ _ _ (.int o282057 :: _) _ _ _
      refine G_widen (cs' := 0) (sl' := 0) (by omega) (by omega) ?_
      refine G_if_eq 61 dr_cX17_back_47 (by decide +kernel) (fun hc282059 => ?_) (fun hc282059 => ?_)
      · have r282060 : o282057.toInt = 0 := gj_eq hc282059 (show Int32.toInt 0 = 0 by decide)
        have bo282057' : gB o282057 0 0 := ⟨by omega, by omega⟩
        refine G_aload_n 2 dr_cX17_back_61 rfl ?_
        refine Gw_callV (As := []) (gV_ok D I) (cp_1693_Row_usesB l hl0 D I P281696 F282039 q281699 p281704 p281705 p281706 p281707 p281708 p281709 p281710 hm281702 he282043 bp281704 bp281705 bp281708 bp281709 bp281710) dr_cX17_back_62 ⟨wr_10_196, wr_1_39, wr_10_199, by decide, rfl, (Nat.le_of_ble_eq_true rfl), (Nat.le_of_ble_eq_true rfl)⟩ wr_10_197 wr_10_198 hm281702 he282043 rfl (show 0 + 0 ≤ 0 by first | omega | decide) (show 0 + 0 ≤ 0 by first | omega | decide) (Nat.le_of_ble_eq_true rfl) (fun r282064 w282065 dc282061 ds282062 hp282063 => ?_) (fun _ _ _ _ _ z => z.elim)
        obtain ⟨o282066, rfl, rfl, hdc, hds, bo282066, x282067⟩ := hp282063
        change G _ _ _ _ _ _ _ (.int o282066 :: _) _ _ _
        refine G_widen (cs' := 0) (sl' := 0) (by omega) (by omega) ?_
        refine G_if_eq 79 dr_cX17_back_65 (by decide +kernel) (fun hc282068 => ?_) (fun hc282068 => ?_)
        · have r282069 : o282066.toInt = 0 := gj_eq hc282068 (show Int32.toInt 0 = 0 by decide)
          have bo282066' : gB o282066 0 0 := ⟨by omega, by omega⟩
          exact G_vretA dr_cX17_back_79 rfl (Nat.le_of_ble_eq_true rfl) (Nat.le_of_ble_eq_true rfl) ⟨F282039, rfl, rfl, hT282046, hs282047, (Nat.le_of_ble_eq_true rfl), (Nat.le_of_ble_eq_true rfl), kp282048, kp282049⟩
        · have r282070 : o282066.toInt ≠ 0 := gj_neq hc282068 (show Int32.toInt 0 = 0 by decide)
          have bo282066' : gB o282066 1 1 := ⟨by omega, by omega⟩
          refine G_aload_n 1 dr_cX17_back_68 rfl ?_
          refine Gp_get 2 hm281982 he282044 dr_cX17_back_69 (gk_X17 D I) (Nat.le_of_ble_eq_true rfl) wr_7_76 rfl ?_
          refine G_aload_n 2 dr_cX17_back_72 rfl ?_
          refine Gp_get 3 hm281702 he282043 dr_cX17_back_73 (gk_X15 D I) (Nat.le_of_ble_eq_true rfl) wr_9_190 rfl ?_
          refine Gw_callS (As := [.ref (γ 9 2), .int p281707]) (gV_ok D I) (cp_1853_SpillForgeModel_set l hl0 D I P281696 F282039 (γ 9 2) p281707 f282037 hm282029 he282042 ⟨by omega, by omega⟩ x282038) dr_cX17_back_76 ⟨wr_10_189, wr_1_14, wr_10_191, by decide, rfl, (Nat.le_of_ble_eq_true rfl), (Nat.le_of_ble_eq_true rfl)⟩ wr_10_190 (show 0 + 0 ≤ 0 by first | omega | decide) (show 0 + 0 ≤ 0 by first | omega | decide) (Nat.le_of_ble_eq_true rfl) (fun r282074 w282075 dc282071 ds282072 hp282073 => ?_) (fun _ _ _ _ _ z => z.elim)
          obtain ⟨F282078, f282076, rfl, rfl, hfr282080, he282081, hdc, hds, x282077⟩ := hp282073
          have he282082 : F282078 q281699 = .inr (20, [.int p281704, .int p281705, .int p281706, .int p281707, .int p281708, .int p281709, .int p281710]) := (hfr282080 q281699 hm281702 (nm_c (rn_oa he282043 he282042) nm_n)).trans he282043
          have he282083 : F282078 q281698 = .inr (22, [.ref (γ 9 0), .ref (γ 9 1), .ref (γ 9 2), .ref (γ 9 3), .ref (γ 9 4), .ref (γ 9 5), .ref (γ 9 6), .ref (γ 9 7), .ref (γ 9 8), .int p281986, .int p281987, .int p281988, .int p281989, .int p281990, .int p281991, .ref (γ 9 15), .ref (γ 9 16), .ref (γ 9 17), .ref (γ 9 18), .ref (γ 9 19), .ref (γ 9 20), .ref (γ 9 21), .ref (γ 9 22), .int p281992, .int p281993, .int p281994, .int p281995, .int p281996, .ref q281984, .ref (γ 9 29), .int p281997, .ref (γ 9 31), .int p281998, .int p281999, .int p282000, .ref q281985]) := (hfr282080 q281698 hm281982 (nm_c (rn_oa he282044 he282042) nm_n)).trans he282044
          have hfr282084 : rFr [(γ 9 2)] P281696 F282039 F282078 := rFr_call (rSub_rf (P := P281696)) (rFr_rf (W := []) (P := P281696) (F := F282039)) hfr282080 (fun b hb hn => ⟨nm_n, (nm_c (fun e => hn (e ▸ List.mem_cons_self)) nm_n)⟩)
          change G _ _ _ _ _ _ _ _ _ _ _
          refine G_widen (cs' := 0) (sl' := 0) (by omega) (by omega) ?_
          have hT282085 : RS D I P281696 F282078 γ el := RS_fr hT282046 hfr282084 ht282005 (by decide) ⟨f282076, he282081, x282077⟩
          have hs282086 : rStr γ [] F281697 F282078 := rStr_fr hT282046 hs282047 hfr282084 ht282005 (by decide)
          have kp282087 : F282078 q281698 = F281697 q281698 := (hfr282084 q281698 (RS_m hT282046 htq281698 (by decide)) (nm_c (rn_ty htq281698 ht282005 (by decide)) nm_n)).trans kp282048
          have kp282088 : F282078 (γ 9 3) = F281697 (γ 9 3) := (hfr282084 (γ 9 3) (RS_m hT282046 ht282006 (by decide)) (nm_c (rn_ty ht282006 ht282005 (by decide)) nm_n)).trans kp282049
          exact G_vretA dr_cX17_back_79 rfl (Nat.le_of_ble_eq_true rfl) (Nat.le_of_ble_eq_true rfl) ⟨F282078, rfl, rfl, hT282085, hs282086, (Nat.le_of_ble_eq_true rfl), (Nat.le_of_ble_eq_true rfl), kp282087, kp282088⟩
      · have r282089 : o282057.toInt ≠ 0 := gj_neq hc282059 (show Int32.toInt 0 = 0 by decide)
        have bo282057' : gB o282057 1 1 := ⟨by omega, by omega⟩
        refine G_aload_n 1 dr_cX17_back_50 rfl ?_
        refine Gp_get 2 hm281982 he282044 dr_cX17_back_51 (gk_X17 D I) (Nat.le_of_ble_eq_true rfl) wr_7_76 rfl ?_
        refine G_aload_n 2 dr_cX17_back_54 rfl ?_
        refine Gp_get 2 hm281702 he282043 dr_cX17_back_55 (gk_X15 D I) (Nat.le_of_ble_eq_true rfl) wr_9_186 rfl ?_
        refine Gw_callS (As := [.ref (γ 9 2), .int p281706]) (gV_ok D I) (cp_1853_SpillForgeModel_set l hl0 D I P281696 F282039 (γ 9 2) p281706 f282037 hm282029 he282042 ⟨by omega, by omega⟩ x282038) dr_cX17_back_58 ⟨wr_10_189, wr_1_14, wr_10_191, by decide, rfl, (Nat.le_of_ble_eq_true rfl), (Nat.le_of_ble_eq_true rfl)⟩ wr_10_190 (show 0 + 0 ≤ 0 by first | omega | decide) (show 0 + 0 ≤ 0 by first | omega | decide) (Nat.le_of_ble_eq_true rfl) (fun r282093 w282094 dc282090 ds282091 hp282092 => ?_) (fun _ _ _ _ _ z => z.elim)
        obtain ⟨F282097, f282095, rfl, rfl, hfr282099, he282100, hdc, hds, x282096⟩ := hp282092
        have he282101 : F282097 q281699 = .inr (20, [.int p281704, .int p281705, .int p281706, .int p281707, .int p281708, .int p281709, .int p281710]) := (hfr282099 q281699 hm281702 (nm_c (rn_oa he282043 he282042) nm_n)).trans he282043
        have he282102 : F282097 q281698 = .inr (22, [.ref (γ 9 0), .ref (γ 9 1), .ref (γ 9 2), .ref (γ 9 3), .ref (γ 9 4), .ref (γ 9 5), .ref (γ 9 6), .ref (γ 9 7), .ref (γ 9 8), .int p281986, .int p281987, .int p281988, .int p281989, .int p281990, .int p281991, .ref (γ 9 15), .ref (γ 9 16), .ref (γ 9 17), .ref (γ 9 18), .ref (γ 9 19), .ref (γ 9 20), .ref (γ 9 21), .ref (γ 9 22), .int p281992, .int p281993, .int p281994, .int p281995, .int p281996, .ref q281984, .ref (γ 9 29), .int p281997, .ref (γ 9 31), .int p281998, .int p281999, .int p282000, .ref q281985]) := (hfr282099 q281698 hm281982 (nm_c (rn_oa he282044 he282042) nm_n)).trans he282044
        have hfr282103 : rFr [(γ 9 2)] P281696 F282039 F282097 := rFr_call (rSub_rf (P := P281696)) (rFr_rf (W := []) (P := P281696) (F := F282039)) hfr282099 (fun b hb hn => ⟨nm_n, (nm_c (fun e => hn (e ▸ List.mem_cons_self)) nm_n)⟩)
        change G _ _ _ _ _ _ _ _ _ _ _
        refine G_widen (cs' := 0) (sl' := 0) (by omega) (by omega) ?_
        have hT282104 : RS D I P281696 F282097 γ el := RS_fr hT282046 hfr282103 ht282005 (by decide) ⟨f282095, he282100, x282096⟩
        have hs282105 : rStr γ [] F281697 F282097 := rStr_fr hT282046 hs282047 hfr282103 ht282005 (by decide)
        have kp282106 : F282097 q281698 = F281697 q281698 := (hfr282103 q281698 (RS_m hT282046 htq281698 (by decide)) (nm_c (rn_ty htq281698 ht282005 (by decide)) nm_n)).trans kp282048
        have kp282107 : F282097 (γ 9 3) = F281697 (γ 9 3) := (hfr282103 (γ 9 3) (RS_m hT282046 ht282006 (by decide)) (nm_c (rn_ty ht282006 ht282005 (by decide)) nm_n)).trans kp282049
        refine G_aload_n 2 dr_cX17_back_61 rfl ?_
        refine Gw_callV (As := []) (gV_ok D I) (cp_1693_Row_usesB l hl0 D I P281696 F282097 q281699 p281704 p281705 p281706 p281707 p281708 p281709 p281710 hm281702 he282101 bp281704 bp281705 bp281708 bp281709 bp281710) dr_cX17_back_62 ⟨wr_10_196, wr_1_39, wr_10_199, by decide, rfl, (Nat.le_of_ble_eq_true rfl), (Nat.le_of_ble_eq_true rfl)⟩ wr_10_197 wr_10_198 hm281702 he282101 rfl (show 0 + 0 ≤ 0 by first | omega | decide) (show 0 + 0 ≤ 0 by first | omega | decide) (Nat.le_of_ble_eq_true rfl) (fun r282111 w282112 dc282108 ds282109 hp282110 => ?_) (fun _ _ _ _ _ z => z.elim)
        obtain ⟨o282113, rfl, rfl, hdc, hds, bo282113, x282114⟩ := hp282110
        change G _ _ _ _ _ _ _ (.int o282113 :: _) _ _ _
        refine G_widen (cs' := 0) (sl' := 0) (by omega) (by omega) ?_
        refine G_if_eq 79 dr_cX17_back_65 (by decide +kernel) (fun hc282115 => ?_) (fun hc282115 => ?_)
        · have r282116 : o282113.toInt = 0 := gj_eq hc282115 (show Int32.toInt 0 = 0 by decide)
          have bo282113' : gB o282113 0 0 := ⟨by omega, by omega⟩
          exact G_vretA dr_cX17_back_79 rfl (Nat.le_of_ble_eq_true rfl) (Nat.le_of_ble_eq_true rfl) ⟨F282097, rfl, rfl, hT282104, hs282105, (Nat.le_of_ble_eq_true rfl), (Nat.le_of_ble_eq_true rfl), kp282106, kp282107⟩
        · have r282117 : o282113.toInt ≠ 0 := gj_neq hc282115 (show Int32.toInt 0 = 0 by decide)
          have bo282113' : gB o282113 1 1 := ⟨by omega, by omega⟩
          refine G_aload_n 1 dr_cX17_back_68 rfl ?_
          refine Gp_get 2 hm281982 he282102 dr_cX17_back_69 (gk_X17 D I) (Nat.le_of_ble_eq_true rfl) wr_7_76 rfl ?_
          refine G_aload_n 2 dr_cX17_back_72 rfl ?_
          refine Gp_get 3 hm281702 he282101 dr_cX17_back_73 (gk_X15 D I) (Nat.le_of_ble_eq_true rfl) wr_9_190 rfl ?_
          refine Gw_callS (As := [.ref (γ 9 2), .int p281707]) (gV_ok D I) (cp_1853_SpillForgeModel_set l hl0 D I P281696 F282097 (γ 9 2) p281707 f282095 hm282029 he282100 ⟨by omega, by omega⟩ x282096) dr_cX17_back_76 ⟨wr_10_189, wr_1_14, wr_10_191, by decide, rfl, (Nat.le_of_ble_eq_true rfl), (Nat.le_of_ble_eq_true rfl)⟩ wr_10_190 (show 0 + 0 ≤ 0 by first | omega | decide) (show 0 + 0 ≤ 0 by first | omega | decide) (Nat.le_of_ble_eq_true rfl) (fun r282121 w282122 dc282118 ds282119 hp282120 => ?_) (fun _ _ _ _ _ z => z.elim)
          obtain ⟨F282125, f282123, rfl, rfl, hfr282127, he282128, hdc, hds, x282124⟩ := hp282120
          have he282129 : F282125 q281699 = .inr (20, [.int p281704, .int p281705, .int p281706, .int p281707, .int p281708, .int p281709, .int p281710]) := (hfr282127 q281699 hm281702 (nm_c (rn_oa he282101 he282100) nm_n)).trans he282101
          have he282130 : F282125 q281698 = .inr (22, [.ref (γ 9 0), .ref (γ 9 1), .ref (γ 9 2), .ref (γ 9 3), .ref (γ 9 4), .ref (γ 9 5), .ref (γ 9 6), .ref (γ 9 7), .ref (γ 9 8), .int p281986, .int p281987, .int p281988, .int p281989, .int p281990, .int p281991, .ref (γ 9 15), .ref (γ 9 16), .ref (γ 9 17), .ref (γ 9 18), .ref (γ 9 19), .ref (γ 9 20), .ref (γ 9 21), .ref (γ 9 22), .int p281992, .int p281993, .int p281994, .int p281995, .int p281996, .ref q281984, .ref (γ 9 29), .int p281997, .ref (γ 9 31), .int p281998, .int p281999, .int p282000, .ref q281985]) := (hfr282127 q281698 hm281982 (nm_c (rn_oa he282102 he282100) nm_n)).trans he282102
          have hfr282131 : rFr [(γ 9 2)] P281696 F282097 F282125 := rFr_call (rSub_rf (P := P281696)) (rFr_rf (W := []) (P := P281696) (F := F282097)) hfr282127 (fun b hb hn => ⟨nm_n, (nm_c (fun e => hn (e ▸ List.mem_cons_self)) nm_n)⟩)
          change G _ _ _ _ _ _ _ _ _ _ _
          refine G_widen (cs' := 0) (sl' := 0) (by omega) (by omega) ?_
          have hT282132 : RS D I P281696 F282125 γ el := RS_fr hT282104 hfr282131 ht282005 (by decide) ⟨f282123, he282128, x282124⟩
          have hs282133 : rStr γ [] F281697 F282125 := rStr_fr hT282104 hs282105 hfr282131 ht282005 (by decide)
          have kp282134 : F282125 q281698 = F281697 q281698 := (hfr282131 q281698 (RS_m hT282104 htq281698 (by decide)) (nm_c (rn_ty htq281698 ht282005 (by decide)) nm_n)).trans kp282106
          have kp282135 : F282125 (γ 9 3) = F281697 (γ 9 3) := (hfr282131 (γ 9 3) (RS_m hT282104 ht282006 (by decide)) (nm_c (rn_ty ht282006 ht282005 (by decide)) nm_n)).trans kp282107
          exact G_vretA dr_cX17_back_79 rfl (Nat.le_of_ble_eq_true rfl) (Nat.le_of_ble_eq_true rfl) ⟨F282125, rfl, rfl, hT282132, hs282133, (Nat.le_of_ble_eq_true rfl), (Nat.le_of_ble_eq_true rfl), kp282134, kp282135⟩
    · have r282136 : p281700.toInt ≠ 0 := gj_neq hc282050 (show Int32.toInt 0 = 0 by decide)
      have bp281700' : gB p281700 1 1 := ⟨by omega, by omega⟩
      refine G_aload_n 2 dr_cX17_back_22 rfl ?_
      refine Gp_get 0 hm281702 he282043 dr_cX17_back_23 (gk_X15 D I) (Nat.le_of_ble_eq_true rfl) wr_9_177 rfl ?_
      refine G_bipush 21 dr_cX17_back_26 (by decide +kernel) ?_
      refine G_icmp_ne 42 dr_cX17_back_28 (by decide +kernel) (fun hc282137 => ?_) (fun hc282137 => ?_)
      · have r282138 : p281704.toInt ≠ 21 := gj_neq hc282137 (show Int32.toInt 21 = 21 by decide)
        exact G_vretA dr_cX17_back_42 rfl (Nat.le_of_ble_eq_true rfl) (Nat.le_of_ble_eq_true rfl) ⟨F282039, rfl, rfl, hT282046, hs282047, (Nat.le_of_ble_eq_true rfl), (Nat.le_of_ble_eq_true rfl), kp282048, kp282049⟩
      · have r282139 : p281704.toInt = 21 := gj_eq hc282137 (show Int32.toInt 21 = 21 by decide)
        have bp281704' : gB p281704 21 21 := ⟨by omega, by omega⟩
        refine G_aload_n 1 dr_cX17_back_31 rfl ?_
        refine Gp_get 2 hm281982 he282044 dr_cX17_back_32 (gk_X17 D I) (Nat.le_of_ble_eq_true rfl) wr_7_76 rfl ?_
        refine G_aload_n 2 dr_cX17_back_35 rfl ?_
        refine Gp_get 4 hm281702 he282043 dr_cX17_back_36 (gk_X15 D I) (Nat.le_of_ble_eq_true rfl) wr_9_193 rfl ?_
        refine Gw_callS (As := [.ref (γ 9 2), .int p281708]) (gV_ok D I) (cp_1853_SpillForgeModel_set l hl0 D I P281696 F282039 (γ 9 2) p281708 f282037 hm282029 he282042 bp281708 x282038) dr_cX17_back_39 ⟨wr_10_189, wr_1_14, wr_10_191, by decide, rfl, (Nat.le_of_ble_eq_true rfl), (Nat.le_of_ble_eq_true rfl)⟩ wr_10_190 (show 0 + 0 ≤ 0 by first | omega | decide) (show 0 + 0 ≤ 0 by first | omega | decide) (Nat.le_of_ble_eq_true rfl) (fun r282143 w282144 dc282140 ds282141 hp282142 => ?_) (fun _ _ _ _ _ z => z.elim)
        obtain ⟨F282147, f282145, rfl, rfl, hfr282149, he282150, hdc, hds, x282146⟩ := hp282142
        have he282151 : F282147 q281699 = .inr (20, [.int p281704, .int p281705, .int p281706, .int p281707, .int p281708, .int p281709, .int p281710]) := (hfr282149 q281699 hm281702 (nm_c (rn_oa he282043 he282042) nm_n)).trans he282043
        have he282152 : F282147 q281698 = .inr (22, [.ref (γ 9 0), .ref (γ 9 1), .ref (γ 9 2), .ref (γ 9 3), .ref (γ 9 4), .ref (γ 9 5), .ref (γ 9 6), .ref (γ 9 7), .ref (γ 9 8), .int p281986, .int p281987, .int p281988, .int p281989, .int p281990, .int p281991, .ref (γ 9 15), .ref (γ 9 16), .ref (γ 9 17), .ref (γ 9 18), .ref (γ 9 19), .ref (γ 9 20), .ref (γ 9 21), .ref (γ 9 22), .int p281992, .int p281993, .int p281994, .int p281995, .int p281996, .ref q281984, .ref (γ 9 29), .int p281997, .ref (γ 9 31), .int p281998, .int p281999, .int p282000, .ref q281985]) := (hfr282149 q281698 hm281982 (nm_c (rn_oa he282044 he282042) nm_n)).trans he282044
        have hfr282153 : rFr [(γ 9 2)] P281696 F282039 F282147 := rFr_call (rSub_rf (P := P281696)) (rFr_rf (W := []) (P := P281696) (F := F282039)) hfr282149 (fun b hb hn => ⟨nm_n, (nm_c (fun e => hn (e ▸ List.mem_cons_self)) nm_n)⟩)
        change G _ _ _ _ _ _ _ _ _ _ _
        refine G_widen (cs' := 0) (sl' := 0) (by omega) (by omega) ?_
        have hT282154 : RS D I P281696 F282147 γ el := RS_fr hT282046 hfr282153 ht282005 (by decide) ⟨f282145, he282150, x282146⟩
        have hs282155 : rStr γ [] F281697 F282147 := rStr_fr hT282046 hs282047 hfr282153 ht282005 (by decide)
        have kp282156 : F282147 q281698 = F281697 q281698 := (hfr282153 q281698 (RS_m hT282046 htq281698 (by decide)) (nm_c (rn_ty htq281698 ht282005 (by decide)) nm_n)).trans kp282048
        have kp282157 : F282147 (γ 9 3) = F281697 (γ 9 3) := (hfr282153 (γ 9 3) (RS_m hT282046 ht282006 (by decide)) (nm_c (rn_ty ht282006 ht282005 (by decide)) nm_n)).trans kp282049
        exact G_vretA dr_cX17_back_42 rfl (Nat.le_of_ble_eq_true rfl) (Nat.le_of_ble_eq_true rfl) ⟨F282147, rfl, rfl, hT282154, hs282155, (Nat.le_of_ble_eq_true rfl), (Nat.le_of_ble_eq_true rfl), kp282156, kp282157⟩
abbrev ky_270948_SpillForgeModel_graph : gKey := (cX17_graph, 11, "SpillForgeModel", none, [], "graph", fun _ _ => True)
def pt_270948_SpillForgeModel_graph (D : va_G) (I : FieldType → ClassId) (γ el : Nat → Nat → Nat) (P270942 : List Nat) (F270943 : Nat → va_E) (q270944 : Nat) (q270945 : Nat) (p270946 : Int32) : Option Value → va_W → Nat → Nat → Prop := fun r w dc ds => ∃ (F375307 : Nat → va_E), r = none ∧ w = va_pl P270942 F375307 ∧ RS D I P270942 F375307 γ el ∧ rStr γ [] F270943 F375307 ∧ dc ≤ 0 ∧ ds ≤ 0 ∧ (p270946.toInt = 0 → rGr γ el F270943 q270945 (γ 6 (γ 1 q270945)) (cB (F375307 (γ 9 3))) (vA (γ 6 (γ 1 q270945)))) ∧ (F375307 q270944 = F270943 q270944)
set_option maxRecDepth 100000 in
set_option maxHeartbeats 4000000 in
theorem ct_270948_SpillForgeModel_graph (l : Launch) (hl0 : l.stackTraces = false) (D : va_G) (I : FieldType → ClassId) (γ el : Nat → Nat → Nat) (P270942 : List Nat) (F270943 : Nat → va_E) (q270944 : Nat) (q270945 : Nat) (p270946 : Int32) (hT : RS D I P270942 F270943 γ el) (htq270944 : rKd γ q270944 10) (htq270945 : rKd γ q270945 9) (bp270946 : gB p270946 0 1) (x270947 : 0 < γ 6 (γ 1 q270945)) : CtA (gV D I) l yX17_graph cX17_graph 11 none 5 111 0 0 [.ref q270944, .ref q270945, .int p270946] (va_pl P270942 F270943) (pt_270948_SpillForgeModel_graph D I γ el P270942 F270943 q270944 q270945 p270946) gNA := by
  refine CtA_of hl0 (by decide) (Nat.le_of_ble_eq_true rfl) ?_
  have hm270949 : q270944 ∈ P270942 := RS_m hT htq270944 (by decide)
  obtain ⟨q270951, q270952, p270953, p270954, p270955, p270956, p270957, p270958, p270959, p270960, p270961, p270962, p270963, p270964, p270965, p270966, p270967, he270950, hB270994, ht270968, ht270969, ht270970, ht270971, ht270972, ht270973, ht270974, ht270975, ht270976, ht270977, ht270978, ht270979, ht270980, ht270981, ht270982, ht270983, ht270984, ht270985, ht270986, ht270987, ht270988, ht270989, ht270990, ht270991, hB270995⟩ := show rk_10 γ (F270943 q270944) from RS_o hT htq270944
  refine G_aload_n 0 dr_cX17_graph_0 rfl ?_
  refine G_aload_n 1 dr_cX17_graph_1 rfl ?_
  refine G_iload_n 2 dr_cX17_graph_2 rfl ?_
  refine Gw_callV (As := [.ref q270945, .int p270946]) (gV_ok D I) (ct_217949_SpillForgeModel_findLive l hl0 D I γ el P270942 F270943 q270944 q270945 p270946 hT htq270944 htq270945 bp270946 (by omega)) dr_cX17_graph_3 ⟨wr_10_156, wr_1_14, wr_10_159, by decide, rfl, (Nat.le_of_ble_eq_true rfl), (Nat.le_of_ble_eq_true rfl)⟩ wr_10_158 wr_p_94 hm270949 he270950 rfl (show 0 + 0 ≤ 0 by first | omega | decide) (show 0 + 0 ≤ 0 by first | omega | decide) (Nat.le_of_ble_eq_true rfl) (fun r270999 w271000 dc270996 ds270997 hp270998 => ?_) (fun _ _ _ _ _ z => z.elim)
  obtain ⟨F271002, rfl, rfl, hT271003, hs271004, hdc, hds, x271001⟩ := hp270998
  have hs271005 : rStr γ [] F270943 F271002 := rStr_tr (rStr_rf (γ := γ) (W := []) (F := F270943)) hs271004
  have kp271006 : F271002 q270944 = F270943 q270944 := x271001
  change G _ _ _ _ _ _ _ _ _ _ _
  refine G_widen (cs' := 0) (sl' := 0) (by omega) (by omega) ?_
  refine G_iconst 0 dr_cX17_graph_6 (by decide +kernel) ?_
  refine G_istore_n (L' := [(3, .int 0), (0, .ref q270944), (1, .ref q270945), (2, .int p270946)]) dr_cX17_graph_7 (Nat.le_of_ble_eq_true rfl) rfl ?_
  have hlp8_359965 : ∀ (n8_359965 : Nat) (F359961 : Nat → va_E) (g359960 : Int32), gB g359960 0 2000 → RS D I P270942 F359961 γ el → rStr γ [] F270943 F359961 → (∀ n : Nat, (n : Int) < g359960.toInt → ¬ rSd (cB (F359961 (γ 9 3))) n) → (F359961 q270944 = F270943 q270944) → ((2001 : Int) - g359960.toInt).toNat < n8_359965 → G (gV D I) l (gRm 5 111 0 0) (gMA (gV D I) (pt_270948_SpillForgeModel_graph D I γ el P270942 F270943 q270944 q270945 p270946) gNA 0 0) ky_270948_SpillForgeModel_graph 8 [(3, .int g359960), (0, .ref q270944), (1, .ref q270945), (2, .int p270946)] [] (va_pl P270942 F359961) 0 0 := by
    intro n8_359965
    induction n8_359965 with
    | zero => intro F359961 g359960 bg359960 hT359962 hs359963 x359964 x359965 hm8_359965; exact absurd hm8_359965 (Nat.not_lt_zero _)
    | succ n8_359965 ih8_359965 =>
      intro F359961 g359960 bg359960 hT359962 hs359963 x359964 x359965 hm8_359965
      have hs359967 : rStr γ [] F271002 F359961 := fun b h0 hb hw => (hs359963 b h0 hb hw).trans (hs271005 b h0 hb hw).symm
      have hs359968 : rStr γ [] F270943 F359961 := rStr_tr hs271005 hs359967
      refine G_iload_n 0 dr_cX17_graph_8 rfl ?_
      refine G_sipush 2000 dr_cX17_graph_9 (by decide +kernel) ?_
      refine G_icmp_ge 54 dr_cX17_graph_12 (by decide +kernel) (fun hc359969 => ?_) (fun hc359969 => ?_)
      · have r359970 : 2000 ≤ g359960.toInt := gj_leL hc359969 (show Int32.toInt 2000 = 2000 by decide)
        have bg359960' : gB g359960 2000 2000 := ⟨by omega, by omega⟩
        refine G_iconst 0 dr_cX17_graph_54 (by decide +kernel) ?_
        refine G_istore_n (L' := [(3, .int 0), (0, .ref q270944), (1, .ref q270945), (2, .int p270946)]) dr_cX17_graph_55 (Nat.le_of_ble_eq_true rfl) rfl ?_
        have hlp56_367532 : ∀ (n56_367532 : Nat) (F367528 : Nat → va_E) (g367527 : Int32), gB g367527 0 1000000 → RS D I P270942 F367528 γ el → rStr γ [] F270943 F367528 → (p270946.toInt = 0 → rGr γ el F270943 q270945 (γ 6 (γ 1 q270945)) (cB (F367528 (γ 9 3))) (vA (g367527.toInt : Int).toNat)) → (F367528 q270944 = F270943 q270944) → ((1000001 : Int) - g367527.toInt).toNat < n56_367532 → G (gV D I) l (gRm 5 111 0 0) (gMA (gV D I) (pt_270948_SpillForgeModel_graph D I γ el P270942 F270943 q270944 q270945 p270946) gNA 0 0) ky_270948_SpillForgeModel_graph 56 [(3, .int g367527), (0, .ref q270944), (1, .ref q270945), (2, .int p270946)] [] (va_pl P270942 F367528) 0 0 := by
          intro n56_367532
          induction n56_367532 with
          | zero => intro F367528 g367527 bg367527 hT367529 hs367530 x367531 x367532 hm56_367532; exact absurd hm56_367532 (Nat.not_lt_zero _)
          | succ n56_367532 ih56_367532 =>
            intro F367528 g367527 bg367527 hT367529 hs367530 x367531 x367532 hm56_367532
            have hs367534 : rStr γ [] F359961 F367528 := fun b h0 hb hw => (hs367530 b h0 hb hw).trans (hs359963 b h0 hb hw).symm
            have hs367535 : rStr γ [] F270943 F367528 := rStr_tr hs359963 hs367534
            refine G_iload_n 0 dr_cX17_graph_56 rfl ?_
            refine G_aload_n 2 dr_cX17_graph_57 rfl ?_
            have hm367536 : q270945 ∈ P270942 := RS_m hT367529 htq270945 (by decide)
            obtain ⟨q367538, q367539, p367540, p367541, he367537, ht367557, ht367542, ht367543, ht367544, ht367545, r367546, r367547, r367548, r367549, r367550, r367551, r367552, r367553, r367554, r367555, r367556⟩ := show rk_9 γ el q270945 (F367528 q270945) from RS_o hT367529 htq270945
            have bp367540 : gB p367540 0 1000000 := ⟨by omega, by omega⟩
            have bp367541 : gB p367541 0 1000000 := ⟨by omega, by omega⟩
            refine Gw_callV (As := []) (gV_ok D I) (cp_12451_Code_size l hl0 D I P270942 F367528 q270945 q367538 q367539 p367540 p367541 hm367536 he367537) dr_cX17_graph_58 ⟨wr_10_160, wr_1_15, wr_9_131, by decide, rfl, (Nat.le_of_ble_eq_true rfl), (Nat.le_of_ble_eq_true rfl)⟩ wr_9_129 wr_9_130 hm367536 he367537 rfl (show 0 + 0 ≤ 0 by first | omega | decide) (show 0 + 0 ≤ 0 by first | omega | decide) (Nat.le_of_ble_eq_true rfl) (fun r367561 w367562 dc367558 ds367559 hp367560 => ?_) (fun _ _ _ _ _ z => z.elim)
            obtain ⟨rfl, rfl, hdc, hds⟩ := hp367560
            change G _ _ _ _ _ _ _ (.int p367541 :: _) _ _ _
            refine G_widen (cs' := 0) (sl' := 0) (by omega) (by omega) ?_
            refine G_icmp_ge 296 dr_cX17_graph_61 (by decide +kernel) (fun hc367563 => ?_) (fun hc367563 => ?_)
            · have r367564 : p367541.toInt ≤ g367527.toInt := gC_le hc367563
              refine G_iconst 0 dr_cX17_graph_296 (by decide +kernel) ?_
              refine G_istore_n (L' := [(3, .int 0), (0, .ref q270944), (1, .ref q270945), (2, .int p270946)]) dr_cX17_graph_297 (Nat.le_of_ble_eq_true rfl) rfl ?_
              have hlp298_368184 : ∀ (n298_368184 : Nat) (F368180 : Nat → va_E) (g368179 : Int32), gB g368179 0 2000 → RS D I P270942 F368180 γ el → rStr γ [] F270943 F368180 → (p270946.toInt = 0 → rGr γ el F270943 q270945 (γ 6 (γ 1 q270945)) (cB (F368180 (γ 9 3))) (vA (γ 6 (γ 1 q270945)))) → (F368180 q270944 = F270943 q270944) → ((2001 : Int) - g368179.toInt).toNat < n298_368184 → G (gV D I) l (gRm 5 111 0 0) (gMA (gV D I) (pt_270948_SpillForgeModel_graph D I γ el P270942 F270943 q270944 q270945 p270946) gNA 0 0) ky_270948_SpillForgeModel_graph 298 [(3, .int g368179), (0, .ref q270944), (1, .ref q270945), (2, .int p270946)] [] (va_pl P270942 F368180) 0 0 := by
                intro n298_368184
                induction n298_368184 with
                | zero => intro F368180 g368179 bg368179 hT368181 hs368182 x368183 x368184 hm298_368184; exact absurd hm298_368184 (Nat.not_lt_zero _)
                | succ n298_368184 ih298_368184 =>
                  intro F368180 g368179 bg368179 hT368181 hs368182 x368183 x368184 hm298_368184
                  have hs368186 : rStr γ [] F367528 F368180 := fun b h0 hb hw => (hs368182 b h0 hb hw).trans (hs367530 b h0 hb hw).symm
                  have he368187 : F368180 q270945 = .inr (18, [.ref q367538, .ref q367539, .int p367540, .int p367541]) := (hs368186 q270945 (rT0 htq270945 (by decide)) (rT1 htq270945 (by decide)) (rT2 htq270945 (by decide))).trans he367537
                  have hs368188 : rStr γ [] F270943 F368180 := rStr_tr hs367530 hs368186
                  refine G_iload_n 0 dr_cX17_graph_298 rfl ?_
                  refine G_sipush 2000 dr_cX17_graph_299 (by decide +kernel) ?_
                  refine G_icmp_ge 389 dr_cX17_graph_302 (by decide +kernel) (fun hc368189 => ?_) (fun hc368189 => ?_)
                  · have r368190 : 2000 ≤ g368179.toInt := gj_leL hc368189 (show Int32.toInt 2000 = 2000 by decide)
                    have bg368179' : gB g368179 2000 2000 := ⟨by omega, by omega⟩
                    exact G_vretA dr_cX17_graph_389 rfl (Nat.le_of_ble_eq_true rfl) (Nat.le_of_ble_eq_true rfl) ⟨F368180, rfl, rfl, hT368181, hs368182, (Nat.le_of_ble_eq_true rfl), (Nat.le_of_ble_eq_true rfl), x368183, x368184⟩
                  · have r368191 : g368179.toInt < 2000 := gj_nleL hc368189 (show Int32.toInt 2000 = 2000 by decide)
                    have bg368179' : gB g368179 0 1999 := ⟨by omega, by omega⟩
                    refine G_aload_n 1 dr_cX17_graph_305 rfl ?_
                    have hm368192 : q270944 ∈ P270942 := RS_m hT368181 htq270944 (by decide)
                    obtain ⟨q368194, q368195, p368196, p368197, p368198, p368199, p368200, p368201, p368202, p368203, p368204, p368205, p368206, p368207, p368208, p368209, p368210, he368193, hB368237, ht368211, ht368212, ht368213, ht368214, ht368215, ht368216, ht368217, ht368218, ht368219, ht368220, ht368221, ht368222, ht368223, ht368224, ht368225, ht368226, ht368227, ht368228, ht368229, ht368230, ht368231, ht368232, ht368233, ht368234, hB368238⟩ := show rk_10 γ (F368180 q270944) from RS_o hT368181 htq270944
                    refine Gp_get 3 hm368192 he368193 dr_cX17_graph_306 (gk_X17 D I) (Nat.le_of_ble_eq_true rfl) wr_7_77 rfl ?_
                    refine G_iload_n 0 dr_cX17_graph_309 rfl ?_
                    have hm368239 : (γ 9 3) ∈ P270942 := RS_m hT368181 ht368216 (by decide)
                    obtain ⟨f368241, he368240, bf368241⟩ := show rk_14 I (F368180 (γ 9 3)) from RS_o hT368181 ht368216
                    refine Gp_zald 3 hm368239 he368240 dr_cX17_graph_310 rfl (gB_in bg368179' (by decide) (by decide)) (G_nam fun z368242 hz368242 => ?_)
                    have bz368242 : gB z368242 0 1 := by rw [hz368242]; exact bf368241 _
                    refine G_if_ne 317 dr_cX17_graph_311 (by decide +kernel) (fun hc368243 => ?_) (fun hc368243 => ?_)
                    · have r368244 : z368242.toInt ≠ 0 := gj_neq hc368243 (show Int32.toInt 0 = 0 by decide)
                      have bz368242' : gB z368242 1 1 := ⟨by omega, by omega⟩
                      refine G_iconst 0 dr_cX17_graph_317 (by decide +kernel) ?_
                      refine G_istore (L' := [(4, .int 0), (3, .int g368179), (0, .ref q270944), (1, .ref q270945), (2, .int p270946)]) dr_cX17_graph_318 (Nat.le_of_ble_eq_true rfl) rfl ?_
                      have hlp320_368523 : ∀ (n320_368523 : Nat) (F368519 : Nat → va_E) (g368518 : Int32), gB g368518 0 32 → RS D I P270942 F368519 γ el → rStr γ [] F270943 F368519 → (p270946.toInt = 0 → rGr γ el F270943 q270945 (γ 6 (γ 1 q270945)) (cB (F368519 (γ 9 3))) (vA (γ 6 (γ 1 q270945)))) → (F368519 q270944 = F270943 q270944) → ((33 : Int) - g368518.toInt).toNat < n320_368523 → G (gV D I) l (gRm 5 111 0 0) (gMA (gV D I) (pt_270948_SpillForgeModel_graph D I γ el P270942 F270943 q270944 q270945 p270946) gNA 0 0) ky_270948_SpillForgeModel_graph 320 [(4, .int g368518), (3, .int g368179), (0, .ref q270944), (1, .ref q270945), (2, .int p270946)] [] (va_pl P270942 F368519) 0 0 := by
                        intro n320_368523
                        induction n320_368523 with
                        | zero => intro F368519 g368518 bg368518 hT368520 hs368521 x368522 x368523 hm320_368523; exact absurd hm320_368523 (Nat.not_lt_zero _)
                        | succ n320_368523 ih320_368523 =>
                          intro F368519 g368518 bg368518 hT368520 hs368521 x368522 x368523 hm320_368523
                          have hs368525 : rStr γ [] F368180 F368519 := fun b h0 hb hw => (hs368521 b h0 hb hw).trans (hs368182 b h0 hb hw).symm
                          have he368526 : F368519 q270945 = .inr (18, [.ref q367538, .ref q367539, .int p367540, .int p367541]) := (hs368525 q270945 (rT0 htq270945 (by decide)) (rT1 htq270945 (by decide)) (rT2 htq270945 (by decide))).trans he368187
                          have hs368527 : rStr γ [] F270943 F368519 := rStr_tr hs368182 hs368525
                          refine G_iload 0 dr_cX17_graph_320 rfl ?_
                          refine G_bipush 32 dr_cX17_graph_322 (by decide +kernel) ?_
                          refine G_icmp_ge 383 dr_cX17_graph_324 (by decide +kernel) (fun hc368528 => ?_) (fun hc368528 => ?_)
                          · have r368529 : 32 ≤ g368518.toInt := gj_leL hc368528 (show Int32.toInt 32 = 32 by decide)
                            have bg368518' : gB g368518 32 32 := ⟨by omega, by omega⟩
                            obtain ⟨z368530, hz368530⟩ : ∃ z : Int32, z = g368179 + Int32.ofInt 1 := ⟨_, rfl⟩
                            have ez368530 : z368530.toInt = g368179.toInt + 1 := gI_inc hz368530 (by decide) bg368179' (by decide) (by decide)
                            have bz368530 : gB z368530 1 2000 := ⟨by omega, by omega⟩
                            refine G_iinc (L' := [(3, .int z368530), (4, .int g368518), (0, .ref q270944), (1, .ref q270945), (2, .int p270946)]) z368530 1 dr_cX17_graph_383 rfl hz368530.symm (Nat.le_of_ble_eq_true rfl) rfl ?_
                            refine G_goto 298 dr_cX17_graph_386 (by decide +kernel) ?_
                            refine G_lv (L' := [(3, .int z368530), (0, .ref q270944), (1, .ref q270945), (2, .int p270946)]) [0, 2, 3, 4] rfl ?_
                            exact ih298_368184 F368519 z368530 (gB_w bz368530 (by decide) (by decide)) hT368520 hs368521 x368522 x368523 (by omega)
                          · have r368531 : g368518.toInt < 32 := gj_nleL hc368528 (show Int32.toInt 32 = 32 by decide)
                            have bg368518' : gB g368518 0 31 := ⟨by omega, by omega⟩
                            refine G_aload_n 2 dr_cX17_graph_327 rfl ?_
                            have hm368532 : q270944 ∈ P270942 := RS_m hT368520 htq270944 (by decide)
                            obtain ⟨q368534, q368535, p368536, p368537, p368538, p368539, p368540, p368541, p368542, p368543, p368544, p368545, p368546, p368547, p368548, p368549, p368550, he368533, hB368577, ht368551, ht368552, ht368553, ht368554, ht368555, ht368556, ht368557, ht368558, ht368559, ht368560, ht368561, ht368562, ht368563, ht368564, ht368565, ht368566, ht368567, ht368568, ht368569, ht368570, ht368571, ht368572, ht368573, ht368574, hB368578⟩ := show rk_10 γ (F368519 q270944) from RS_o hT368520 htq270944
                            refine Gp_get 1 hm368532 he368533 dr_cX17_graph_328 (gk_X17 D I) (Nat.le_of_ble_eq_true rfl) wr_7_75 rfl ?_
                            refine G_iload_n 1 dr_cX17_graph_331 rfl ?_
                            have hm368579 : (γ 9 1) ∈ P270942 := RS_m hT368520 ht368554 (by decide)
                            obtain ⟨f368581, he368580, hg368582⟩ := show rk_13 I γ (F368519 (γ 9 1)) from RS_o hT368520 ht368554
                            obtain ⟨q368583, hx368585⟩ : ∃ x, x = γ 11 g368179.toInt.toNat := ⟨_, rfl⟩
                            have ht368584 : rKd γ q368583 36 := by rw [hx368585]; exact (hg368582 _ (show g368179.toInt.toNat < 2000 by omega)).2.1
                            refine Gp_aald 5 hm368579 he368580 dr_cX17_graph_332 rfl rfl (gB_in bg368179' (by decide) (by decide)) ?_
                            rw [show f368581 g368179.toNatClampNeg = some q368583 from (hg368582 _ (show g368179.toInt.toNat < 2000 by omega)).1.trans (by rw [hx368585])]
                            change G _ _ _ _ _ _ _ (.ref q368583 :: _) _ _ _
                            refine G_iload 0 dr_cX17_graph_333 rfl ?_
                            have hm368586 : q368583 ∈ P270942 := RS_m hT368520 ht368584 (by decide)
                            obtain ⟨f368588, he368587, wf368588⟩ := show rk_36 I (F368519 q368583) from RS_o hT368520 ht368584
                            refine Gp_lald 2 hm368586 he368587 dr_cX17_graph_335 rfl (gB_in bg368518' (by decide) (by decide)) (G_namL fun u368589 hu368589 => ?_)
                            have qu368589 : lb_Q u368589 (2000 - 64 * g368518.toInt) := lb_Wld hu368589 wf368588 (by omega) (by omega) (lb_Mod0 (by omega) (by omega))
                            refine G_lstore (L' := [(5, .long u368589), (4, .int g368518), (3, .int g368179), (0, .ref q270944), (1, .ref q270945), (2, .int p270946)]) dr_cX17_graph_336 (Nat.le_of_ble_eq_true rfl) rfl ?_
                            have hlp338_368696 : ∀ (n338_368696 : Nat) (F368691 : Nat → va_E) (gl368690 : Int64), RS D I P270942 F368691 γ el → rStr γ [] F270943 F368691 → (lb_Q gl368690 (2000 - 64 * g368518.toInt)) → (p270946.toInt = 0 → rGr γ el F270943 q270945 (γ 6 (γ 1 q270945)) (cB (F368691 (γ 9 3))) (vA (γ 6 (γ 1 q270945)))) → (F368691 q270944 = F270943 q270944) → (rpop gl368690) < n338_368696 → G (gV D I) l (gRm 5 111 0 0) (gMA (gV D I) (pt_270948_SpillForgeModel_graph D I γ el P270942 F270943 q270944 q270945 p270946) gNA 0 0) ky_270948_SpillForgeModel_graph 338 [(5, .long gl368690), (4, .int g368518), (3, .int g368179), (0, .ref q270944), (1, .ref q270945), (2, .int p270946)] [] (va_pl P270942 F368691) 0 0 := by
                              intro n338_368696
                              induction n338_368696 with
                              | zero => intro F368691 gl368690 hT368692 hs368693 x368694 x368695 x368696 hm338_368696; exact absurd hm338_368696 (Nat.not_lt_zero _)
                              | succ n338_368696 ih338_368696 =>
                                intro F368691 gl368690 hT368692 hs368693 x368694 x368695 x368696 hm338_368696
                                have hs368698 : rStr γ [] F368519 F368691 := fun b h0 hb hw => (hs368693 b h0 hb hw).trans (hs368521 b h0 hb hw).symm
                                have he368699 : F368691 q270945 = .inr (18, [.ref q367538, .ref q367539, .int p367540, .int p367541]) := (hs368698 q270945 (rT0 htq270945 (by decide)) (rT1 htq270945 (by decide)) (rT2 htq270945 (by decide))).trans he368526
                                have hs368700 : rStr γ [] F270943 F368691 := rStr_tr hs368521 hs368698
                                refine G_lload 0 dr_cX17_graph_338 rfl ?_
                                refine G_lconst 0 dr_cX17_graph_340 rfl ?_
                                refine G_lcmp dr_cX17_graph_341 (G_nam fun z368701 hz368701 => ?_)
                                have bz368701 : gB z368701 (-1) 1 := gB_cmp hz368701
                                refine G_if_eq 377 dr_cX17_graph_342 (by decide +kernel) (fun hc368702 => ?_) (fun hc368702 => ?_)
                                · have r368703 : z368701.toInt = 0 := gj_eq hc368702 (show Int32.toInt 0 = 0 by decide)
                                  have bz368701' : gB z368701 0 0 := ⟨by omega, by omega⟩
                                  have lhc368702 := gC_cmpE hz368701 hc368702
                                  obtain ⟨z368704, hz368704⟩ : ∃ z : Int32, z = g368518 + Int32.ofInt 1 := ⟨_, rfl⟩
                                  have ez368704 : z368704.toInt = g368518.toInt + 1 := gI_inc hz368704 (by decide) bg368518' (by decide) (by decide)
                                  have bz368704 : gB z368704 1 32 := ⟨by omega, by omega⟩
                                  refine G_iinc (L' := [(4, .int z368704), (5, .long gl368690), (3, .int g368179), (0, .ref q270944), (1, .ref q270945), (2, .int p270946)]) z368704 1 dr_cX17_graph_377 rfl hz368704.symm (Nat.le_of_ble_eq_true rfl) rfl ?_
                                  refine G_goto 320 dr_cX17_graph_380 (by decide +kernel) ?_
                                  refine G_lv (L' := [(4, .int z368704), (3, .int g368179), (0, .ref q270944), (1, .ref q270945), (2, .int p270946)]) [0, 2, 3, 4, 5] rfl ?_
                                  exact ih320_368523 F368691 z368704 (gB_w bz368704 (by decide) (by decide)) hT368692 hs368693 x368695 x368696 (by omega)
                                · have r368705 : z368701.toInt ≠ 0 := gj_neq hc368702 (show Int32.toInt 0 = 0 by decide)
                                  have lhc368702 := gC_cmpN hz368701 hc368702
                                  refine G_aload_n 3 dr_cX17_graph_345 rfl ?_
                                  have hm368706 : q270944 ∈ P270942 := RS_m hT368692 htq270944 (by decide)
                                  obtain ⟨q368708, q368709, p368710, p368711, p368712, p368713, p368714, p368715, p368716, p368717, p368718, p368719, p368720, p368721, p368722, p368723, p368724, he368707, hB368751, ht368725, ht368726, ht368727, ht368728, ht368729, ht368730, ht368731, ht368732, ht368733, ht368734, ht368735, ht368736, ht368737, ht368738, ht368739, ht368740, ht368741, ht368742, ht368743, ht368744, ht368745, ht368746, ht368747, ht368748, hB368752⟩ := show rk_10 γ (F368691 q270944) from RS_o hT368692 htq270944
                                  refine Gp_get 1 hm368706 he368707 dr_cX17_graph_346 (gk_X17 D I) (Nat.le_of_ble_eq_true rfl) wr_7_75 rfl ?_
                                  refine G_bipush 64 dr_cX17_graph_349 (by decide +kernel) ?_
                                  refine G_iload 1 dr_cX17_graph_351 rfl ?_
                                  refine G_imul dr_cX17_graph_353 (G_nam fun z368753 hz368753 => ?_)
                                  have ez368753 : z368753.toInt = 64 * g368518.toInt := by rw [gI_mul hz368753 (gBl (show Int32.toInt 64 = 64 by decide)) bg368518' (by decide) (by decide) (by decide), show Int32.toInt 64 = 64 from by decide]
                                  have bz368753 : gB z368753 0 1984 := gB_mul hz368753 (gBl (show Int32.toInt 64 = 64 by decide)) bg368518' (by decide) (by decide) (by decide) (by decide)
                                  refine G_lload 0 dr_cX17_graph_354 rfl ?_
                                  refine Gw_callS (As := [.long gl368690]) (gV_ok D I) (nzc_Long_numberOfTrailingZeros l hl0 D I P270942 F368691 gl368690) dr_cX17_graph_356 ⟨wr_11_1, wr_1_31, wr_11_3, by decide, rfl, (Nat.le_of_ble_eq_true rfl), (Nat.le_of_ble_eq_true rfl)⟩ wr_11_2 (show 0 + 0 ≤ 0 by first | omega | decide) (show 0 + 0 ≤ 0 by first | omega | decide) (Nat.le_of_ble_eq_true rfl) (fun r368757 w368758 dc368754 ds368755 hp368756 => ?_) (fun _ _ _ _ _ z => z.elim)
                                  obtain ⟨o368761, rfl, rfl, hdc, hds, hO368759⟩ := hp368756
                                  have hO368759 := hO368759 lhc368702
                                  have bo368761 : gB o368761 0 63 := ⟨hO368759.1, hO368759.2.1⟩
                                  have r368760 : o368761.toInt < 2000 - 64 * g368518.toInt := lb_Qlt x368694 hO368759.1 hO368759.2.2
                                  change G _ _ _ _ _ _ _ (.int o368761 :: _) _ _ _
                                  refine G_widen (cs' := 0) (sl' := 0) (by omega) (by omega) ?_
                                  refine G_iadd dr_cX17_graph_359 (G_nam fun z368762 hz368762 => ?_)
                                  have ez368762 : z368762.toInt = z368753.toInt + o368761.toInt := by rw [gI_add hz368762 bz368753 bo368761 (by decide) (by decide)]
                                  have bz368762 : gB z368762 0 2047 := gB_add (gI_add hz368762 bz368753 bo368761 (by decide) (by decide)) bz368753 bo368761 (by decide) (by decide)
                                  have hm368763 : (γ 9 1) ∈ P270942 := RS_m hT368692 ht368728 (by decide)
                                  obtain ⟨f368765, he368764, hg368766⟩ := show rk_13 I γ (F368691 (γ 9 1)) from RS_o hT368692 ht368728
                                  obtain ⟨q368767, hx368769⟩ : ∃ x, x = γ 11 z368762.toInt.toNat := ⟨_, rfl⟩
                                  have ht368768 : rKd γ q368767 36 := by rw [hx368769]; exact (hg368766 _ (show z368762.toInt.toNat < 2000 by omega)).2.1
                                  refine Gp_aald 5 hm368763 he368764 dr_cX17_graph_360 rfl rfl (gB_inr (by omega) (by omega)) ?_
                                  rw [show f368765 z368762.toNatClampNeg = some q368767 from (hg368766 _ (show z368762.toInt.toNat < 2000 by omega)).1.trans (by rw [hx368769])]
                                  change G _ _ _ _ _ _ _ (.ref q368767 :: _) _ _ _
                                  refine G_iload_n 2 dr_cX17_graph_361 rfl ?_
                                  have hm368770 : q368767 ∈ P270942 := RS_m hT368692 ht368768 (by decide)
                                  obtain ⟨f368772, he368771, wf368772⟩ := show rk_36 I (F368691 q368767) from RS_o hT368692 ht368768
                                  refine Gw_callS (As := [.ref q368767, .int g368179]) (gV_ok D I) (cp_1853_SpillForgeModel_set l hl0 D I P270942 F368691 q368767 g368179 f368772 hm368770 he368771 bg368179' wf368772) dr_cX17_graph_362 ⟨wr_10_189, wr_1_14, wr_10_191, by decide, rfl, (Nat.le_of_ble_eq_true rfl), (Nat.le_of_ble_eq_true rfl)⟩ wr_10_190 (show 0 + 0 ≤ 0 by first | omega | decide) (show 0 + 0 ≤ 0 by first | omega | decide) (Nat.le_of_ble_eq_true rfl) (fun r368776 w368777 dc368773 ds368774 hp368775 => ?_) (fun _ _ _ _ _ z => z.elim)
                                  obtain ⟨F368780, f368778, rfl, rfl, hfr368782, he368783, hdc, hds, x368779⟩ := hp368775
                                  have he368784 : F368780 q270945 = .inr (18, [.ref q367538, .ref q367539, .int p367540, .int p367541]) := (hfr368782 q270945 hm367536 (nm_c (rn_oa he368699 he368771) nm_n)).trans he368699
                                  have he368785 : F368780 q270944 = .inr (22, [.ref (γ 9 0), .ref (γ 9 1), .ref (γ 9 2), .ref (γ 9 3), .ref (γ 9 4), .ref (γ 9 5), .ref (γ 9 6), .ref (γ 9 7), .ref (γ 9 8), .int p368710, .int p368711, .int p368712, .int p368713, .int p368714, .int p368715, .ref (γ 9 15), .ref (γ 9 16), .ref (γ 9 17), .ref (γ 9 18), .ref (γ 9 19), .ref (γ 9 20), .ref (γ 9 21), .ref (γ 9 22), .int p368716, .int p368717, .int p368718, .int p368719, .int p368720, .ref q368708, .ref (γ 9 29), .int p368721, .ref (γ 9 31), .int p368722, .int p368723, .int p368724, .ref q368709]) := (hfr368782 q270944 hm368706 (nm_c (rn_oa he368707 he368771) nm_n)).trans he368707
                                  have he368786 : F368780 (γ 9 1) = .inl (I (.array .long), 2000, .inr (.inr (.inr (.inr f368765)))) := (hfr368782 (γ 9 1) hm368763 (nm_c (rn_ref_long he368764 he368771) nm_n)).trans he368764
                                  have hfr368787 : rFr [q368767] P270942 F368691 F368780 := rFr_call (rSub_rf (P := P270942)) (rFr_rf (W := []) (P := P270942) (F := F368691)) hfr368782 (fun b hb hn => ⟨nm_n, (nm_c (fun e => hn (e ▸ List.mem_cons_self)) nm_n)⟩)
                                  change G _ _ _ _ _ _ _ _ _ _ _
                                  refine G_widen (cs' := 0) (sl' := 0) (by omega) (by omega) ?_
                                  have hT368788 : RS D I P270942 F368780 γ el := RS_fr hT368692 hfr368787 ht368768 (by decide) ⟨f368778, he368783, x368779⟩
                                  have hs368789 : rStr γ [] F270943 F368780 := rStr_fr hT368692 hs368693 hfr368787 ht368768 (by decide)
                                  have kp368790 : F368780 q270944 = F270943 q270944 := (hfr368787 q270944 (RS_m hT368692 htq270944 (by decide)) (nm_c (rn_ty htq270944 ht368768 (by decide)) nm_n)).trans x368696
                                  have kp368791 : F368780 (γ 9 3) = F368691 (γ 9 3) := hfr368787 (γ 9 3) (RS_m hT368692 ht368730 (by decide)) (nm_c (rn_ty ht368730 ht368768 (by decide)) nm_n)
                                  refine G_lload 0 dr_cX17_graph_365 rfl ?_
                                  refine G_lload 0 dr_cX17_graph_367 rfl ?_
                                  refine G_lconst 1 dr_cX17_graph_369 rfl ?_
                                  refine G_lsub dr_cX17_graph_370 (G_namL fun u368792 hu368792 => ?_)
                                  refine G_land dr_cX17_graph_371 (G_namL fun u368793 hu368793 => ?_)
                                  refine G_lstore (L' := [(5, .long u368793), (4, .int g368518), (3, .int g368179), (0, .ref q270944), (1, .ref q270945), (2, .int p270946)]) dr_cX17_graph_372 (Nat.le_of_ble_eq_true rfl) rfl ?_
                                  refine G_goto 338 dr_cX17_graph_374 (by decide +kernel) ?_
                                  exact ih338_368696 F368780 u368793 hT368788 hs368789 (lb_QandL hu368793 x368694) (by rw [kp368791]; exact x368695) kp368790 (by have q := rpop_low lhc368702 hu368792 hu368793; omega)
                            exact hlp338_368696 ((rpop u368589) + 1) F368519 u368589 hT368520 hs368521 qu368589 x368522 x368523 (Nat.lt_succ_self _)
                      exact hlp320_368523 (((33 : Int) - 0).toNat + 1) F368180 0 (gB_w (gBl (show Int32.toInt 0 = 0 by decide)) (by decide) (by decide)) hT368181 hs368182 x368183 x368184 (Nat.lt_succ_self _)
                    · have r368794 : z368242.toInt = 0 := gj_eq hc368243 (show Int32.toInt 0 = 0 by decide)
                      have bz368242' : gB z368242 0 0 := ⟨by omega, by omega⟩
                      refine G_goto 383 dr_cX17_graph_314 (by decide +kernel) ?_
                      obtain ⟨z368795, hz368795⟩ : ∃ z : Int32, z = g368179 + Int32.ofInt 1 := ⟨_, rfl⟩
                      have ez368795 : z368795.toInt = g368179.toInt + 1 := gI_inc hz368795 (by decide) bg368179' (by decide) (by decide)
                      have bz368795 : gB z368795 1 2000 := ⟨by omega, by omega⟩
                      refine G_iinc (L' := [(3, .int z368795), (0, .ref q270944), (1, .ref q270945), (2, .int p270946)]) z368795 0 dr_cX17_graph_383 rfl hz368795.symm (Nat.le_of_ble_eq_true rfl) rfl ?_
                      refine G_goto 298 dr_cX17_graph_386 (by decide +kernel) ?_
                      exact ih298_368184 F368180 z368795 (gB_w bz368795 (by decide) (by decide)) hT368181 hs368182 x368183 x368184 (by omega)
              exact hlp298_368184 (((2001 : Int) - 0).toNat + 1) F367528 0 (gB_w (gBl (show Int32.toInt 0 = 0 by decide)) (by decide) (by decide)) hT367529 hs367530 (fun h0 => gq_al (x367531 h0) (by omega)) x367532 (Nat.lt_succ_self _)
            · have r368796 : g367527.toInt < p367541.toInt := gC_nle hc367563
              have bg367527' : gB g367527 0 999999 := ⟨by omega, by omega⟩
              have bp367541' : gB p367541 1 1000000 := ⟨by omega, by omega⟩
              refine G_aload_n 2 dr_cX17_graph_64 rfl ?_
              refine G_iload_n 0 dr_cX17_graph_65 rfl ?_
              have hm368797 : q367538 ∈ P270942 := RS_m hT367529 ht367542 (by decide)
              obtain ⟨⟨p368799, p368800, q368801, he368798, r368802, r368803, r368804, r368806⟩, r368805⟩ := show rk_4 D I γ el F367528 q367538 from RS_o hT367529 ht367542
              have bp368799 := gB_any p368799
              have bp368800 : gB p368800 0 1000000 := ⟨by omega, by omega⟩
              obtain ⟨r368807, r368808, n368815, f368816, r368809, r368810, r368811, r368812, r368813, r368814⟩ := rLC_n r368804 (by omega)
              have hm368817 : q368801 ∈ P270942 := RS_m hT367529 r368807 (by decide)
              obtain ⟨q368818, hx368819⟩ : ∃ x, x = el q367538 g367527.toInt.toNat := ⟨_, rfl⟩
              have hx368820 : f368816 g367527.toNatClampNeg = some q368818 := (r368813 _ (show g367527.toInt.toNat < γ 2 q367538 by omega)).trans (by rw [hx368819])
              have ht368823 : rKd γ q368818 2 := by rw [hx368819]; exact (r367553 _ (by omega)).resolve_right (fun z => absurd z.1 (by omega))
              have ht368824 : rFm γ q368818 q367538 := by rw [hx368819]; exact (r368805 _ (show g367527.toInt.toNat < γ 2 q367538 by omega)).2.1
              have hm368825 : q368818 ∈ P270942 := RS_m hT367529 ht368823 (by decide)
              obtain ⟨q368827, q368828, p368829, p368830, he368826, ht368837, ht368831, ht368832, ht368833, ht368834, ht368835, bp368829, bp368830, r368836, r368838, r368839⟩ := show rk_2 γ q368818 (F367528 q368818) from RS_o hT367529 ht368823
              refine Gw_callV (As := [.int g367527]) (gV_ok D I) (cp_7723_Code_get l hl0 D I P270942 F367528 q270945 q367538 q368801 g367527 q367539 p367540 p367541 p368799 p368800 f368816 n368815 q368818 q368827 q368828 p368829 p368830 hm367536 hm368797 hm368817 hm368825 he367537 he368798 r368809 he368826 (gB_w bg367527' (by decide) (by decide)) (gB_w bp368800 (by decide) (by decide)) (by omega) (by omega) (by assumption) (by omega)) dr_cX17_graph_66 ⟨wr_10_161, wr_1_15, wr_10_141, by decide, rfl, (Nat.le_of_ble_eq_true rfl), (Nat.le_of_ble_eq_true rfl)⟩ wr_10_139 wr_10_140 hm367536 he367537 rfl (show 0 + 0 ≤ 0 by first | omega | decide) (show 0 + 0 ≤ 0 by first | omega | decide) (Nat.le_of_ble_eq_true rfl) (fun r368843 w368844 dc368840 ds368841 hp368842 => ?_) (fun _ _ _ _ _ z => z.elim)
              obtain ⟨rfl, rfl, hdc, hds⟩ := hp368842
              change G _ _ _ _ _ _ _ (.ref q368818 :: _) _ _ _
              refine G_widen (cs' := 0) (sl' := 0) (by omega) (by omega) ?_
              have hb368845 : el (γ 14 q270945) (g367527.toInt : Int).toNat = q368818 := by rw [ht367557.1, hx368819]
              refine G_astore (L' := [(4, .ref q368818), (3, .int g367527), (0, .ref q270944), (1, .ref q270945), (2, .int p270946)]) dr_cX17_graph_69 (Nat.le_of_ble_eq_true rfl) rfl ?_
              refine G_aload_n 2 dr_cX17_graph_71 rfl ?_
              refine G_aload 0 dr_cX17_graph_72 rfl ?_
              have hm368851 : q270944 ∈ P270942 := RS_m hT367529 htq270944 (by decide)
              obtain ⟨q368853, q368854, p368855, p368856, p368857, p368858, p368859, p368860, p368861, p368862, p368863, p368864, p368865, p368866, p368867, p368868, p368869, he368852, hB368896, ht368870, ht368871, ht368872, ht368873, ht368874, ht368875, ht368876, ht368877, ht368878, ht368879, ht368880, ht368881, ht368882, ht368883, ht368884, ht368885, ht368886, ht368887, ht368888, ht368889, ht368890, ht368891, ht368892, ht368893, hB368897⟩ := show rk_10 γ (F367528 q270944) from RS_o hT367529 htq270944
              refine Gw_callV (As := [.ref q368818]) (gV_ok D I) (ct_278645_SpillForgeModel_behind l hl0 D I γ el P270942 F367528 q270944 q368818 hT367529 htq270944 ht368823) dr_cX17_graph_74 ⟨wr_10_162, wr_1_14, wr_10_165, by decide, rfl, (Nat.le_of_ble_eq_true rfl), (Nat.le_of_ble_eq_true rfl)⟩ wr_10_164 wr_p_95 hm368851 he368852 rfl (show 0 + 0 ≤ 0 by first | omega | decide) (show 0 + 0 ≤ 0 by first | omega | decide) (Nat.le_of_ble_eq_true rfl) (fun r368849 w368850 dc368846 ds368847 hp368848 => ?_) (fun _ _ _ _ _ z => z.elim)
              obtain ⟨F368900, rfl, rfl, hT368901, hs368902, hdc, hds, x368898, x368899⟩ := hp368848
              have he368903 : F368900 q270945 = .inr (18, [.ref q367538, .ref q367539, .int p367540, .int p367541]) := (hs368902 q270945 (rT0 htq270945 (by decide)) (rT1 htq270945 (by decide)) (rT2 htq270945 (by decide))).trans he367537
              have he368904 : F368900 q367538 = .inr (4, [.int p368799, .ref q368801, .int p368800]) := (hs368902 q367538 (rT0 ht367542 (by decide)) (rT1 ht367542 (by decide)) (rT2 ht367542 (by decide))).trans he368798
              have he368905 : F368900 q368801 = .inl (I (.object "java/lang/Object"), n368815, .inr (.inr (.inr (.inr f368816)))) := (hs368902 q368801 (rT0 r368807 (by decide)) (rT1 r368807 (by decide)) (rT2 r368807 (by decide))).trans r368809
              have he368906 : F368900 q368818 = .inr (17, [.ref q368827, .ref q368828, .int p368829, .int p368830]) := (hs368902 q368818 (rT0 ht368823 (by decide)) (rT1 ht368823 (by decide)) (rT2 ht368823 (by decide))).trans he368826
              have hs368907 : rStr γ [] F270943 F368900 := rStr_tr hs367530 hs368902
              have kp368908 : F368900 q270944 = F270943 q270944 := (x368898).trans x367532
              have kp368909 : F368900 (γ 9 3) = F367528 (γ 9 3) := x368899
              change G _ _ _ _ _ _ _ _ _ _ _
              refine G_widen (cs' := 0) (sl' := 0) (by omega) (by omega) ?_
              refine G_aload_n 2 dr_cX17_graph_77 rfl ?_
              refine G_aload 0 dr_cX17_graph_78 rfl ?_
              refine Gp_get 1 hm368825 he368906 dr_cX17_graph_80 (gk_X12 D I) (Nat.le_of_ble_eq_true rfl) wr_9_223 rfl ?_
              refine G_iload_n 4 dr_cX17_graph_83 rfl ?_
              have hm368915 : q270944 ∈ P270942 := RS_m hT368901 htq270944 (by decide)
              obtain ⟨q368917, q368918, p368919, p368920, p368921, p368922, p368923, p368924, p368925, p368926, p368927, p368928, p368929, p368930, p368931, p368932, p368933, he368916, hB368960, ht368934, ht368935, ht368936, ht368937, ht368938, ht368939, ht368940, ht368941, ht368942, ht368943, ht368944, ht368945, ht368946, ht368947, ht368948, ht368949, ht368950, ht368951, ht368952, ht368953, ht368954, ht368955, ht368956, ht368957, hB368961⟩ := show rk_10 γ (F368900 q270944) from RS_o hT368901 htq270944
              refine Gw_callV (As := [.ref q368828, .int p270946]) (gV_ok D I) (ct_281390_SpillForgeModel_stand l hl0 D I γ el P270942 F368900 q270944 q368828 p270946 hT368901 htq270944 ht368833 bp270946) dr_cX17_graph_84 ⟨wr_10_237, wr_1_14, wr_11_0, by decide, rfl, (Nat.le_of_ble_eq_true rfl), (Nat.le_of_ble_eq_true rfl)⟩ wr_10_239 wr_p_100 hm368915 he368916 rfl (show 0 + 0 ≤ 0 by first | omega | decide) (show 0 + 0 ≤ 0 by first | omega | decide) (Nat.le_of_ble_eq_true rfl) (fun r368913 w368914 dc368910 ds368911 hp368912 => ?_) (fun _ _ _ _ _ z => z.elim)
              obtain ⟨F368964, rfl, rfl, hT368965, hs368966, hdc, hds, x368962, x368963⟩ := hp368912
              have he368967 : F368964 q270945 = .inr (18, [.ref q367538, .ref q367539, .int p367540, .int p367541]) := (hs368966 q270945 (rT0 htq270945 (by decide)) (rT1 htq270945 (by decide)) (rT2 htq270945 (by decide))).trans he368903
              have he368968 : F368964 q367538 = .inr (4, [.int p368799, .ref q368801, .int p368800]) := (hs368966 q367538 (rT0 ht367542 (by decide)) (rT1 ht367542 (by decide)) (rT2 ht367542 (by decide))).trans he368904
              have he368969 : F368964 q368801 = .inl (I (.object "java/lang/Object"), n368815, .inr (.inr (.inr (.inr f368816)))) := (hs368966 q368801 (rT0 r368807 (by decide)) (rT1 r368807 (by decide)) (rT2 r368807 (by decide))).trans he368905
              have he368970 : F368964 q368818 = .inr (17, [.ref q368827, .ref q368828, .int p368829, .int p368830]) := (hs368966 q368818 (rT0 ht368823 (by decide)) (rT1 ht368823 (by decide)) (rT2 ht368823 (by decide))).trans he368906
              have hs368971 : rStr γ [] F270943 F368964 := rStr_tr hs368907 hs368966
              have kp368972 : F368964 q270944 = F270943 q270944 := (x368963).trans kp368908
              change G _ _ _ _ _ _ _ _ _ _ _
              refine G_widen (cs' := 0) (sl' := 0) (by omega) (by omega) ?_
              have hb368973 : el (γ 14 q270945) (g367527.toInt : Int).toNat = q368818 := hb368845
              have hL368974 : rwL γ el q270945 (g367527.toInt : Int).toNat = q368827 := by unfold rwL; rw [hb368973]; exact ht368837.1
              have hs368975 : F368900 q368828 = F270943 q368828 := hs368907 q368828 (rT0 ht368833 (by decide)) (rT1 ht368833 (by decide)) (rT2 ht368833 (by decide))
              have gr368976 : p270946.toInt = 0 → rGr γ el F270943 q270945 (γ 6 (γ 1 q270945)) (cB (F368964 (γ 9 3))) (vB (g367527.toInt : Int).toNat (γ 2 q368827)) := fun h0 => gq_end (x367531 h0) (fun m => by have z := x368962 h0 m; rw [kp368909, hs368975] at z; exact z) ((rAt_e hb368973 ht368837.1 (Nat.le_refl _)).trans ht368837.2.1) (show (g367527.toInt : Int).toNat < γ 6 (γ 1 q270945) by omega) (by rw [hL368974])
              refine G_aload_n 2 dr_cX17_graph_87 rfl ?_
              refine G_aload 0 dr_cX17_graph_88 rfl ?_
              refine Gp_get 1 hm368825 he368970 dr_cX17_graph_90 (gk_X12 D I) (Nat.le_of_ble_eq_true rfl) wr_9_223 rfl ?_
              refine G_iload_n 4 dr_cX17_graph_93 rfl ?_
              have hm368982 : q270944 ∈ P270942 := RS_m hT368965 htq270944 (by decide)
              obtain ⟨q368984, q368985, p368986, p368987, p368988, p368989, p368990, p368991, p368992, p368993, p368994, p368995, p368996, p368997, p368998, p368999, p369000, he368983, hB369027, ht369001, ht369002, ht369003, ht369004, ht369005, ht369006, ht369007, ht369008, ht369009, ht369010, ht369011, ht369012, ht369013, ht369014, ht369015, ht369016, ht369017, ht369018, ht369019, ht369020, ht369021, ht369022, ht369023, ht369024, hB369028⟩ := show rk_10 γ (F368964 q270944) from RS_o hT368965 htq270944
              refine Gw_callV (As := [.ref q368828, .int p270946]) (gV_ok D I) (ct_281701_SpillForgeModel_back l hl0 D I γ el P270942 F368964 q270944 q368828 p270946 hT368965 htq270944 ht368833 bp270946) dr_cX17_graph_94 ⟨wr_10_174, wr_1_14, wr_10_177, by decide, rfl, (Nat.le_of_ble_eq_true rfl), (Nat.le_of_ble_eq_true rfl)⟩ wr_10_176 wr_p_96 hm368982 he368983 rfl (show 0 + 0 ≤ 0 by first | omega | decide) (show 0 + 0 ≤ 0 by first | omega | decide) (Nat.le_of_ble_eq_true rfl) (fun r368980 w368981 dc368977 ds368978 hp368979 => ?_) (fun _ _ _ _ _ z => z.elim)
              obtain ⟨F369031, rfl, rfl, hT369032, hs369033, hdc, hds, x369029, x369030⟩ := hp368979
              have he369034 : F369031 q270945 = .inr (18, [.ref q367538, .ref q367539, .int p367540, .int p367541]) := (hs369033 q270945 (rT0 htq270945 (by decide)) (rT1 htq270945 (by decide)) (rT2 htq270945 (by decide))).trans he368967
              have he369035 : F369031 q367538 = .inr (4, [.int p368799, .ref q368801, .int p368800]) := (hs369033 q367538 (rT0 ht367542 (by decide)) (rT1 ht367542 (by decide)) (rT2 ht367542 (by decide))).trans he368968
              have he369036 : F369031 q368801 = .inl (I (.object "java/lang/Object"), n368815, .inr (.inr (.inr (.inr f368816)))) := (hs369033 q368801 (rT0 r368807 (by decide)) (rT1 r368807 (by decide)) (rT2 r368807 (by decide))).trans he368969
              have he369037 : F369031 q368818 = .inr (17, [.ref q368827, .ref q368828, .int p368829, .int p368830]) := (hs369033 q368818 (rT0 ht368823 (by decide)) (rT1 ht368823 (by decide)) (rT2 ht368823 (by decide))).trans he368970
              have hs369038 : rStr γ [] F270943 F369031 := rStr_tr hs368971 hs369033
              have kp369039 : F369031 q270944 = F270943 q270944 := (x369029).trans kp368972
              have kp369040 : F369031 (γ 9 3) = F368964 (γ 9 3) := x369030
              change G _ _ _ _ _ _ _ _ _ _ _
              refine G_widen (cs' := 0) (sl' := 0) (by omega) (by omega) ?_
              refine G_aload 0 dr_cX17_graph_97 rfl ?_
              refine Gp_get 0 hm368825 he369037 dr_cX17_graph_99 (gk_X12 D I) (Nat.le_of_ble_eq_true rfl) wr_9_220 rfl ?_
              have fl369041 : γ 2 (γ 14 q368818) = γ 2 q368827 := by rw [ht368837.1]
              have hm369042 : q368827 ∈ P270942 := RS_m hT369032 ht368831 (by decide)
              obtain ⟨⟨p369044, p369045, q369046, he369043, r369047, r369048, r369049, r369051⟩, r369050⟩ := show rk_3 D I γ el F369031 q368827 from RS_o hT369032 ht368831
              have bp369044 := gB_any p369044
              have bp369045 : gB p369045 0 1000000 := ⟨by omega, by omega⟩
              refine Gw_callV (As := []) (gV_ok D I) (cp_7_ArrayList_size l hl0 D I P270942 F369031 q368827 p369044 q369046 p369045 hm369042 he369043 (gB_w bp369045 (by decide) (by decide))) dr_cX17_graph_102 ⟨wr_10_200, wr_1_18, wr_9_160, by decide, rfl, (Nat.le_of_ble_eq_true rfl), (Nat.le_of_ble_eq_true rfl)⟩ wr_9_158 wr_9_159 hm369042 he369043 rfl (show 0 + 0 ≤ 0 by first | omega | decide) (show 0 + 0 ≤ 0 by first | omega | decide) (Nat.le_of_ble_eq_true rfl) (fun r369055 w369056 dc369052 ds369053 hp369054 => ?_) (fun _ _ _ _ _ z => z.elim)
              obtain ⟨rfl, rfl, hdc, hds⟩ := hp369054
              change G _ _ _ _ _ _ _ (.int p369045 :: _) _ _ _
              refine G_widen (cs' := 0) (sl' := 0) (by omega) (by omega) ?_
              refine G_iconst 1 dr_cX17_graph_105 (by decide +kernel) ?_
              refine G_isub dr_cX17_graph_106 (G_nam fun z369057 hz369057 => ?_)
              have ez369057 : z369057.toInt = p369045.toInt - 1 := by rw [gI_sub hz369057 bp369045 (gBl (show Int32.toInt 1 = 1 by decide)) (by decide) (by decide), show Int32.toInt 1 = 1 from by decide]
              have bz369057 : gB z369057 (-1) 999999 := gB_sub (gI_sub hz369057 bp369045 (gBl (show Int32.toInt 1 = 1 by decide)) (by decide) (by decide)) bp369045 (gBl (show Int32.toInt 1 = 1 by decide)) (by decide) (by decide)
              refine G_istore (L' := [(5, .int z369057), (4, .ref q368818), (3, .int g367527), (0, .ref q270944), (1, .ref q270945), (2, .int p270946)]) dr_cX17_graph_107 (Nat.le_of_ble_eq_true rfl) rfl ?_
              have hlp109_372076 : ∀ (n109_372076 : Nat) (F372071 : Nat → va_E) (g372070 : Int32), gB g372070 (-1) 999999 → RS D I P270942 F372071 γ el → rStr γ [] F270943 F372071 → ((g372070.toInt : Int) < γ 2 (γ 14 q368818)) → (p270946.toInt = 0 → rGr γ el F270943 q270945 (γ 6 (γ 1 q270945)) (cB (F372071 (γ 9 3))) (vB (g367527.toInt : Int).toNat (g372070.toInt + 1 : Int).toNat)) → (F372071 q270944 = F270943 q270944) → ((g372070.toInt : Int) - (-2)).toNat < n109_372076 → G (gV D I) l (gRm 5 111 0 0) (gMA (gV D I) (pt_270948_SpillForgeModel_graph D I γ el P270942 F270943 q270944 q270945 p270946) gNA 0 0) ky_270948_SpillForgeModel_graph 109 [(5, .int g372070), (4, .ref q368818), (3, .int g367527), (0, .ref q270944), (1, .ref q270945), (2, .int p270946)] [] (va_pl P270942 F372071) 0 0 := by
                intro n109_372076
                induction n109_372076 with
                | zero => intro F372071 g372070 bg372070 hT372072 hs372073 x372074 x372075 x372076 hm109_372076; exact absurd hm109_372076 (Nat.not_lt_zero _)
                | succ n109_372076 ih109_372076 =>
                  intro F372071 g372070 bg372070 hT372072 hs372073 x372074 x372075 x372076 hm109_372076
                  have hs372078 : rStr γ [] F369031 F372071 := fun b h0 hb hw => (hs372073 b h0 hb hw).trans (hs369038 b h0 hb hw).symm
                  have he372079 : F372071 q270945 = .inr (18, [.ref q367538, .ref q367539, .int p367540, .int p367541]) := (hs372078 q270945 (rT0 htq270945 (by decide)) (rT1 htq270945 (by decide)) (rT2 htq270945 (by decide))).trans he369034
                  have he372080 : F372071 q367538 = .inr (4, [.int p368799, .ref q368801, .int p368800]) := (hs372078 q367538 (rT0 ht367542 (by decide)) (rT1 ht367542 (by decide)) (rT2 ht367542 (by decide))).trans he369035
                  have he372081 : F372071 q368801 = .inl (I (.object "java/lang/Object"), n368815, .inr (.inr (.inr (.inr f368816)))) := (hs372078 q368801 (rT0 r368807 (by decide)) (rT1 r368807 (by decide)) (rT2 r368807 (by decide))).trans he369036
                  have he372082 : F372071 q368818 = .inr (17, [.ref q368827, .ref q368828, .int p368829, .int p368830]) := (hs372078 q368818 (rT0 ht368823 (by decide)) (rT1 ht368823 (by decide)) (rT2 ht368823 (by decide))).trans he369037
                  have he372083 : F372071 q368827 = .inr (4, [.int p369044, .ref q369046, .int p369045]) := (hs372078 q368827 (rT0 ht368831 (by decide)) (rT1 ht368831 (by decide)) (rT2 ht368831 (by decide))).trans he369043
                  have hs372084 : rStr γ [] F270943 F372071 := rStr_tr hs369038 hs372078
                  refine G_iload 0 dr_cX17_graph_109 rfl ?_
                  refine G_if_lt 290 dr_cX17_graph_111 (by decide +kernel) (fun hc372085 => ?_) (fun hc372085 => ?_)
                  · have r372086 : g372070.toInt < 0 := gj_lt hc372085 (show Int32.toInt 0 = 0 by decide)
                    have bg372070' : gB g372070 (-1) (-1) := ⟨by omega, by omega⟩
                    obtain ⟨z372087, hz372087⟩ : ∃ z : Int32, z = g367527 + Int32.ofInt 1 := ⟨_, rfl⟩
                    have ez372087 : z372087.toInt = g367527.toInt + 1 := gI_inc hz372087 (by decide) bg367527' (by decide) (by decide)
                    have bz372087 : gB z372087 1 1000000 := ⟨by omega, by omega⟩
                    refine G_iinc (L' := [(3, .int z372087), (5, .int g372070), (4, .ref q368818), (0, .ref q270944), (1, .ref q270945), (2, .int p270946)]) z372087 2 dr_cX17_graph_290 rfl hz372087.symm (Nat.le_of_ble_eq_true rfl) rfl ?_
                    refine G_goto 56 dr_cX17_graph_293 (by decide +kernel) ?_
                    refine G_lv (L' := [(3, .int z372087), (0, .ref q270944), (1, .ref q270945), (2, .int p270946)]) [0, 3, 4, 5] rfl ?_
                    exact ih56_367532 F372071 z372087 (gB_w bz372087 (by decide) (by decide)) hT372072 hs372073 (fun h0 => gq_nx (x372075 h0) (by omega) (by rw [ez372087]; omega)) x372076 (by omega)
                  · have r372088 : 0 ≤ g372070.toInt := gj_nlt hc372085 (show Int32.toInt 0 = 0 by decide)
                    have bg372070' : gB g372070 0 999999 := ⟨by omega, by omega⟩
                    refine G_aload 1 dr_cX17_graph_114 rfl ?_
                    refine Gp_get 0 hm368825 he372082 dr_cX17_graph_116 (gk_X12 D I) (Nat.le_of_ble_eq_true rfl) wr_9_220 rfl ?_
                    refine G_iload 0 dr_cX17_graph_119 rfl ?_
                    have fl372089 : γ 2 (γ 14 q368818) = γ 2 q368827 := by rw [ht368837.1]
                    have hm372090 : q368827 ∈ P270942 := RS_m hT372072 ht368831 (by decide)
                    obtain ⟨⟨p372092, p372093, q372094, he372091, r372095, r372096, r372097, r372099⟩, r372098⟩ := show rk_3 D I γ el F372071 q368827 from RS_o hT372072 ht368831
                    have bp372092 := gB_any p372092
                    have bp372093 : gB p372093 0 1000000 := ⟨by omega, by omega⟩
                    obtain ⟨r372100, r372101, n372108, f372109, r372102, r372103, r372104, r372105, r372106, r372107⟩ := rLC_n r372097 (by omega)
                    have hm372110 : q372094 ∈ P270942 := RS_m hT372072 r372100 (by decide)
                    obtain ⟨q372111, hx372112⟩ : ∃ x, x = el q368827 g372070.toInt.toNat := ⟨_, rfl⟩
                    have hx372113 : f372109 g372070.toNatClampNeg = some q372111 := (r372106 _ (show g372070.toInt.toNat < γ 2 q368827 by omega)).trans (by rw [hx372112])
                    have ht372114 : rKd γ q372111 1 := by rw [hx372112]; exact (r372098 _ (show g372070.toInt.toNat < γ 2 q368827 by omega)).1
                    have ht372115 : rFm γ q372111 q368827 := by rw [hx372112]; exact (r372098 _ (show g372070.toInt.toNat < γ 2 q368827 by omega)).2.1
                    refine Gw_callV (As := [.int g372070]) (gV_ok D I) (cp_22_ArrayList_get l hl0 D I P270942 F372071 q368827 q372094 g372070 p372092 p372093 f372109 n372108 q372111 hm372090 hm372110 he372091 r372102 (gB_w bg372070' (by decide) (by decide)) (gB_w bp372093 (by decide) (by decide)) (by omega) (by omega) (by assumption) (by omega)) dr_cX17_graph_121 ⟨wr_10_201, wr_1_18, wr_10_65, by decide, rfl, (Nat.le_of_ble_eq_true rfl), (Nat.le_of_ble_eq_true rfl)⟩ wr_10_63 wr_10_64 hm372090 he372091 rfl (show 0 + 0 ≤ 0 by first | omega | decide) (show 0 + 0 ≤ 0 by first | omega | decide) (Nat.le_of_ble_eq_true rfl) (fun r372119 w372120 dc372116 ds372117 hp372118 => ?_) (fun _ _ _ _ _ z => z.elim)
                    obtain ⟨rfl, rfl, hdc, hds⟩ := hp372118
                    change G _ _ _ _ _ _ _ (.ref q372111 :: _) _ _ _
                    refine G_widen (cs' := 0) (sl' := 0) (by omega) (by omega) ?_
                    have hr372121 : el q368827 (g372070.toInt : Int).toNat = q372111 := by rw [hx372112]
                    have hm372122 : q372111 ∈ P270942 := RS_m hT372072 ht372114 (by decide)
                    obtain ⟨p372124, p372125, p372126, p372127, p372128, p372129, p372130, he372123, bp372124, bp372125, bp372128, bp372129, bp372130, r372131, r372132, r372133, r372134⟩ := show rk_1 γ q372111 (F372071 q372111) from RS_o hT372072 ht372114
                    have bp372126 := gB_any p372126
                    have bp372127 := gB_any p372127
                    refine Gp_cast hm372122 he372123 rfl dr_cX17_graph_124 wr_10_202 (gr_cast 1 rfl) ?_
                    refine G_astore (L' := [(6, .ref q372111), (5, .int g372070), (4, .ref q368818), (3, .int g367527), (0, .ref q270944), (1, .ref q270945), (2, .int p270946)]) dr_cX17_graph_127 (Nat.le_of_ble_eq_true rfl) rfl ?_
                    refine G_aload_n 4 dr_cX17_graph_129 rfl ?_
                    refine G_aload 0 dr_cX17_graph_130 rfl ?_
                    refine G_iload_n 6 dr_cX17_graph_132 rfl ?_
                    have hm372140 : q270944 ∈ P270942 := RS_m hT372072 htq270944 (by decide)
                    obtain ⟨q372142, q372143, p372144, p372145, p372146, p372147, p372148, p372149, p372150, p372151, p372152, p372153, p372154, p372155, p372156, p372157, p372158, he372141, hB372185, ht372159, ht372160, ht372161, ht372162, ht372163, ht372164, ht372165, ht372166, ht372167, ht372168, ht372169, ht372170, ht372171, ht372172, ht372173, ht372174, ht372175, ht372176, ht372177, ht372178, ht372179, ht372180, ht372181, ht372182, hB372186⟩ := show rk_10 γ (F372071 q270944) from RS_o hT372072 htq270944
                    refine Gw_callV (As := [.ref q372111, .int p270946]) (gV_ok D I) (ct_281390_SpillForgeModel_stand l hl0 D I γ el P270942 F372071 q270944 q372111 p270946 hT372072 htq270944 ht372114 bp270946) dr_cX17_graph_133 ⟨wr_10_237, wr_1_14, wr_11_0, by decide, rfl, (Nat.le_of_ble_eq_true rfl), (Nat.le_of_ble_eq_true rfl)⟩ wr_10_239 wr_p_100 hm372140 he372141 rfl (show 0 + 0 ≤ 0 by first | omega | decide) (show 0 + 0 ≤ 0 by first | omega | decide) (Nat.le_of_ble_eq_true rfl) (fun r372138 w372139 dc372135 ds372136 hp372137 => ?_) (fun _ _ _ _ _ z => z.elim)
                    obtain ⟨F372189, rfl, rfl, hT372190, hs372191, hdc, hds, x372187, x372188⟩ := hp372137
                    have he372192 : F372189 q270945 = .inr (18, [.ref q367538, .ref q367539, .int p367540, .int p367541]) := (hs372191 q270945 (rT0 htq270945 (by decide)) (rT1 htq270945 (by decide)) (rT2 htq270945 (by decide))).trans he372079
                    have he372193 : F372189 q367538 = .inr (4, [.int p368799, .ref q368801, .int p368800]) := (hs372191 q367538 (rT0 ht367542 (by decide)) (rT1 ht367542 (by decide)) (rT2 ht367542 (by decide))).trans he372080
                    have he372194 : F372189 q368801 = .inl (I (.object "java/lang/Object"), n368815, .inr (.inr (.inr (.inr f368816)))) := (hs372191 q368801 (rT0 r368807 (by decide)) (rT1 r368807 (by decide)) (rT2 r368807 (by decide))).trans he372081
                    have he372195 : F372189 q368818 = .inr (17, [.ref q368827, .ref q368828, .int p368829, .int p368830]) := (hs372191 q368818 (rT0 ht368823 (by decide)) (rT1 ht368823 (by decide)) (rT2 ht368823 (by decide))).trans he372082
                    have he372196 : F372189 q368827 = .inr (4, [.int p372092, .ref q372094, .int p372093]) := (hs372191 q368827 (rT0 ht368831 (by decide)) (rT1 ht368831 (by decide)) (rT2 ht368831 (by decide))).trans he372091
                    have he372197 : F372189 q372094 = .inl (I (.object "java/lang/Object"), n372108, .inr (.inr (.inr (.inr f372109)))) := (hs372191 q372094 (rT0 r372100 (by decide)) (rT1 r372100 (by decide)) (rT2 r372100 (by decide))).trans r372102
                    have he372198 : F372189 q372111 = .inr (20, [.int p372124, .int p372125, .int p372126, .int p372127, .int p372128, .int p372129, .int p372130]) := (hs372191 q372111 (rT0 ht372114 (by decide)) (rT1 ht372114 (by decide)) (rT2 ht372114 (by decide))).trans he372123
                    have hs372199 : rStr γ [] F270943 F372189 := rStr_tr hs372073 hs372191
                    have kp372200 : F372189 q270944 = F270943 q270944 := (x372188).trans x372076
                    change G _ _ _ _ _ _ _ _ _ _ _
                    refine G_widen (cs' := 0) (sl' := 0) (by omega) (by omega) ?_
                    have hb372201 : el (γ 14 q270945) (g367527.toInt : Int).toNat = q368818 := hb368845
                    have hL372202 : rwL γ el q270945 (g367527.toInt : Int).toNat = q368827 := by unfold rwL; rw [hb372201]; exact ht368837.1
                    have hs372203 : F372071 q372111 = F270943 q372111 := hs372073 q372111 (rT0 ht372114 (by decide)) (rT1 ht372114 (by decide)) (rT2 ht372114 (by decide))
                    have gr372204 : p270946.toInt = 0 → rGr γ el F270943 q270945 (γ 6 (γ 1 q270945)) (cB (F372189 (γ 9 3))) (vB (g367527.toInt : Int).toNat (g372070.toInt : Int).toNat) := fun h0 => gq_row (x372075 h0) (fun m => by have z := x372187 h0 m; rw [hs372203] at z; exact z) ((rAt_r hb372201 ht368837.1 (by omega)).trans hr372121) (show (g367527.toInt : Int).toNat < γ 6 (γ 1 q270945) by omega) (by rw [hL372202]; omega) (by omega)
                    refine G_aload 0 dr_cX17_graph_136 rfl ?_
                    refine G_iload_n 6 dr_cX17_graph_138 rfl ?_
                    refine Gw_callS (As := [.ref q372111, .int p270946]) (gV_ok D I) (cp_1778_SpillForgeModel_setOf l hl0 D I P270942 F372189 q372111 p270946 p372124 p372125 p372126 p372127 p372128 p372129 p372130 hm372122 he372198 bp270946 bp372124 bp372125 bp372128 bp372129 bp372130) dr_cX17_graph_139 ⟨wr_10_178, wr_1_14, wr_10_180, by decide, rfl, (Nat.le_of_ble_eq_true rfl), (Nat.le_of_ble_eq_true rfl)⟩ wr_10_179 (show 0 + 0 ≤ 0 by first | omega | decide) (show 0 + 0 ≤ 0 by first | omega | decide) (Nat.le_of_ble_eq_true rfl) (fun r372208 w372209 dc372205 ds372206 hp372207 => ?_) (fun _ _ _ _ _ z => z.elim)
                    obtain ⟨o372210, rfl, rfl, hdc, hds, bo372210⟩ := hp372207
                    change G _ _ _ _ _ _ _ (.int o372210 :: _) _ _ _
                    refine G_widen (cs' := 0) (sl' := 0) (by omega) (by omega) ?_
                    refine G_istore (L' := [(7, .int o372210), (6, .ref q372111), (5, .int g372070), (4, .ref q368818), (3, .int g367527), (0, .ref q270944), (1, .ref q270945), (2, .int p270946)]) dr_cX17_graph_142 (Nat.le_of_ble_eq_true rfl) rfl ?_
                    refine G_iload_n 7 dr_cX17_graph_144 rfl ?_
                    refine G_if_ne 172 dr_cX17_graph_145 (by decide +kernel) (fun hc372211 => ?_) (fun hc372211 => ?_)
                    · have r372212 : p270946.toInt ≠ 0 := gj_neq hc372211 (show Int32.toInt 0 = 0 by decide)
                      have bp270946' : gB p270946 1 1 := ⟨by omega, by omega⟩
                      refine G_iconst (-1) dr_cX17_graph_172 (by decide +kernel) ?_
                      refine G_istore (L' := [(8, .int (-1)), (7, .int o372210), (6, .ref q372111), (5, .int g372070), (4, .ref q368818), (3, .int g367527), (0, .ref q270944), (1, .ref q270945), (2, .int p270946)]) dr_cX17_graph_173 (Nat.le_of_ble_eq_true rfl) rfl ?_
                      refine G_iload 1 dr_cX17_graph_175 rfl ?_
                      refine G_if_lt 277 dr_cX17_graph_177 (by decide +kernel) (fun hc372213 => ?_) (fun hc372213 => ?_)
                      · have r372214 : o372210.toInt < 0 := gj_lt hc372213 (show Int32.toInt 0 = 0 by decide)
                        have bo372210' : gB o372210 (-1) (-1) := ⟨by omega, by omega⟩
                        refine G_aload_n 6 dr_cX17_graph_277 rfl ?_
                        refine G_aload 2 dr_cX17_graph_278 rfl ?_
                        refine G_iload_n 8 dr_cX17_graph_280 rfl ?_
                        have hm372220 : q270944 ∈ P270942 := RS_m hT372190 htq270944 (by decide)
                        obtain ⟨q372222, q372223, p372224, p372225, p372226, p372227, p372228, p372229, p372230, p372231, p372232, p372233, p372234, p372235, p372236, p372237, p372238, he372221, hB372265, ht372239, ht372240, ht372241, ht372242, ht372243, ht372244, ht372245, ht372246, ht372247, ht372248, ht372249, ht372250, ht372251, ht372252, ht372253, ht372254, ht372255, ht372256, ht372257, ht372258, ht372259, ht372260, ht372261, ht372262, hB372266⟩ := show rk_10 γ (F372189 q270944) from RS_o hT372190 htq270944
                        refine Gw_callV (As := [.ref q372111, .int p270946]) (gV_ok D I) (ct_281701_SpillForgeModel_back l hl0 D I γ el P270942 F372189 q270944 q372111 p270946 hT372190 htq270944 ht372114 (gB_w bp270946' (by decide) (by decide))) dr_cX17_graph_281 ⟨wr_10_174, wr_1_14, wr_10_177, by decide, rfl, (Nat.le_of_ble_eq_true rfl), (Nat.le_of_ble_eq_true rfl)⟩ wr_10_176 wr_p_96 hm372220 he372221 rfl (show 0 + 0 ≤ 0 by first | omega | decide) (show 0 + 0 ≤ 0 by first | omega | decide) (Nat.le_of_ble_eq_true rfl) (fun r372218 w372219 dc372215 ds372216 hp372217 => ?_) (fun _ _ _ _ _ z => z.elim)
                        obtain ⟨F372269, rfl, rfl, hT372270, hs372271, hdc, hds, x372267, x372268⟩ := hp372217
                        have he372272 : F372269 q270945 = .inr (18, [.ref q367538, .ref q367539, .int p367540, .int p367541]) := (hs372271 q270945 (rT0 htq270945 (by decide)) (rT1 htq270945 (by decide)) (rT2 htq270945 (by decide))).trans he372192
                        have he372273 : F372269 q367538 = .inr (4, [.int p368799, .ref q368801, .int p368800]) := (hs372271 q367538 (rT0 ht367542 (by decide)) (rT1 ht367542 (by decide)) (rT2 ht367542 (by decide))).trans he372193
                        have he372274 : F372269 q368801 = .inl (I (.object "java/lang/Object"), n368815, .inr (.inr (.inr (.inr f368816)))) := (hs372271 q368801 (rT0 r368807 (by decide)) (rT1 r368807 (by decide)) (rT2 r368807 (by decide))).trans he372194
                        have he372275 : F372269 q368818 = .inr (17, [.ref q368827, .ref q368828, .int p368829, .int p368830]) := (hs372271 q368818 (rT0 ht368823 (by decide)) (rT1 ht368823 (by decide)) (rT2 ht368823 (by decide))).trans he372195
                        have he372276 : F372269 q368827 = .inr (4, [.int p372092, .ref q372094, .int p372093]) := (hs372271 q368827 (rT0 ht368831 (by decide)) (rT1 ht368831 (by decide)) (rT2 ht368831 (by decide))).trans he372196
                        have he372277 : F372269 q372094 = .inl (I (.object "java/lang/Object"), n372108, .inr (.inr (.inr (.inr f372109)))) := (hs372271 q372094 (rT0 r372100 (by decide)) (rT1 r372100 (by decide)) (rT2 r372100 (by decide))).trans he372197
                        have he372278 : F372269 q372111 = .inr (20, [.int p372124, .int p372125, .int p372126, .int p372127, .int p372128, .int p372129, .int p372130]) := (hs372271 q372111 (rT0 ht372114 (by decide)) (rT1 ht372114 (by decide)) (rT2 ht372114 (by decide))).trans he372198
                        have hs372279 : rStr γ [] F270943 F372269 := rStr_tr hs372199 hs372271
                        have kp372280 : F372269 q270944 = F270943 q270944 := (x372267).trans kp372200
                        have kp372281 : F372269 (γ 9 3) = F372189 (γ 9 3) := x372268
                        change G _ _ _ _ _ _ _ _ _ _ _
                        refine G_widen (cs' := 0) (sl' := 0) (by omega) (by omega) ?_
                        obtain ⟨z372282, hz372282⟩ : ∃ z : Int32, z = g372070 + Int32.ofInt (-1) := ⟨_, rfl⟩
                        have ez372282 : z372282.toInt = g372070.toInt + (-1) := gI_inc hz372282 (by decide) bg372070' (by decide) (by decide)
                        have bz372282 : gB z372282 (-1) 999998 := ⟨by omega, by omega⟩
                        refine G_iinc (L' := [(5, .int z372282), (8, .int (-1)), (7, .int o372210), (6, .ref q372111), (4, .ref q368818), (3, .int g367527), (0, .ref q270944), (1, .ref q270945), (2, .int p270946)]) z372282 3 dr_cX17_graph_284 rfl hz372282.symm (Nat.le_of_ble_eq_true rfl) rfl ?_
                        refine G_goto 109 dr_cX17_graph_287 (by decide +kernel) ?_
                        refine G_lv (L' := [(5, .int z372282), (4, .ref q368818), (3, .int g367527), (0, .ref q270944), (1, .ref q270945), (2, .int p270946)]) [0, 4, 5, 6, 7, 8] rfl ?_
                        exact ih109_372076 F372269 z372282 (gB_w bz372282 (by decide) (by decide)) hT372270 hs372279 (by omega) (fun h0 => by have z := (by rw [kp372281]; exact gr372204) h0; rw [show ((g372070.toInt : Int).toNat : Nat) = (z372282.toInt + 1 : Int).toNat by omega] at z; exact z) kp372280 (by omega)
                      · have r372283 : 0 ≤ o372210.toInt := gj_nlt hc372213 (show Int32.toInt 0 = 0 by decide)
                        have bo372210' : gB o372210 0 1999 := ⟨by omega, by omega⟩
                        refine G_iload 0 dr_cX17_graph_180 rfl ?_
                        refine G_if_lt 204 dr_cX17_graph_182 (by decide +kernel) (fun _ => ?_) (fun hc => absurd hc (by decide))
                        refine G_iconst 0 dr_cX17_graph_204 (by decide +kernel) ?_
                        refine G_istore (L' := [(9, .int 0), (8, .int (-1)), (7, .int o372210), (6, .ref q372111), (5, .int g372070), (4, .ref q368818), (3, .int g367527), (0, .ref q270944), (1, .ref q270945), (2, .int p270946)]) dr_cX17_graph_205 (Nat.le_of_ble_eq_true rfl) rfl ?_
                        refine G_iconst 0 dr_cX17_graph_207 (by decide +kernel) ?_
                        refine G_istore (L' := [(10, .int 0), (9, .int 0), (8, .int (-1)), (7, .int o372210), (6, .ref q372111), (5, .int g372070), (4, .ref q368818), (3, .int g367527), (0, .ref q270944), (1, .ref q270945), (2, .int p270946)]) dr_cX17_graph_208 (Nat.le_of_ble_eq_true rfl) rfl ?_
                        have hlp210_372491 : ∀ (n210_372491 : Nat) (F372487 : Nat → va_E) (g372486 : Int32), gB g372486 0 32 → RS D I P270942 F372487 γ el → rStr γ [] F270943 F372487 → (p270946.toInt = 0 → rGr γ el F270943 q270945 (γ 6 (γ 1 q270945)) (cB (F372487 (γ 9 3))) (vB (g367527.toInt : Int).toNat (g372070.toInt : Int).toNat)) → (F372487 q270944 = F270943 q270944) → ((33 : Int) - g372486.toInt).toNat < n210_372491 → G (gV D I) l (gRm 5 111 0 0) (gMA (gV D I) (pt_270948_SpillForgeModel_graph D I γ el P270942 F270943 q270944 q270945 p270946) gNA 0 0) ky_270948_SpillForgeModel_graph 210 [(10, .int g372486), (9, .int 0), (8, .int (-1)), (7, .int o372210), (6, .ref q372111), (5, .int g372070), (4, .ref q368818), (3, .int g367527), (0, .ref q270944), (1, .ref q270945), (2, .int p270946)] [] (va_pl P270942 F372487) 0 0 := by
                          intro n210_372491
                          induction n210_372491 with
                          | zero => intro F372487 g372486 bg372486 hT372488 hs372489 x372490 x372491 hm210_372491; exact absurd hm210_372491 (Nat.not_lt_zero _)
                          | succ n210_372491 ih210_372491 =>
                            intro F372487 g372486 bg372486 hT372488 hs372489 x372490 x372491 hm210_372491
                            have hs372493 : rStr γ [] F372189 F372487 := fun b h0 hb hw => (hs372489 b h0 hb hw).trans (hs372199 b h0 hb hw).symm
                            have he372494 : F372487 q270945 = .inr (18, [.ref q367538, .ref q367539, .int p367540, .int p367541]) := (hs372493 q270945 (rT0 htq270945 (by decide)) (rT1 htq270945 (by decide)) (rT2 htq270945 (by decide))).trans he372192
                            have he372495 : F372487 q367538 = .inr (4, [.int p368799, .ref q368801, .int p368800]) := (hs372493 q367538 (rT0 ht367542 (by decide)) (rT1 ht367542 (by decide)) (rT2 ht367542 (by decide))).trans he372193
                            have he372496 : F372487 q368801 = .inl (I (.object "java/lang/Object"), n368815, .inr (.inr (.inr (.inr f368816)))) := (hs372493 q368801 (rT0 r368807 (by decide)) (rT1 r368807 (by decide)) (rT2 r368807 (by decide))).trans he372194
                            have he372497 : F372487 q368818 = .inr (17, [.ref q368827, .ref q368828, .int p368829, .int p368830]) := (hs372493 q368818 (rT0 ht368823 (by decide)) (rT1 ht368823 (by decide)) (rT2 ht368823 (by decide))).trans he372195
                            have he372498 : F372487 q368827 = .inr (4, [.int p372092, .ref q372094, .int p372093]) := (hs372493 q368827 (rT0 ht368831 (by decide)) (rT1 ht368831 (by decide)) (rT2 ht368831 (by decide))).trans he372196
                            have he372499 : F372487 q372094 = .inl (I (.object "java/lang/Object"), n372108, .inr (.inr (.inr (.inr f372109)))) := (hs372493 q372094 (rT0 r372100 (by decide)) (rT1 r372100 (by decide)) (rT2 r372100 (by decide))).trans he372197
                            have he372500 : F372487 q372111 = .inr (20, [.int p372124, .int p372125, .int p372126, .int p372127, .int p372128, .int p372129, .int p372130]) := (hs372493 q372111 (rT0 ht372114 (by decide)) (rT1 ht372114 (by decide)) (rT2 ht372114 (by decide))).trans he372198
                            have hs372501 : rStr γ [] F270943 F372487 := rStr_tr hs372199 hs372493
                            refine G_iload 0 dr_cX17_graph_210 rfl ?_
                            refine G_bipush 32 dr_cX17_graph_212 (by decide +kernel) ?_
                            refine G_icmp_ge 243 dr_cX17_graph_214 (by decide +kernel) (fun hc372502 => ?_) (fun hc372502 => ?_)
                            · have r372503 : 32 ≤ g372486.toInt := gj_leL hc372502 (show Int32.toInt 32 = 32 by decide)
                              have bg372486' : gB g372486 32 32 := ⟨by omega, by omega⟩
                              refine G_iload 2 dr_cX17_graph_243 rfl ?_
                              refine G_if_lt 265 dr_cX17_graph_245 (by decide +kernel) (fun _ => ?_) (fun hc => absurd hc (by decide))
                              refine G_aload_n 8 dr_cX17_graph_265 rfl ?_
                              have hm372504 : q270944 ∈ P270942 := RS_m hT372488 htq270944 (by decide)
                              obtain ⟨q372506, q372507, p372508, p372509, p372510, p372511, p372512, p372513, p372514, p372515, p372516, p372517, p372518, p372519, p372520, p372521, p372522, he372505, hB372549, ht372523, ht372524, ht372525, ht372526, ht372527, ht372528, ht372529, ht372530, ht372531, ht372532, ht372533, ht372534, ht372535, ht372536, ht372537, ht372538, ht372539, ht372540, ht372541, ht372542, ht372543, ht372544, ht372545, ht372546, hB372550⟩ := show rk_10 γ (F372487 q270944) from RS_o hT372488 htq270944
                              refine Gp_get 1 hm372504 he372505 dr_cX17_graph_266 (gk_X17 D I) (Nat.le_of_ble_eq_true rfl) wr_7_75 rfl ?_
                              refine G_iload 3 dr_cX17_graph_269 rfl ?_
                              have hm372551 : (γ 9 1) ∈ P270942 := RS_m hT372488 ht372526 (by decide)
                              obtain ⟨f372553, he372552, hg372554⟩ := show rk_13 I γ (F372487 (γ 9 1)) from RS_o hT372488 ht372526
                              obtain ⟨q372555, hx372557⟩ : ∃ x, x = γ 11 o372210.toInt.toNat := ⟨_, rfl⟩
                              have ht372556 : rKd γ q372555 36 := by rw [hx372557]; exact (hg372554 _ (show o372210.toInt.toNat < 2000 by omega)).2.1
                              refine Gp_aald 5 hm372551 he372552 dr_cX17_graph_271 rfl rfl (gB_in bo372210' (by decide) (by decide)) ?_
                              rw [show f372553 o372210.toNatClampNeg = some q372555 from (hg372554 _ (show o372210.toInt.toNat < 2000 by omega)).1.trans (by rw [hx372557])]
                              change G _ _ _ _ _ _ _ (.ref q372555 :: _) _ _ _
                              refine G_iload 3 dr_cX17_graph_272 rfl ?_
                              have hm372558 : q372555 ∈ P270942 := RS_m hT372488 ht372556 (by decide)
                              obtain ⟨f372560, he372559, wf372560⟩ := show rk_36 I (F372487 q372555) from RS_o hT372488 ht372556
                              refine Gw_callS (As := [.ref q372555, .int o372210]) (gV_ok D I) (cp_1873_SpillForgeModel_clear l hl0 D I P270942 F372487 q372555 o372210 f372560 hm372558 he372559 bo372210' wf372560) dr_cX17_graph_274 ⟨wr_10_185, wr_1_14, wr_10_187, by decide, rfl, (Nat.le_of_ble_eq_true rfl), (Nat.le_of_ble_eq_true rfl)⟩ wr_10_186 (show 0 + 0 ≤ 0 by first | omega | decide) (show 0 + 0 ≤ 0 by first | omega | decide) (Nat.le_of_ble_eq_true rfl) (fun r372564 w372565 dc372561 ds372562 hp372563 => ?_) (fun _ _ _ _ _ z => z.elim)
                              obtain ⟨F372568, f372566, rfl, rfl, hfr372570, he372571, hdc, hds, x372567⟩ := hp372563
                              have he372572 : F372568 q270945 = .inr (18, [.ref q367538, .ref q367539, .int p367540, .int p367541]) := (hfr372570 q270945 hm367536 (nm_c (rn_oa he372494 he372559) nm_n)).trans he372494
                              have he372573 : F372568 q367538 = .inr (4, [.int p368799, .ref q368801, .int p368800]) := (hfr372570 q367538 hm368797 (nm_c (rn_oa he372495 he372559) nm_n)).trans he372495
                              have he372574 : F372568 q368801 = .inl (I (.object "java/lang/Object"), n368815, .inr (.inr (.inr (.inr f368816)))) := (hfr372570 q368801 hm368817 (nm_c (rn_ref_long he372496 he372559) nm_n)).trans he372496
                              have he372575 : F372568 q368818 = .inr (17, [.ref q368827, .ref q368828, .int p368829, .int p368830]) := (hfr372570 q368818 hm368825 (nm_c (rn_oa he372497 he372559) nm_n)).trans he372497
                              have he372576 : F372568 q368827 = .inr (4, [.int p372092, .ref q372094, .int p372093]) := (hfr372570 q368827 hm372090 (nm_c (rn_oa he372498 he372559) nm_n)).trans he372498
                              have he372577 : F372568 q372094 = .inl (I (.object "java/lang/Object"), n372108, .inr (.inr (.inr (.inr f372109)))) := (hfr372570 q372094 hm372110 (nm_c (rn_ref_long he372499 he372559) nm_n)).trans he372499
                              have he372578 : F372568 q372111 = .inr (20, [.int p372124, .int p372125, .int p372126, .int p372127, .int p372128, .int p372129, .int p372130]) := (hfr372570 q372111 hm372122 (nm_c (rn_oa he372500 he372559) nm_n)).trans he372500
                              have he372579 : F372568 q270944 = .inr (22, [.ref (γ 9 0), .ref (γ 9 1), .ref (γ 9 2), .ref (γ 9 3), .ref (γ 9 4), .ref (γ 9 5), .ref (γ 9 6), .ref (γ 9 7), .ref (γ 9 8), .int p372508, .int p372509, .int p372510, .int p372511, .int p372512, .int p372513, .ref (γ 9 15), .ref (γ 9 16), .ref (γ 9 17), .ref (γ 9 18), .ref (γ 9 19), .ref (γ 9 20), .ref (γ 9 21), .ref (γ 9 22), .int p372514, .int p372515, .int p372516, .int p372517, .int p372518, .ref q372506, .ref (γ 9 29), .int p372519, .ref (γ 9 31), .int p372520, .int p372521, .int p372522, .ref q372507]) := (hfr372570 q270944 hm372504 (nm_c (rn_oa he372505 he372559) nm_n)).trans he372505
                              have he372580 : F372568 (γ 9 1) = .inl (I (.array .long), 2000, .inr (.inr (.inr (.inr f372553)))) := (hfr372570 (γ 9 1) hm372551 (nm_c (rn_ref_long he372552 he372559) nm_n)).trans he372552
                              have hfr372581 : rFr [q372555] P270942 F372487 F372568 := rFr_call (rSub_rf (P := P270942)) (rFr_rf (W := []) (P := P270942) (F := F372487)) hfr372570 (fun b hb hn => ⟨nm_n, (nm_c (fun e => hn (e ▸ List.mem_cons_self)) nm_n)⟩)
                              change G _ _ _ _ _ _ _ _ _ _ _
                              refine G_widen (cs' := 0) (sl' := 0) (by omega) (by omega) ?_
                              have hT372582 : RS D I P270942 F372568 γ el := RS_fr hT372488 hfr372581 ht372556 (by decide) ⟨f372566, he372571, x372567⟩
                              have hs372583 : rStr γ [] F270943 F372568 := rStr_fr hT372488 hs372489 hfr372581 ht372556 (by decide)
                              have kp372584 : F372568 q270944 = F270943 q270944 := (hfr372581 q270944 (RS_m hT372488 htq270944 (by decide)) (nm_c (rn_ty htq270944 ht372556 (by decide)) nm_n)).trans x372491
                              have kp372585 : F372568 (γ 9 3) = F372487 (γ 9 3) := hfr372581 (γ 9 3) (RS_m hT372488 ht372528 (by decide)) (nm_c (rn_ty ht372528 ht372556 (by decide)) nm_n)
                              refine G_aload_n 8 dr_cX17_graph_277 rfl ?_
                              refine G_aload 4 dr_cX17_graph_278 rfl ?_
                              refine G_iload_n 10 dr_cX17_graph_280 rfl ?_
                              refine Gw_callV (As := [.ref q372111, .int p270946]) (gV_ok D I) (ct_281701_SpillForgeModel_back l hl0 D I γ el P270942 F372568 q270944 q372111 p270946 hT372582 htq270944 ht372114 (gB_w bp270946' (by decide) (by decide))) dr_cX17_graph_281 ⟨wr_10_174, wr_1_14, wr_10_177, by decide, rfl, (Nat.le_of_ble_eq_true rfl), (Nat.le_of_ble_eq_true rfl)⟩ wr_10_176 wr_p_96 hm372504 he372579 rfl (show 0 + 0 ≤ 0 by first | omega | decide) (show 0 + 0 ≤ 0 by first | omega | decide) (Nat.le_of_ble_eq_true rfl) (fun r372589 w372590 dc372586 ds372587 hp372588 => ?_) (fun _ _ _ _ _ z => z.elim)
                              obtain ⟨F372593, rfl, rfl, hT372594, hs372595, hdc, hds, x372591, x372592⟩ := hp372588
                              have he372596 : F372593 q270945 = .inr (18, [.ref q367538, .ref q367539, .int p367540, .int p367541]) := (hs372595 q270945 (rT0 htq270945 (by decide)) (rT1 htq270945 (by decide)) (rT2 htq270945 (by decide))).trans he372572
                              have he372597 : F372593 q367538 = .inr (4, [.int p368799, .ref q368801, .int p368800]) := (hs372595 q367538 (rT0 ht367542 (by decide)) (rT1 ht367542 (by decide)) (rT2 ht367542 (by decide))).trans he372573
                              have he372598 : F372593 q368801 = .inl (I (.object "java/lang/Object"), n368815, .inr (.inr (.inr (.inr f368816)))) := (hs372595 q368801 (rT0 r368807 (by decide)) (rT1 r368807 (by decide)) (rT2 r368807 (by decide))).trans he372574
                              have he372599 : F372593 q368818 = .inr (17, [.ref q368827, .ref q368828, .int p368829, .int p368830]) := (hs372595 q368818 (rT0 ht368823 (by decide)) (rT1 ht368823 (by decide)) (rT2 ht368823 (by decide))).trans he372575
                              have he372600 : F372593 q368827 = .inr (4, [.int p372092, .ref q372094, .int p372093]) := (hs372595 q368827 (rT0 ht368831 (by decide)) (rT1 ht368831 (by decide)) (rT2 ht368831 (by decide))).trans he372576
                              have he372601 : F372593 q372094 = .inl (I (.object "java/lang/Object"), n372108, .inr (.inr (.inr (.inr f372109)))) := (hs372595 q372094 (rT0 r372100 (by decide)) (rT1 r372100 (by decide)) (rT2 r372100 (by decide))).trans he372577
                              have he372602 : F372593 q372111 = .inr (20, [.int p372124, .int p372125, .int p372126, .int p372127, .int p372128, .int p372129, .int p372130]) := (hs372595 q372111 (rT0 ht372114 (by decide)) (rT1 ht372114 (by decide)) (rT2 ht372114 (by decide))).trans he372578
                              have hs372603 : rStr γ [] F270943 F372593 := rStr_tr hs372583 hs372595
                              have kp372604 : F372593 q270944 = F270943 q270944 := (x372591).trans kp372584
                              have kp372605 : F372593 (γ 9 3) = F372487 (γ 9 3) := (x372592).trans kp372585
                              change G _ _ _ _ _ _ _ _ _ _ _
                              refine G_widen (cs' := 0) (sl' := 0) (by omega) (by omega) ?_
                              obtain ⟨z372606, hz372606⟩ : ∃ z : Int32, z = g372070 + Int32.ofInt (-1) := ⟨_, rfl⟩
                              have ez372606 : z372606.toInt = g372070.toInt + (-1) := gI_inc hz372606 (by decide) bg372070' (by decide) (by decide)
                              have bz372606 : gB z372606 (-1) 999998 := ⟨by omega, by omega⟩
                              refine G_iinc (L' := [(5, .int z372606), (10, .int g372486), (9, .int 0), (8, .int (-1)), (7, .int o372210), (6, .ref q372111), (4, .ref q368818), (3, .int g367527), (0, .ref q270944), (1, .ref q270945), (2, .int p270946)]) z372606 5 dr_cX17_graph_284 rfl hz372606.symm (Nat.le_of_ble_eq_true rfl) rfl ?_
                              refine G_goto 109 dr_cX17_graph_287 (by decide +kernel) ?_
                              refine G_lv (L' := [(5, .int z372606), (4, .ref q368818), (3, .int g367527), (0, .ref q270944), (1, .ref q270945), (2, .int p270946)]) [0, 6, 7, 8, 9, 10] rfl ?_
                              exact ih109_372076 F372593 z372606 (gB_w bz372606 (by decide) (by decide)) hT372594 hs372603 (by omega) (fun h0 => by have z := (by rw [kp372605]; exact x372490) h0; rw [show ((g372070.toInt : Int).toNat : Nat) = (z372606.toInt + 1 : Int).toNat by omega] at z; exact z) kp372604 (by omega)
                            · have r372607 : g372486.toInt < 32 := gj_nleL hc372502 (show Int32.toInt 32 = 32 by decide)
                              have bg372486' : gB g372486 0 31 := ⟨by omega, by omega⟩
                              refine G_aload_n 8 dr_cX17_graph_217 rfl ?_
                              have hm372608 : q270944 ∈ P270942 := RS_m hT372488 htq270944 (by decide)
                              obtain ⟨q372610, q372611, p372612, p372613, p372614, p372615, p372616, p372617, p372618, p372619, p372620, p372621, p372622, p372623, p372624, p372625, p372626, he372609, hB372653, ht372627, ht372628, ht372629, ht372630, ht372631, ht372632, ht372633, ht372634, ht372635, ht372636, ht372637, ht372638, ht372639, ht372640, ht372641, ht372642, ht372643, ht372644, ht372645, ht372646, ht372647, ht372648, ht372649, ht372650, hB372654⟩ := show rk_10 γ (F372487 q270944) from RS_o hT372488 htq270944
                              refine Gp_get 1 hm372608 he372609 dr_cX17_graph_218 (gk_X17 D I) (Nat.le_of_ble_eq_true rfl) wr_7_75 rfl ?_
                              refine G_iload 3 dr_cX17_graph_221 rfl ?_
                              have hm372655 : (γ 9 1) ∈ P270942 := RS_m hT372488 ht372630 (by decide)
                              obtain ⟨f372657, he372656, hg372658⟩ := show rk_13 I γ (F372487 (γ 9 1)) from RS_o hT372488 ht372630
                              obtain ⟨q372659, hx372661⟩ : ∃ x, x = γ 11 o372210.toInt.toNat := ⟨_, rfl⟩
                              have ht372660 : rKd γ q372659 36 := by rw [hx372661]; exact (hg372658 _ (show o372210.toInt.toNat < 2000 by omega)).2.1
                              refine Gp_aald 5 hm372655 he372656 dr_cX17_graph_223 rfl rfl (gB_in bo372210' (by decide) (by decide)) ?_
                              rw [show f372657 o372210.toNatClampNeg = some q372659 from (hg372658 _ (show o372210.toInt.toNat < 2000 by omega)).1.trans (by rw [hx372661])]
                              change G _ _ _ _ _ _ _ (.ref q372659 :: _) _ _ _
                              refine G_iload 0 dr_cX17_graph_224 rfl ?_
                              refine G_dup2_11 dr_cX17_graph_226 rfl rfl ?_
                              have hm372662 : q372659 ∈ P270942 := RS_m hT372488 ht372660 (by decide)
                              obtain ⟨f372664, he372663, wf372664⟩ := show rk_36 I (F372487 q372659) from RS_o hT372488 ht372660
                              refine Gp_lald 2 hm372662 he372663 dr_cX17_graph_227 rfl (gB_in bg372486' (by decide) (by decide)) (G_namL fun u372665 hu372665 => ?_)
                              have qu372665 : lb_Q u372665 (2000 - 64 * g372486.toInt) := lb_Wld hu372665 wf372664 (by omega) (by omega) (lb_Mod0 (by omega) (by omega))
                              refine G_aload_n 8 dr_cX17_graph_228 rfl ?_
                              refine Gp_get 2 hm372608 he372609 dr_cX17_graph_229 (gk_X17 D I) (Nat.le_of_ble_eq_true rfl) wr_7_76 rfl ?_
                              refine G_iload 0 dr_cX17_graph_232 rfl ?_
                              have hm372666 : (γ 9 2) ∈ P270942 := RS_m hT372488 ht372631 (by decide)
                              obtain ⟨f372668, he372667, wf372668⟩ := show rk_35 I (F372487 (γ 9 2)) from RS_o hT372488 ht372631
                              refine Gp_lald 2 hm372666 he372667 dr_cX17_graph_234 rfl (gB_in bg372486' (by decide) (by decide)) (G_namL fun u372669 hu372669 => ?_)
                              have qu372669 : lb_Q u372669 (2000 - 64 * g372486.toInt) := lb_Wld hu372669 wf372668 (by omega) (by omega) (lb_Mod0 (by omega) (by omega))
                              refine G_lor dr_cX17_graph_235 (G_namL fun u372670 hu372670 => ?_)
                              have qu372670 : lb_Q u372670 (2000 - 64 * g372486.toInt) := lb_Qor hu372670 qu372665 qu372669
                              refine Gp_last 2 hm372662 he372663 dr_cX17_graph_236 rfl (gB_in bg372486' (by decide) (by decide)) (fun F372671 e372672 n372673 => ?_)
                              obtain ⟨f372674, hf372674⟩ : ∃ z, z = vp_updL f372664 g372486.toNatClampNeg u372670 := ⟨_, rfl⟩
                              rw [← hf372674] at e372672
                              have he372675 : F372671 q270945 = .inr (18, [.ref q367538, .ref q367539, .int p367540, .int p367541]) := (n372673 q270945 (rn_oa he372494 he372663)).trans he372494
                              have he372676 : F372671 q367538 = .inr (4, [.int p368799, .ref q368801, .int p368800]) := (n372673 q367538 (rn_oa he372495 he372663)).trans he372495
                              have he372677 : F372671 q368801 = .inl (I (.object "java/lang/Object"), n368815, .inr (.inr (.inr (.inr f368816)))) := (n372673 q368801 (rn_ref_long he372496 he372663)).trans he372496
                              have he372678 : F372671 q368818 = .inr (17, [.ref q368827, .ref q368828, .int p368829, .int p368830]) := (n372673 q368818 (rn_oa he372497 he372663)).trans he372497
                              have he372679 : F372671 q368827 = .inr (4, [.int p372092, .ref q372094, .int p372093]) := (n372673 q368827 (rn_oa he372498 he372663)).trans he372498
                              have he372680 : F372671 q372094 = .inl (I (.object "java/lang/Object"), n372108, .inr (.inr (.inr (.inr f372109)))) := (n372673 q372094 (rn_ref_long he372499 he372663)).trans he372499
                              have he372681 : F372671 q372111 = .inr (20, [.int p372124, .int p372125, .int p372126, .int p372127, .int p372128, .int p372129, .int p372130]) := (n372673 q372111 (rn_oa he372500 he372663)).trans he372500
                              have he372682 : F372671 q270944 = .inr (22, [.ref (γ 9 0), .ref (γ 9 1), .ref (γ 9 2), .ref (γ 9 3), .ref (γ 9 4), .ref (γ 9 5), .ref (γ 9 6), .ref (γ 9 7), .ref (γ 9 8), .int p372612, .int p372613, .int p372614, .int p372615, .int p372616, .int p372617, .ref (γ 9 15), .ref (γ 9 16), .ref (γ 9 17), .ref (γ 9 18), .ref (γ 9 19), .ref (γ 9 20), .ref (γ 9 21), .ref (γ 9 22), .int p372618, .int p372619, .int p372620, .int p372621, .int p372622, .ref q372610, .ref (γ 9 29), .int p372623, .ref (γ 9 31), .int p372624, .int p372625, .int p372626, .ref q372611]) := (n372673 q270944 (rn_oa he372609 he372663)).trans he372609
                              have he372683 : F372671 (γ 9 1) = .inl (I (.array .long), 2000, .inr (.inr (.inr (.inr f372657)))) := (n372673 (γ 9 1) (rn_ref_long he372656 he372663)).trans he372656
                              have he372684 : F372671 (γ 9 2) = .inl (I .long, 32, .inr (.inl f372668)) := (n372673 (γ 9 2) (rn_ty ht372631 ht372660 (by decide))).trans he372667
                              have he372685 : F372671 q372659 = .inl (I .long, 32, .inr (.inl f372674)) := e372672
                              have hs372686 : rStr γ [] F270943 F372671 := rStr_put hs372489 n372673 ht372660 (by decide)
                              have kp372687 : F372671 q270944 = F270943 q270944 := (n372673 q270944 (rn_ty htq270944 ht372660 (by decide))).trans x372491
                              have kp372688 : F372671 (γ 9 3) = F372487 (γ 9 3) := n372673 (γ 9 3) (rn_ty ht372632 ht372660 (by decide))
                              have wf372674 : lb_W f372674 (32) (32) (2000) := lb_Wst hf372674 wf372664 (by omega) (lb_Mod0 (by omega) (by omega)) qu372670
                              obtain ⟨z372689, hz372689⟩ : ∃ z : Int32, z = g372486 + Int32.ofInt 1 := ⟨_, rfl⟩
                              have ez372689 : z372689.toInt = g372486.toInt + 1 := gI_inc hz372689 (by decide) bg372486' (by decide) (by decide)
                              have bz372689 : gB z372689 1 32 := ⟨by omega, by omega⟩
                              refine G_iinc (L' := [(10, .int z372689), (9, .int 0), (8, .int (-1)), (7, .int o372210), (6, .ref q372111), (5, .int g372070), (4, .ref q368818), (3, .int g367527), (0, .ref q270944), (1, .ref q270945), (2, .int p270946)]) z372689 0 dr_cX17_graph_237 rfl hz372689.symm (Nat.le_of_ble_eq_true rfl) rfl ?_
                              refine G_goto 210 dr_cX17_graph_240 (by decide +kernel) ?_
                              have hT372690 : RS D I P270942 F372671 γ el := RS_set hT372488 n372673 ht372660 (by decide) ⟨f372674, he372685, wf372674⟩
                              exact ih210_372491 F372671 z372689 (gB_w bz372689 (by decide) (by decide)) hT372690 hs372686 (by rw [kp372688]; exact x372490) kp372687 (by have qa0 : Int32.toInt (-1) = (-1) := (by decide); have qa1 : Int32.toInt 0 = 0 := (by decide); omega)
                        exact hlp210_372491 (((33 : Int) - 0).toNat + 1) F372189 0 (gB_w (gBl (show Int32.toInt 0 = 0 by decide)) (by decide) (by decide)) hT372190 hs372199 gr372204 kp372200 (Nat.lt_succ_self _)
                    · have r372691 : p270946.toInt = 0 := gj_eq hc372211 (show Int32.toInt 0 = 0 by decide)
                      have bp270946' : gB p270946 0 0 := ⟨by omega, by omega⟩
                      refine G_aload 1 dr_cX17_graph_148 rfl ?_
                      refine Gp_get 0 hm372122 he372198 dr_cX17_graph_150 (gk_X15 D I) (Nat.le_of_ble_eq_true rfl) wr_9_177 rfl ?_
                      refine G_if_ne 172 dr_cX17_graph_153 (by decide +kernel) (fun hc372692 => ?_) (fun hc372692 => ?_)
                      · have r372693 : p372124.toInt ≠ 0 := gj_neq hc372692 (show Int32.toInt 0 = 0 by decide)
                        have bp372124' : gB p372124 1 32 := ⟨by omega, by omega⟩
                        refine G_iconst (-1) dr_cX17_graph_172 (by decide +kernel) ?_
                        refine G_istore (L' := [(8, .int (-1)), (7, .int o372210), (6, .ref q372111), (5, .int g372070), (4, .ref q368818), (3, .int g367527), (0, .ref q270944), (1, .ref q270945), (2, .int p270946)]) dr_cX17_graph_173 (Nat.le_of_ble_eq_true rfl) rfl ?_
                        refine G_iload 1 dr_cX17_graph_175 rfl ?_
                        refine G_if_lt 277 dr_cX17_graph_177 (by decide +kernel) (fun hc372694 => ?_) (fun hc372694 => ?_)
                        · have r372695 : o372210.toInt < 0 := gj_lt hc372694 (show Int32.toInt 0 = 0 by decide)
                          have bo372210' : gB o372210 (-1) (-1) := ⟨by omega, by omega⟩
                          refine G_aload_n 6 dr_cX17_graph_277 rfl ?_
                          refine G_aload 2 dr_cX17_graph_278 rfl ?_
                          refine G_iload_n 8 dr_cX17_graph_280 rfl ?_
                          have hm372701 : q270944 ∈ P270942 := RS_m hT372190 htq270944 (by decide)
                          obtain ⟨q372703, q372704, p372705, p372706, p372707, p372708, p372709, p372710, p372711, p372712, p372713, p372714, p372715, p372716, p372717, p372718, p372719, he372702, hB372746, ht372720, ht372721, ht372722, ht372723, ht372724, ht372725, ht372726, ht372727, ht372728, ht372729, ht372730, ht372731, ht372732, ht372733, ht372734, ht372735, ht372736, ht372737, ht372738, ht372739, ht372740, ht372741, ht372742, ht372743, hB372747⟩ := show rk_10 γ (F372189 q270944) from RS_o hT372190 htq270944
                          refine Gw_callV (As := [.ref q372111, .int p270946]) (gV_ok D I) (ct_281701_SpillForgeModel_back l hl0 D I γ el P270942 F372189 q270944 q372111 p270946 hT372190 htq270944 ht372114 (gB_w bp270946' (by decide) (by decide))) dr_cX17_graph_281 ⟨wr_10_174, wr_1_14, wr_10_177, by decide, rfl, (Nat.le_of_ble_eq_true rfl), (Nat.le_of_ble_eq_true rfl)⟩ wr_10_176 wr_p_96 hm372701 he372702 rfl (show 0 + 0 ≤ 0 by first | omega | decide) (show 0 + 0 ≤ 0 by first | omega | decide) (Nat.le_of_ble_eq_true rfl) (fun r372699 w372700 dc372696 ds372697 hp372698 => ?_) (fun _ _ _ _ _ z => z.elim)
                          obtain ⟨F372750, rfl, rfl, hT372751, hs372752, hdc, hds, x372748, x372749⟩ := hp372698
                          have he372753 : F372750 q270945 = .inr (18, [.ref q367538, .ref q367539, .int p367540, .int p367541]) := (hs372752 q270945 (rT0 htq270945 (by decide)) (rT1 htq270945 (by decide)) (rT2 htq270945 (by decide))).trans he372192
                          have he372754 : F372750 q367538 = .inr (4, [.int p368799, .ref q368801, .int p368800]) := (hs372752 q367538 (rT0 ht367542 (by decide)) (rT1 ht367542 (by decide)) (rT2 ht367542 (by decide))).trans he372193
                          have he372755 : F372750 q368801 = .inl (I (.object "java/lang/Object"), n368815, .inr (.inr (.inr (.inr f368816)))) := (hs372752 q368801 (rT0 r368807 (by decide)) (rT1 r368807 (by decide)) (rT2 r368807 (by decide))).trans he372194
                          have he372756 : F372750 q368818 = .inr (17, [.ref q368827, .ref q368828, .int p368829, .int p368830]) := (hs372752 q368818 (rT0 ht368823 (by decide)) (rT1 ht368823 (by decide)) (rT2 ht368823 (by decide))).trans he372195
                          have he372757 : F372750 q368827 = .inr (4, [.int p372092, .ref q372094, .int p372093]) := (hs372752 q368827 (rT0 ht368831 (by decide)) (rT1 ht368831 (by decide)) (rT2 ht368831 (by decide))).trans he372196
                          have he372758 : F372750 q372094 = .inl (I (.object "java/lang/Object"), n372108, .inr (.inr (.inr (.inr f372109)))) := (hs372752 q372094 (rT0 r372100 (by decide)) (rT1 r372100 (by decide)) (rT2 r372100 (by decide))).trans he372197
                          have he372759 : F372750 q372111 = .inr (20, [.int p372124, .int p372125, .int p372126, .int p372127, .int p372128, .int p372129, .int p372130]) := (hs372752 q372111 (rT0 ht372114 (by decide)) (rT1 ht372114 (by decide)) (rT2 ht372114 (by decide))).trans he372198
                          have hs372760 : rStr γ [] F270943 F372750 := rStr_tr hs372199 hs372752
                          have kp372761 : F372750 q270944 = F270943 q270944 := (x372748).trans kp372200
                          have kp372762 : F372750 (γ 9 3) = F372189 (γ 9 3) := x372749
                          change G _ _ _ _ _ _ _ _ _ _ _
                          refine G_widen (cs' := 0) (sl' := 0) (by omega) (by omega) ?_
                          obtain ⟨z372763, hz372763⟩ : ∃ z : Int32, z = g372070 + Int32.ofInt (-1) := ⟨_, rfl⟩
                          have ez372763 : z372763.toInt = g372070.toInt + (-1) := gI_inc hz372763 (by decide) bg372070' (by decide) (by decide)
                          have bz372763 : gB z372763 (-1) 999998 := ⟨by omega, by omega⟩
                          refine G_iinc (L' := [(5, .int z372763), (8, .int (-1)), (7, .int o372210), (6, .ref q372111), (4, .ref q368818), (3, .int g367527), (0, .ref q270944), (1, .ref q270945), (2, .int p270946)]) z372763 3 dr_cX17_graph_284 rfl hz372763.symm (Nat.le_of_ble_eq_true rfl) rfl ?_
                          refine G_goto 109 dr_cX17_graph_287 (by decide +kernel) ?_
                          refine G_lv (L' := [(5, .int z372763), (4, .ref q368818), (3, .int g367527), (0, .ref q270944), (1, .ref q270945), (2, .int p270946)]) [0, 4, 5, 6, 7, 8] rfl ?_
                          exact ih109_372076 F372750 z372763 (gB_w bz372763 (by decide) (by decide)) hT372751 hs372760 (by omega) (fun h0 => by have z := (by rw [kp372762]; exact gr372204) h0; rw [show ((g372070.toInt : Int).toNat : Nat) = (z372763.toInt + 1 : Int).toNat by omega] at z; exact z) kp372761 (by omega)
                        · have r372764 : 0 ≤ o372210.toInt := gj_nlt hc372694 (show Int32.toInt 0 = 0 by decide)
                          have bo372210' : gB o372210 0 1999 := ⟨by omega, by omega⟩
                          refine G_iload 0 dr_cX17_graph_180 rfl ?_
                          refine G_if_lt 204 dr_cX17_graph_182 (by decide +kernel) (fun _ => ?_) (fun hc => absurd hc (by decide))
                          refine G_iconst 0 dr_cX17_graph_204 (by decide +kernel) ?_
                          refine G_istore (L' := [(9, .int 0), (8, .int (-1)), (7, .int o372210), (6, .ref q372111), (5, .int g372070), (4, .ref q368818), (3, .int g367527), (0, .ref q270944), (1, .ref q270945), (2, .int p270946)]) dr_cX17_graph_205 (Nat.le_of_ble_eq_true rfl) rfl ?_
                          refine G_iconst 0 dr_cX17_graph_207 (by decide +kernel) ?_
                          refine G_istore (L' := [(10, .int 0), (9, .int 0), (8, .int (-1)), (7, .int o372210), (6, .ref q372111), (5, .int g372070), (4, .ref q368818), (3, .int g367527), (0, .ref q270944), (1, .ref q270945), (2, .int p270946)]) dr_cX17_graph_208 (Nat.le_of_ble_eq_true rfl) rfl ?_
                          have hlp210_372972 : ∀ (n210_372972 : Nat) (F372968 : Nat → va_E) (g372967 : Int32), gB g372967 0 32 → RS D I P270942 F372968 γ el → rStr γ [] F270943 F372968 → (p270946.toInt = 0 → rGr γ el F270943 q270945 (γ 6 (γ 1 q270945)) (cB (F372968 (γ 9 3))) (vB (g367527.toInt : Int).toNat (g372070.toInt : Int).toNat)) → (F372968 q270944 = F270943 q270944) → ((33 : Int) - g372967.toInt).toNat < n210_372972 → G (gV D I) l (gRm 5 111 0 0) (gMA (gV D I) (pt_270948_SpillForgeModel_graph D I γ el P270942 F270943 q270944 q270945 p270946) gNA 0 0) ky_270948_SpillForgeModel_graph 210 [(10, .int g372967), (9, .int 0), (8, .int (-1)), (7, .int o372210), (6, .ref q372111), (5, .int g372070), (4, .ref q368818), (3, .int g367527), (0, .ref q270944), (1, .ref q270945), (2, .int p270946)] [] (va_pl P270942 F372968) 0 0 := by
                            intro n210_372972
                            induction n210_372972 with
                            | zero => intro F372968 g372967 bg372967 hT372969 hs372970 x372971 x372972 hm210_372972; exact absurd hm210_372972 (Nat.not_lt_zero _)
                            | succ n210_372972 ih210_372972 =>
                              intro F372968 g372967 bg372967 hT372969 hs372970 x372971 x372972 hm210_372972
                              have hs372974 : rStr γ [] F372189 F372968 := fun b h0 hb hw => (hs372970 b h0 hb hw).trans (hs372199 b h0 hb hw).symm
                              have he372975 : F372968 q270945 = .inr (18, [.ref q367538, .ref q367539, .int p367540, .int p367541]) := (hs372974 q270945 (rT0 htq270945 (by decide)) (rT1 htq270945 (by decide)) (rT2 htq270945 (by decide))).trans he372192
                              have he372976 : F372968 q367538 = .inr (4, [.int p368799, .ref q368801, .int p368800]) := (hs372974 q367538 (rT0 ht367542 (by decide)) (rT1 ht367542 (by decide)) (rT2 ht367542 (by decide))).trans he372193
                              have he372977 : F372968 q368801 = .inl (I (.object "java/lang/Object"), n368815, .inr (.inr (.inr (.inr f368816)))) := (hs372974 q368801 (rT0 r368807 (by decide)) (rT1 r368807 (by decide)) (rT2 r368807 (by decide))).trans he372194
                              have he372978 : F372968 q368818 = .inr (17, [.ref q368827, .ref q368828, .int p368829, .int p368830]) := (hs372974 q368818 (rT0 ht368823 (by decide)) (rT1 ht368823 (by decide)) (rT2 ht368823 (by decide))).trans he372195
                              have he372979 : F372968 q368827 = .inr (4, [.int p372092, .ref q372094, .int p372093]) := (hs372974 q368827 (rT0 ht368831 (by decide)) (rT1 ht368831 (by decide)) (rT2 ht368831 (by decide))).trans he372196
                              have he372980 : F372968 q372094 = .inl (I (.object "java/lang/Object"), n372108, .inr (.inr (.inr (.inr f372109)))) := (hs372974 q372094 (rT0 r372100 (by decide)) (rT1 r372100 (by decide)) (rT2 r372100 (by decide))).trans he372197
                              have he372981 : F372968 q372111 = .inr (20, [.int p372124, .int p372125, .int p372126, .int p372127, .int p372128, .int p372129, .int p372130]) := (hs372974 q372111 (rT0 ht372114 (by decide)) (rT1 ht372114 (by decide)) (rT2 ht372114 (by decide))).trans he372198
                              have hs372982 : rStr γ [] F270943 F372968 := rStr_tr hs372199 hs372974
                              refine G_iload 0 dr_cX17_graph_210 rfl ?_
                              refine G_bipush 32 dr_cX17_graph_212 (by decide +kernel) ?_
                              refine G_icmp_ge 243 dr_cX17_graph_214 (by decide +kernel) (fun hc372983 => ?_) (fun hc372983 => ?_)
                              · have r372984 : 32 ≤ g372967.toInt := gj_leL hc372983 (show Int32.toInt 32 = 32 by decide)
                                have bg372967' : gB g372967 32 32 := ⟨by omega, by omega⟩
                                refine G_iload 2 dr_cX17_graph_243 rfl ?_
                                refine G_if_lt 265 dr_cX17_graph_245 (by decide +kernel) (fun _ => ?_) (fun hc => absurd hc (by decide))
                                refine G_aload_n 8 dr_cX17_graph_265 rfl ?_
                                have hm372985 : q270944 ∈ P270942 := RS_m hT372969 htq270944 (by decide)
                                obtain ⟨q372987, q372988, p372989, p372990, p372991, p372992, p372993, p372994, p372995, p372996, p372997, p372998, p372999, p373000, p373001, p373002, p373003, he372986, hB373030, ht373004, ht373005, ht373006, ht373007, ht373008, ht373009, ht373010, ht373011, ht373012, ht373013, ht373014, ht373015, ht373016, ht373017, ht373018, ht373019, ht373020, ht373021, ht373022, ht373023, ht373024, ht373025, ht373026, ht373027, hB373031⟩ := show rk_10 γ (F372968 q270944) from RS_o hT372969 htq270944
                                refine Gp_get 1 hm372985 he372986 dr_cX17_graph_266 (gk_X17 D I) (Nat.le_of_ble_eq_true rfl) wr_7_75 rfl ?_
                                refine G_iload 3 dr_cX17_graph_269 rfl ?_
                                have hm373032 : (γ 9 1) ∈ P270942 := RS_m hT372969 ht373007 (by decide)
                                obtain ⟨f373034, he373033, hg373035⟩ := show rk_13 I γ (F372968 (γ 9 1)) from RS_o hT372969 ht373007
                                obtain ⟨q373036, hx373038⟩ : ∃ x, x = γ 11 o372210.toInt.toNat := ⟨_, rfl⟩
                                have ht373037 : rKd γ q373036 36 := by rw [hx373038]; exact (hg373035 _ (show o372210.toInt.toNat < 2000 by omega)).2.1
                                refine Gp_aald 5 hm373032 he373033 dr_cX17_graph_271 rfl rfl (gB_in bo372210' (by decide) (by decide)) ?_
                                rw [show f373034 o372210.toNatClampNeg = some q373036 from (hg373035 _ (show o372210.toInt.toNat < 2000 by omega)).1.trans (by rw [hx373038])]
                                change G _ _ _ _ _ _ _ (.ref q373036 :: _) _ _ _
                                refine G_iload 3 dr_cX17_graph_272 rfl ?_
                                have hm373039 : q373036 ∈ P270942 := RS_m hT372969 ht373037 (by decide)
                                obtain ⟨f373041, he373040, wf373041⟩ := show rk_36 I (F372968 q373036) from RS_o hT372969 ht373037
                                refine Gw_callS (As := [.ref q373036, .int o372210]) (gV_ok D I) (cp_1873_SpillForgeModel_clear l hl0 D I P270942 F372968 q373036 o372210 f373041 hm373039 he373040 bo372210' wf373041) dr_cX17_graph_274 ⟨wr_10_185, wr_1_14, wr_10_187, by decide, rfl, (Nat.le_of_ble_eq_true rfl), (Nat.le_of_ble_eq_true rfl)⟩ wr_10_186 (show 0 + 0 ≤ 0 by first | omega | decide) (show 0 + 0 ≤ 0 by first | omega | decide) (Nat.le_of_ble_eq_true rfl) (fun r373045 w373046 dc373042 ds373043 hp373044 => ?_) (fun _ _ _ _ _ z => z.elim)
                                obtain ⟨F373049, f373047, rfl, rfl, hfr373051, he373052, hdc, hds, x373048⟩ := hp373044
                                have he373053 : F373049 q270945 = .inr (18, [.ref q367538, .ref q367539, .int p367540, .int p367541]) := (hfr373051 q270945 hm367536 (nm_c (rn_oa he372975 he373040) nm_n)).trans he372975
                                have he373054 : F373049 q367538 = .inr (4, [.int p368799, .ref q368801, .int p368800]) := (hfr373051 q367538 hm368797 (nm_c (rn_oa he372976 he373040) nm_n)).trans he372976
                                have he373055 : F373049 q368801 = .inl (I (.object "java/lang/Object"), n368815, .inr (.inr (.inr (.inr f368816)))) := (hfr373051 q368801 hm368817 (nm_c (rn_ref_long he372977 he373040) nm_n)).trans he372977
                                have he373056 : F373049 q368818 = .inr (17, [.ref q368827, .ref q368828, .int p368829, .int p368830]) := (hfr373051 q368818 hm368825 (nm_c (rn_oa he372978 he373040) nm_n)).trans he372978
                                have he373057 : F373049 q368827 = .inr (4, [.int p372092, .ref q372094, .int p372093]) := (hfr373051 q368827 hm372090 (nm_c (rn_oa he372979 he373040) nm_n)).trans he372979
                                have he373058 : F373049 q372094 = .inl (I (.object "java/lang/Object"), n372108, .inr (.inr (.inr (.inr f372109)))) := (hfr373051 q372094 hm372110 (nm_c (rn_ref_long he372980 he373040) nm_n)).trans he372980
                                have he373059 : F373049 q372111 = .inr (20, [.int p372124, .int p372125, .int p372126, .int p372127, .int p372128, .int p372129, .int p372130]) := (hfr373051 q372111 hm372122 (nm_c (rn_oa he372981 he373040) nm_n)).trans he372981
                                have he373060 : F373049 q270944 = .inr (22, [.ref (γ 9 0), .ref (γ 9 1), .ref (γ 9 2), .ref (γ 9 3), .ref (γ 9 4), .ref (γ 9 5), .ref (γ 9 6), .ref (γ 9 7), .ref (γ 9 8), .int p372989, .int p372990, .int p372991, .int p372992, .int p372993, .int p372994, .ref (γ 9 15), .ref (γ 9 16), .ref (γ 9 17), .ref (γ 9 18), .ref (γ 9 19), .ref (γ 9 20), .ref (γ 9 21), .ref (γ 9 22), .int p372995, .int p372996, .int p372997, .int p372998, .int p372999, .ref q372987, .ref (γ 9 29), .int p373000, .ref (γ 9 31), .int p373001, .int p373002, .int p373003, .ref q372988]) := (hfr373051 q270944 hm372985 (nm_c (rn_oa he372986 he373040) nm_n)).trans he372986
                                have he373061 : F373049 (γ 9 1) = .inl (I (.array .long), 2000, .inr (.inr (.inr (.inr f373034)))) := (hfr373051 (γ 9 1) hm373032 (nm_c (rn_ref_long he373033 he373040) nm_n)).trans he373033
                                have hfr373062 : rFr [q373036] P270942 F372968 F373049 := rFr_call (rSub_rf (P := P270942)) (rFr_rf (W := []) (P := P270942) (F := F372968)) hfr373051 (fun b hb hn => ⟨nm_n, (nm_c (fun e => hn (e ▸ List.mem_cons_self)) nm_n)⟩)
                                change G _ _ _ _ _ _ _ _ _ _ _
                                refine G_widen (cs' := 0) (sl' := 0) (by omega) (by omega) ?_
                                have hT373063 : RS D I P270942 F373049 γ el := RS_fr hT372969 hfr373062 ht373037 (by decide) ⟨f373047, he373052, x373048⟩
                                have hs373064 : rStr γ [] F270943 F373049 := rStr_fr hT372969 hs372970 hfr373062 ht373037 (by decide)
                                have kp373065 : F373049 q270944 = F270943 q270944 := (hfr373062 q270944 (RS_m hT372969 htq270944 (by decide)) (nm_c (rn_ty htq270944 ht373037 (by decide)) nm_n)).trans x372972
                                have kp373066 : F373049 (γ 9 3) = F372968 (γ 9 3) := hfr373062 (γ 9 3) (RS_m hT372969 ht373009 (by decide)) (nm_c (rn_ty ht373009 ht373037 (by decide)) nm_n)
                                refine G_aload_n 8 dr_cX17_graph_277 rfl ?_
                                refine G_aload 4 dr_cX17_graph_278 rfl ?_
                                refine G_iload_n 10 dr_cX17_graph_280 rfl ?_
                                refine Gw_callV (As := [.ref q372111, .int p270946]) (gV_ok D I) (ct_281701_SpillForgeModel_back l hl0 D I γ el P270942 F373049 q270944 q372111 p270946 hT373063 htq270944 ht372114 (gB_w bp270946' (by decide) (by decide))) dr_cX17_graph_281 ⟨wr_10_174, wr_1_14, wr_10_177, by decide, rfl, (Nat.le_of_ble_eq_true rfl), (Nat.le_of_ble_eq_true rfl)⟩ wr_10_176 wr_p_96 hm372985 he373060 rfl (show 0 + 0 ≤ 0 by first | omega | decide) (show 0 + 0 ≤ 0 by first | omega | decide) (Nat.le_of_ble_eq_true rfl) (fun r373070 w373071 dc373067 ds373068 hp373069 => ?_) (fun _ _ _ _ _ z => z.elim)
                                obtain ⟨F373074, rfl, rfl, hT373075, hs373076, hdc, hds, x373072, x373073⟩ := hp373069
                                have he373077 : F373074 q270945 = .inr (18, [.ref q367538, .ref q367539, .int p367540, .int p367541]) := (hs373076 q270945 (rT0 htq270945 (by decide)) (rT1 htq270945 (by decide)) (rT2 htq270945 (by decide))).trans he373053
                                have he373078 : F373074 q367538 = .inr (4, [.int p368799, .ref q368801, .int p368800]) := (hs373076 q367538 (rT0 ht367542 (by decide)) (rT1 ht367542 (by decide)) (rT2 ht367542 (by decide))).trans he373054
                                have he373079 : F373074 q368801 = .inl (I (.object "java/lang/Object"), n368815, .inr (.inr (.inr (.inr f368816)))) := (hs373076 q368801 (rT0 r368807 (by decide)) (rT1 r368807 (by decide)) (rT2 r368807 (by decide))).trans he373055
                                have he373080 : F373074 q368818 = .inr (17, [.ref q368827, .ref q368828, .int p368829, .int p368830]) := (hs373076 q368818 (rT0 ht368823 (by decide)) (rT1 ht368823 (by decide)) (rT2 ht368823 (by decide))).trans he373056
                                have he373081 : F373074 q368827 = .inr (4, [.int p372092, .ref q372094, .int p372093]) := (hs373076 q368827 (rT0 ht368831 (by decide)) (rT1 ht368831 (by decide)) (rT2 ht368831 (by decide))).trans he373057
                                have he373082 : F373074 q372094 = .inl (I (.object "java/lang/Object"), n372108, .inr (.inr (.inr (.inr f372109)))) := (hs373076 q372094 (rT0 r372100 (by decide)) (rT1 r372100 (by decide)) (rT2 r372100 (by decide))).trans he373058
                                have he373083 : F373074 q372111 = .inr (20, [.int p372124, .int p372125, .int p372126, .int p372127, .int p372128, .int p372129, .int p372130]) := (hs373076 q372111 (rT0 ht372114 (by decide)) (rT1 ht372114 (by decide)) (rT2 ht372114 (by decide))).trans he373059
                                have hs373084 : rStr γ [] F270943 F373074 := rStr_tr hs373064 hs373076
                                have kp373085 : F373074 q270944 = F270943 q270944 := (x373072).trans kp373065
                                have kp373086 : F373074 (γ 9 3) = F372968 (γ 9 3) := (x373073).trans kp373066
                                change G _ _ _ _ _ _ _ _ _ _ _
                                refine G_widen (cs' := 0) (sl' := 0) (by omega) (by omega) ?_
                                obtain ⟨z373087, hz373087⟩ : ∃ z : Int32, z = g372070 + Int32.ofInt (-1) := ⟨_, rfl⟩
                                have ez373087 : z373087.toInt = g372070.toInt + (-1) := gI_inc hz373087 (by decide) bg372070' (by decide) (by decide)
                                have bz373087 : gB z373087 (-1) 999998 := ⟨by omega, by omega⟩
                                refine G_iinc (L' := [(5, .int z373087), (10, .int g372967), (9, .int 0), (8, .int (-1)), (7, .int o372210), (6, .ref q372111), (4, .ref q368818), (3, .int g367527), (0, .ref q270944), (1, .ref q270945), (2, .int p270946)]) z373087 5 dr_cX17_graph_284 rfl hz373087.symm (Nat.le_of_ble_eq_true rfl) rfl ?_
                                refine G_goto 109 dr_cX17_graph_287 (by decide +kernel) ?_
                                refine G_lv (L' := [(5, .int z373087), (4, .ref q368818), (3, .int g367527), (0, .ref q270944), (1, .ref q270945), (2, .int p270946)]) [0, 6, 7, 8, 9, 10] rfl ?_
                                exact ih109_372076 F373074 z373087 (gB_w bz373087 (by decide) (by decide)) hT373075 hs373084 (by omega) (fun h0 => by have z := (by rw [kp373086]; exact x372971) h0; rw [show ((g372070.toInt : Int).toNat : Nat) = (z373087.toInt + 1 : Int).toNat by omega] at z; exact z) kp373085 (by omega)
                              · have r373088 : g372967.toInt < 32 := gj_nleL hc372983 (show Int32.toInt 32 = 32 by decide)
                                have bg372967' : gB g372967 0 31 := ⟨by omega, by omega⟩
                                refine G_aload_n 8 dr_cX17_graph_217 rfl ?_
                                have hm373089 : q270944 ∈ P270942 := RS_m hT372969 htq270944 (by decide)
                                obtain ⟨q373091, q373092, p373093, p373094, p373095, p373096, p373097, p373098, p373099, p373100, p373101, p373102, p373103, p373104, p373105, p373106, p373107, he373090, hB373134, ht373108, ht373109, ht373110, ht373111, ht373112, ht373113, ht373114, ht373115, ht373116, ht373117, ht373118, ht373119, ht373120, ht373121, ht373122, ht373123, ht373124, ht373125, ht373126, ht373127, ht373128, ht373129, ht373130, ht373131, hB373135⟩ := show rk_10 γ (F372968 q270944) from RS_o hT372969 htq270944
                                refine Gp_get 1 hm373089 he373090 dr_cX17_graph_218 (gk_X17 D I) (Nat.le_of_ble_eq_true rfl) wr_7_75 rfl ?_
                                refine G_iload 3 dr_cX17_graph_221 rfl ?_
                                have hm373136 : (γ 9 1) ∈ P270942 := RS_m hT372969 ht373111 (by decide)
                                obtain ⟨f373138, he373137, hg373139⟩ := show rk_13 I γ (F372968 (γ 9 1)) from RS_o hT372969 ht373111
                                obtain ⟨q373140, hx373142⟩ : ∃ x, x = γ 11 o372210.toInt.toNat := ⟨_, rfl⟩
                                have ht373141 : rKd γ q373140 36 := by rw [hx373142]; exact (hg373139 _ (show o372210.toInt.toNat < 2000 by omega)).2.1
                                refine Gp_aald 5 hm373136 he373137 dr_cX17_graph_223 rfl rfl (gB_in bo372210' (by decide) (by decide)) ?_
                                rw [show f373138 o372210.toNatClampNeg = some q373140 from (hg373139 _ (show o372210.toInt.toNat < 2000 by omega)).1.trans (by rw [hx373142])]
                                change G _ _ _ _ _ _ _ (.ref q373140 :: _) _ _ _
                                refine G_iload 0 dr_cX17_graph_224 rfl ?_
                                refine G_dup2_11 dr_cX17_graph_226 rfl rfl ?_
                                have hm373143 : q373140 ∈ P270942 := RS_m hT372969 ht373141 (by decide)
                                obtain ⟨f373145, he373144, wf373145⟩ := show rk_36 I (F372968 q373140) from RS_o hT372969 ht373141
                                refine Gp_lald 2 hm373143 he373144 dr_cX17_graph_227 rfl (gB_in bg372967' (by decide) (by decide)) (G_namL fun u373146 hu373146 => ?_)
                                have qu373146 : lb_Q u373146 (2000 - 64 * g372967.toInt) := lb_Wld hu373146 wf373145 (by omega) (by omega) (lb_Mod0 (by omega) (by omega))
                                refine G_aload_n 8 dr_cX17_graph_228 rfl ?_
                                refine Gp_get 2 hm373089 he373090 dr_cX17_graph_229 (gk_X17 D I) (Nat.le_of_ble_eq_true rfl) wr_7_76 rfl ?_
                                refine G_iload 0 dr_cX17_graph_232 rfl ?_
                                have hm373147 : (γ 9 2) ∈ P270942 := RS_m hT372969 ht373112 (by decide)
                                obtain ⟨f373149, he373148, wf373149⟩ := show rk_35 I (F372968 (γ 9 2)) from RS_o hT372969 ht373112
                                refine Gp_lald 2 hm373147 he373148 dr_cX17_graph_234 rfl (gB_in bg372967' (by decide) (by decide)) (G_namL fun u373150 hu373150 => ?_)
                                have qu373150 : lb_Q u373150 (2000 - 64 * g372967.toInt) := lb_Wld hu373150 wf373149 (by omega) (by omega) (lb_Mod0 (by omega) (by omega))
                                refine G_lor dr_cX17_graph_235 (G_namL fun u373151 hu373151 => ?_)
                                have qu373151 : lb_Q u373151 (2000 - 64 * g372967.toInt) := lb_Qor hu373151 qu373146 qu373150
                                refine Gp_last 2 hm373143 he373144 dr_cX17_graph_236 rfl (gB_in bg372967' (by decide) (by decide)) (fun F373152 e373153 n373154 => ?_)
                                obtain ⟨f373155, hf373155⟩ : ∃ z, z = vp_updL f373145 g372967.toNatClampNeg u373151 := ⟨_, rfl⟩
                                rw [← hf373155] at e373153
                                have he373156 : F373152 q270945 = .inr (18, [.ref q367538, .ref q367539, .int p367540, .int p367541]) := (n373154 q270945 (rn_oa he372975 he373144)).trans he372975
                                have he373157 : F373152 q367538 = .inr (4, [.int p368799, .ref q368801, .int p368800]) := (n373154 q367538 (rn_oa he372976 he373144)).trans he372976
                                have he373158 : F373152 q368801 = .inl (I (.object "java/lang/Object"), n368815, .inr (.inr (.inr (.inr f368816)))) := (n373154 q368801 (rn_ref_long he372977 he373144)).trans he372977
                                have he373159 : F373152 q368818 = .inr (17, [.ref q368827, .ref q368828, .int p368829, .int p368830]) := (n373154 q368818 (rn_oa he372978 he373144)).trans he372978
                                have he373160 : F373152 q368827 = .inr (4, [.int p372092, .ref q372094, .int p372093]) := (n373154 q368827 (rn_oa he372979 he373144)).trans he372979
                                have he373161 : F373152 q372094 = .inl (I (.object "java/lang/Object"), n372108, .inr (.inr (.inr (.inr f372109)))) := (n373154 q372094 (rn_ref_long he372980 he373144)).trans he372980
                                have he373162 : F373152 q372111 = .inr (20, [.int p372124, .int p372125, .int p372126, .int p372127, .int p372128, .int p372129, .int p372130]) := (n373154 q372111 (rn_oa he372981 he373144)).trans he372981
                                have he373163 : F373152 q270944 = .inr (22, [.ref (γ 9 0), .ref (γ 9 1), .ref (γ 9 2), .ref (γ 9 3), .ref (γ 9 4), .ref (γ 9 5), .ref (γ 9 6), .ref (γ 9 7), .ref (γ 9 8), .int p373093, .int p373094, .int p373095, .int p373096, .int p373097, .int p373098, .ref (γ 9 15), .ref (γ 9 16), .ref (γ 9 17), .ref (γ 9 18), .ref (γ 9 19), .ref (γ 9 20), .ref (γ 9 21), .ref (γ 9 22), .int p373099, .int p373100, .int p373101, .int p373102, .int p373103, .ref q373091, .ref (γ 9 29), .int p373104, .ref (γ 9 31), .int p373105, .int p373106, .int p373107, .ref q373092]) := (n373154 q270944 (rn_oa he373090 he373144)).trans he373090
                                have he373164 : F373152 (γ 9 1) = .inl (I (.array .long), 2000, .inr (.inr (.inr (.inr f373138)))) := (n373154 (γ 9 1) (rn_ref_long he373137 he373144)).trans he373137
                                have he373165 : F373152 (γ 9 2) = .inl (I .long, 32, .inr (.inl f373149)) := (n373154 (γ 9 2) (rn_ty ht373112 ht373141 (by decide))).trans he373148
                                have he373166 : F373152 q373140 = .inl (I .long, 32, .inr (.inl f373155)) := e373153
                                have hs373167 : rStr γ [] F270943 F373152 := rStr_put hs372970 n373154 ht373141 (by decide)
                                have kp373168 : F373152 q270944 = F270943 q270944 := (n373154 q270944 (rn_ty htq270944 ht373141 (by decide))).trans x372972
                                have kp373169 : F373152 (γ 9 3) = F372968 (γ 9 3) := n373154 (γ 9 3) (rn_ty ht373113 ht373141 (by decide))
                                have wf373155 : lb_W f373155 (32) (32) (2000) := lb_Wst hf373155 wf373145 (by omega) (lb_Mod0 (by omega) (by omega)) qu373151
                                obtain ⟨z373170, hz373170⟩ : ∃ z : Int32, z = g372967 + Int32.ofInt 1 := ⟨_, rfl⟩
                                have ez373170 : z373170.toInt = g372967.toInt + 1 := gI_inc hz373170 (by decide) bg372967' (by decide) (by decide)
                                have bz373170 : gB z373170 1 32 := ⟨by omega, by omega⟩
                                refine G_iinc (L' := [(10, .int z373170), (9, .int 0), (8, .int (-1)), (7, .int o372210), (6, .ref q372111), (5, .int g372070), (4, .ref q368818), (3, .int g367527), (0, .ref q270944), (1, .ref q270945), (2, .int p270946)]) z373170 0 dr_cX17_graph_237 rfl hz373170.symm (Nat.le_of_ble_eq_true rfl) rfl ?_
                                refine G_goto 210 dr_cX17_graph_240 (by decide +kernel) ?_
                                have hT373171 : RS D I P270942 F373152 γ el := RS_set hT372969 n373154 ht373141 (by decide) ⟨f373155, he373166, wf373155⟩
                                exact ih210_372972 F373152 z373170 (gB_w bz373170 (by decide) (by decide)) hT373171 hs373167 (by rw [kp373169]; exact x372971) kp373168 (by have qa0 : Int32.toInt (-1) = (-1) := (by decide); have qa1 : Int32.toInt 0 = 0 := (by decide); omega)
                          exact hlp210_372972 (((33 : Int) - 0).toNat + 1) F372189 0 (gB_w (gBl (show Int32.toInt 0 = 0 by decide)) (by decide) (by decide)) hT372190 hs372199 gr372204 kp372200 (Nat.lt_succ_self _)
                      · have r373172 : p372124.toInt = 0 := gj_eq hc372692 (show Int32.toInt 0 = 0 by decide)
                        have bp372124' : gB p372124 0 0 := ⟨by omega, by omega⟩
                        refine G_aload 1 dr_cX17_graph_156 rfl ?_
                        refine Gp_get 5 hm372122 he372198 dr_cX17_graph_158 (gk_X15 D I) (Nat.le_of_ble_eq_true rfl) wr_9_197 rfl ?_
                        refine G_if_eq 172 dr_cX17_graph_161 (by decide +kernel) (fun hc373173 => ?_) (fun hc373173 => ?_)
                        · have r373174 : p372129.toInt = 0 := gj_eq hc373173 (show Int32.toInt 0 = 0 by decide)
                          have bp372129' : gB p372129 0 0 := ⟨by omega, by omega⟩
                          refine G_iconst (-1) dr_cX17_graph_172 (by decide +kernel) ?_
                          refine G_istore (L' := [(8, .int (-1)), (7, .int o372210), (6, .ref q372111), (5, .int g372070), (4, .ref q368818), (3, .int g367527), (0, .ref q270944), (1, .ref q270945), (2, .int p270946)]) dr_cX17_graph_173 (Nat.le_of_ble_eq_true rfl) rfl ?_
                          refine G_iload 1 dr_cX17_graph_175 rfl ?_
                          refine G_if_lt 277 dr_cX17_graph_177 (by decide +kernel) (fun hc373175 => ?_) (fun hc373175 => ?_)
                          · have r373176 : o372210.toInt < 0 := gj_lt hc373175 (show Int32.toInt 0 = 0 by decide)
                            have bo372210' : gB o372210 (-1) (-1) := ⟨by omega, by omega⟩
                            refine G_aload_n 6 dr_cX17_graph_277 rfl ?_
                            refine G_aload 2 dr_cX17_graph_278 rfl ?_
                            refine G_iload_n 8 dr_cX17_graph_280 rfl ?_
                            have hm373182 : q270944 ∈ P270942 := RS_m hT372190 htq270944 (by decide)
                            obtain ⟨q373184, q373185, p373186, p373187, p373188, p373189, p373190, p373191, p373192, p373193, p373194, p373195, p373196, p373197, p373198, p373199, p373200, he373183, hB373227, ht373201, ht373202, ht373203, ht373204, ht373205, ht373206, ht373207, ht373208, ht373209, ht373210, ht373211, ht373212, ht373213, ht373214, ht373215, ht373216, ht373217, ht373218, ht373219, ht373220, ht373221, ht373222, ht373223, ht373224, hB373228⟩ := show rk_10 γ (F372189 q270944) from RS_o hT372190 htq270944
                            refine Gw_callV (As := [.ref q372111, .int p270946]) (gV_ok D I) (ct_281701_SpillForgeModel_back l hl0 D I γ el P270942 F372189 q270944 q372111 p270946 hT372190 htq270944 ht372114 (gB_w bp270946' (by decide) (by decide))) dr_cX17_graph_281 ⟨wr_10_174, wr_1_14, wr_10_177, by decide, rfl, (Nat.le_of_ble_eq_true rfl), (Nat.le_of_ble_eq_true rfl)⟩ wr_10_176 wr_p_96 hm373182 he373183 rfl (show 0 + 0 ≤ 0 by first | omega | decide) (show 0 + 0 ≤ 0 by first | omega | decide) (Nat.le_of_ble_eq_true rfl) (fun r373180 w373181 dc373177 ds373178 hp373179 => ?_) (fun _ _ _ _ _ z => z.elim)
                            obtain ⟨F373231, rfl, rfl, hT373232, hs373233, hdc, hds, x373229, x373230⟩ := hp373179
                            have he373234 : F373231 q270945 = .inr (18, [.ref q367538, .ref q367539, .int p367540, .int p367541]) := (hs373233 q270945 (rT0 htq270945 (by decide)) (rT1 htq270945 (by decide)) (rT2 htq270945 (by decide))).trans he372192
                            have he373235 : F373231 q367538 = .inr (4, [.int p368799, .ref q368801, .int p368800]) := (hs373233 q367538 (rT0 ht367542 (by decide)) (rT1 ht367542 (by decide)) (rT2 ht367542 (by decide))).trans he372193
                            have he373236 : F373231 q368801 = .inl (I (.object "java/lang/Object"), n368815, .inr (.inr (.inr (.inr f368816)))) := (hs373233 q368801 (rT0 r368807 (by decide)) (rT1 r368807 (by decide)) (rT2 r368807 (by decide))).trans he372194
                            have he373237 : F373231 q368818 = .inr (17, [.ref q368827, .ref q368828, .int p368829, .int p368830]) := (hs373233 q368818 (rT0 ht368823 (by decide)) (rT1 ht368823 (by decide)) (rT2 ht368823 (by decide))).trans he372195
                            have he373238 : F373231 q368827 = .inr (4, [.int p372092, .ref q372094, .int p372093]) := (hs373233 q368827 (rT0 ht368831 (by decide)) (rT1 ht368831 (by decide)) (rT2 ht368831 (by decide))).trans he372196
                            have he373239 : F373231 q372094 = .inl (I (.object "java/lang/Object"), n372108, .inr (.inr (.inr (.inr f372109)))) := (hs373233 q372094 (rT0 r372100 (by decide)) (rT1 r372100 (by decide)) (rT2 r372100 (by decide))).trans he372197
                            have he373240 : F373231 q372111 = .inr (20, [.int p372124, .int p372125, .int p372126, .int p372127, .int p372128, .int p372129, .int p372130]) := (hs373233 q372111 (rT0 ht372114 (by decide)) (rT1 ht372114 (by decide)) (rT2 ht372114 (by decide))).trans he372198
                            have hs373241 : rStr γ [] F270943 F373231 := rStr_tr hs372199 hs373233
                            have kp373242 : F373231 q270944 = F270943 q270944 := (x373229).trans kp372200
                            have kp373243 : F373231 (γ 9 3) = F372189 (γ 9 3) := x373230
                            change G _ _ _ _ _ _ _ _ _ _ _
                            refine G_widen (cs' := 0) (sl' := 0) (by omega) (by omega) ?_
                            obtain ⟨z373244, hz373244⟩ : ∃ z : Int32, z = g372070 + Int32.ofInt (-1) := ⟨_, rfl⟩
                            have ez373244 : z373244.toInt = g372070.toInt + (-1) := gI_inc hz373244 (by decide) bg372070' (by decide) (by decide)
                            have bz373244 : gB z373244 (-1) 999998 := ⟨by omega, by omega⟩
                            refine G_iinc (L' := [(5, .int z373244), (8, .int (-1)), (7, .int o372210), (6, .ref q372111), (4, .ref q368818), (3, .int g367527), (0, .ref q270944), (1, .ref q270945), (2, .int p270946)]) z373244 3 dr_cX17_graph_284 rfl hz373244.symm (Nat.le_of_ble_eq_true rfl) rfl ?_
                            refine G_goto 109 dr_cX17_graph_287 (by decide +kernel) ?_
                            refine G_lv (L' := [(5, .int z373244), (4, .ref q368818), (3, .int g367527), (0, .ref q270944), (1, .ref q270945), (2, .int p270946)]) [0, 4, 5, 6, 7, 8] rfl ?_
                            exact ih109_372076 F373231 z373244 (gB_w bz373244 (by decide) (by decide)) hT373232 hs373241 (by omega) (fun h0 => by have z := (by rw [kp373243]; exact gr372204) h0; rw [show ((g372070.toInt : Int).toNat : Nat) = (z373244.toInt + 1 : Int).toNat by omega] at z; exact z) kp373242 (by omega)
                          · have r373245 : 0 ≤ o372210.toInt := gj_nlt hc373175 (show Int32.toInt 0 = 0 by decide)
                            have bo372210' : gB o372210 0 1999 := ⟨by omega, by omega⟩
                            refine G_iload 0 dr_cX17_graph_180 rfl ?_
                            refine G_if_lt 204 dr_cX17_graph_182 (by decide +kernel) (fun _ => ?_) (fun hc => absurd hc (by decide))
                            refine G_iconst 0 dr_cX17_graph_204 (by decide +kernel) ?_
                            refine G_istore (L' := [(9, .int 0), (8, .int (-1)), (7, .int o372210), (6, .ref q372111), (5, .int g372070), (4, .ref q368818), (3, .int g367527), (0, .ref q270944), (1, .ref q270945), (2, .int p270946)]) dr_cX17_graph_205 (Nat.le_of_ble_eq_true rfl) rfl ?_
                            refine G_iconst 0 dr_cX17_graph_207 (by decide +kernel) ?_
                            refine G_istore (L' := [(10, .int 0), (9, .int 0), (8, .int (-1)), (7, .int o372210), (6, .ref q372111), (5, .int g372070), (4, .ref q368818), (3, .int g367527), (0, .ref q270944), (1, .ref q270945), (2, .int p270946)]) dr_cX17_graph_208 (Nat.le_of_ble_eq_true rfl) rfl ?_
                            have hlp210_373453 : ∀ (n210_373453 : Nat) (F373449 : Nat → va_E) (g373448 : Int32), gB g373448 0 32 → RS D I P270942 F373449 γ el → rStr γ [] F270943 F373449 → (p270946.toInt = 0 → rGr γ el F270943 q270945 (γ 6 (γ 1 q270945)) (cB (F373449 (γ 9 3))) (vB (g367527.toInt : Int).toNat (g372070.toInt : Int).toNat)) → (F373449 q270944 = F270943 q270944) → ((33 : Int) - g373448.toInt).toNat < n210_373453 → G (gV D I) l (gRm 5 111 0 0) (gMA (gV D I) (pt_270948_SpillForgeModel_graph D I γ el P270942 F270943 q270944 q270945 p270946) gNA 0 0) ky_270948_SpillForgeModel_graph 210 [(10, .int g373448), (9, .int 0), (8, .int (-1)), (7, .int o372210), (6, .ref q372111), (5, .int g372070), (4, .ref q368818), (3, .int g367527), (0, .ref q270944), (1, .ref q270945), (2, .int p270946)] [] (va_pl P270942 F373449) 0 0 := by
                              intro n210_373453
                              induction n210_373453 with
                              | zero => intro F373449 g373448 bg373448 hT373450 hs373451 x373452 x373453 hm210_373453; exact absurd hm210_373453 (Nat.not_lt_zero _)
                              | succ n210_373453 ih210_373453 =>
                                intro F373449 g373448 bg373448 hT373450 hs373451 x373452 x373453 hm210_373453
                                have hs373455 : rStr γ [] F372189 F373449 := fun b h0 hb hw => (hs373451 b h0 hb hw).trans (hs372199 b h0 hb hw).symm
                                have he373456 : F373449 q270945 = .inr (18, [.ref q367538, .ref q367539, .int p367540, .int p367541]) := (hs373455 q270945 (rT0 htq270945 (by decide)) (rT1 htq270945 (by decide)) (rT2 htq270945 (by decide))).trans he372192
                                have he373457 : F373449 q367538 = .inr (4, [.int p368799, .ref q368801, .int p368800]) := (hs373455 q367538 (rT0 ht367542 (by decide)) (rT1 ht367542 (by decide)) (rT2 ht367542 (by decide))).trans he372193
                                have he373458 : F373449 q368801 = .inl (I (.object "java/lang/Object"), n368815, .inr (.inr (.inr (.inr f368816)))) := (hs373455 q368801 (rT0 r368807 (by decide)) (rT1 r368807 (by decide)) (rT2 r368807 (by decide))).trans he372194
                                have he373459 : F373449 q368818 = .inr (17, [.ref q368827, .ref q368828, .int p368829, .int p368830]) := (hs373455 q368818 (rT0 ht368823 (by decide)) (rT1 ht368823 (by decide)) (rT2 ht368823 (by decide))).trans he372195
                                have he373460 : F373449 q368827 = .inr (4, [.int p372092, .ref q372094, .int p372093]) := (hs373455 q368827 (rT0 ht368831 (by decide)) (rT1 ht368831 (by decide)) (rT2 ht368831 (by decide))).trans he372196
                                have he373461 : F373449 q372094 = .inl (I (.object "java/lang/Object"), n372108, .inr (.inr (.inr (.inr f372109)))) := (hs373455 q372094 (rT0 r372100 (by decide)) (rT1 r372100 (by decide)) (rT2 r372100 (by decide))).trans he372197
                                have he373462 : F373449 q372111 = .inr (20, [.int p372124, .int p372125, .int p372126, .int p372127, .int p372128, .int p372129, .int p372130]) := (hs373455 q372111 (rT0 ht372114 (by decide)) (rT1 ht372114 (by decide)) (rT2 ht372114 (by decide))).trans he372198
                                have hs373463 : rStr γ [] F270943 F373449 := rStr_tr hs372199 hs373455
                                refine G_iload 0 dr_cX17_graph_210 rfl ?_
                                refine G_bipush 32 dr_cX17_graph_212 (by decide +kernel) ?_
                                refine G_icmp_ge 243 dr_cX17_graph_214 (by decide +kernel) (fun hc373464 => ?_) (fun hc373464 => ?_)
                                · have r373465 : 32 ≤ g373448.toInt := gj_leL hc373464 (show Int32.toInt 32 = 32 by decide)
                                  have bg373448' : gB g373448 32 32 := ⟨by omega, by omega⟩
                                  refine G_iload 2 dr_cX17_graph_243 rfl ?_
                                  refine G_if_lt 265 dr_cX17_graph_245 (by decide +kernel) (fun _ => ?_) (fun hc => absurd hc (by decide))
                                  refine G_aload_n 8 dr_cX17_graph_265 rfl ?_
                                  have hm373466 : q270944 ∈ P270942 := RS_m hT373450 htq270944 (by decide)
                                  obtain ⟨q373468, q373469, p373470, p373471, p373472, p373473, p373474, p373475, p373476, p373477, p373478, p373479, p373480, p373481, p373482, p373483, p373484, he373467, hB373511, ht373485, ht373486, ht373487, ht373488, ht373489, ht373490, ht373491, ht373492, ht373493, ht373494, ht373495, ht373496, ht373497, ht373498, ht373499, ht373500, ht373501, ht373502, ht373503, ht373504, ht373505, ht373506, ht373507, ht373508, hB373512⟩ := show rk_10 γ (F373449 q270944) from RS_o hT373450 htq270944
                                  refine Gp_get 1 hm373466 he373467 dr_cX17_graph_266 (gk_X17 D I) (Nat.le_of_ble_eq_true rfl) wr_7_75 rfl ?_
                                  refine G_iload 3 dr_cX17_graph_269 rfl ?_
                                  have hm373513 : (γ 9 1) ∈ P270942 := RS_m hT373450 ht373488 (by decide)
                                  obtain ⟨f373515, he373514, hg373516⟩ := show rk_13 I γ (F373449 (γ 9 1)) from RS_o hT373450 ht373488
                                  obtain ⟨q373517, hx373519⟩ : ∃ x, x = γ 11 o372210.toInt.toNat := ⟨_, rfl⟩
                                  have ht373518 : rKd γ q373517 36 := by rw [hx373519]; exact (hg373516 _ (show o372210.toInt.toNat < 2000 by omega)).2.1
                                  refine Gp_aald 5 hm373513 he373514 dr_cX17_graph_271 rfl rfl (gB_in bo372210' (by decide) (by decide)) ?_
                                  rw [show f373515 o372210.toNatClampNeg = some q373517 from (hg373516 _ (show o372210.toInt.toNat < 2000 by omega)).1.trans (by rw [hx373519])]
                                  change G _ _ _ _ _ _ _ (.ref q373517 :: _) _ _ _
                                  refine G_iload 3 dr_cX17_graph_272 rfl ?_
                                  have hm373520 : q373517 ∈ P270942 := RS_m hT373450 ht373518 (by decide)
                                  obtain ⟨f373522, he373521, wf373522⟩ := show rk_36 I (F373449 q373517) from RS_o hT373450 ht373518
                                  refine Gw_callS (As := [.ref q373517, .int o372210]) (gV_ok D I) (cp_1873_SpillForgeModel_clear l hl0 D I P270942 F373449 q373517 o372210 f373522 hm373520 he373521 bo372210' wf373522) dr_cX17_graph_274 ⟨wr_10_185, wr_1_14, wr_10_187, by decide, rfl, (Nat.le_of_ble_eq_true rfl), (Nat.le_of_ble_eq_true rfl)⟩ wr_10_186 (show 0 + 0 ≤ 0 by first | omega | decide) (show 0 + 0 ≤ 0 by first | omega | decide) (Nat.le_of_ble_eq_true rfl) (fun r373526 w373527 dc373523 ds373524 hp373525 => ?_) (fun _ _ _ _ _ z => z.elim)
                                  obtain ⟨F373530, f373528, rfl, rfl, hfr373532, he373533, hdc, hds, x373529⟩ := hp373525
                                  have he373534 : F373530 q270945 = .inr (18, [.ref q367538, .ref q367539, .int p367540, .int p367541]) := (hfr373532 q270945 hm367536 (nm_c (rn_oa he373456 he373521) nm_n)).trans he373456
                                  have he373535 : F373530 q367538 = .inr (4, [.int p368799, .ref q368801, .int p368800]) := (hfr373532 q367538 hm368797 (nm_c (rn_oa he373457 he373521) nm_n)).trans he373457
                                  have he373536 : F373530 q368801 = .inl (I (.object "java/lang/Object"), n368815, .inr (.inr (.inr (.inr f368816)))) := (hfr373532 q368801 hm368817 (nm_c (rn_ref_long he373458 he373521) nm_n)).trans he373458
                                  have he373537 : F373530 q368818 = .inr (17, [.ref q368827, .ref q368828, .int p368829, .int p368830]) := (hfr373532 q368818 hm368825 (nm_c (rn_oa he373459 he373521) nm_n)).trans he373459
                                  have he373538 : F373530 q368827 = .inr (4, [.int p372092, .ref q372094, .int p372093]) := (hfr373532 q368827 hm372090 (nm_c (rn_oa he373460 he373521) nm_n)).trans he373460
                                  have he373539 : F373530 q372094 = .inl (I (.object "java/lang/Object"), n372108, .inr (.inr (.inr (.inr f372109)))) := (hfr373532 q372094 hm372110 (nm_c (rn_ref_long he373461 he373521) nm_n)).trans he373461
                                  have he373540 : F373530 q372111 = .inr (20, [.int p372124, .int p372125, .int p372126, .int p372127, .int p372128, .int p372129, .int p372130]) := (hfr373532 q372111 hm372122 (nm_c (rn_oa he373462 he373521) nm_n)).trans he373462
                                  have he373541 : F373530 q270944 = .inr (22, [.ref (γ 9 0), .ref (γ 9 1), .ref (γ 9 2), .ref (γ 9 3), .ref (γ 9 4), .ref (γ 9 5), .ref (γ 9 6), .ref (γ 9 7), .ref (γ 9 8), .int p373470, .int p373471, .int p373472, .int p373473, .int p373474, .int p373475, .ref (γ 9 15), .ref (γ 9 16), .ref (γ 9 17), .ref (γ 9 18), .ref (γ 9 19), .ref (γ 9 20), .ref (γ 9 21), .ref (γ 9 22), .int p373476, .int p373477, .int p373478, .int p373479, .int p373480, .ref q373468, .ref (γ 9 29), .int p373481, .ref (γ 9 31), .int p373482, .int p373483, .int p373484, .ref q373469]) := (hfr373532 q270944 hm373466 (nm_c (rn_oa he373467 he373521) nm_n)).trans he373467
                                  have he373542 : F373530 (γ 9 1) = .inl (I (.array .long), 2000, .inr (.inr (.inr (.inr f373515)))) := (hfr373532 (γ 9 1) hm373513 (nm_c (rn_ref_long he373514 he373521) nm_n)).trans he373514
                                  have hfr373543 : rFr [q373517] P270942 F373449 F373530 := rFr_call (rSub_rf (P := P270942)) (rFr_rf (W := []) (P := P270942) (F := F373449)) hfr373532 (fun b hb hn => ⟨nm_n, (nm_c (fun e => hn (e ▸ List.mem_cons_self)) nm_n)⟩)
                                  change G _ _ _ _ _ _ _ _ _ _ _
                                  refine G_widen (cs' := 0) (sl' := 0) (by omega) (by omega) ?_
                                  have hT373544 : RS D I P270942 F373530 γ el := RS_fr hT373450 hfr373543 ht373518 (by decide) ⟨f373528, he373533, x373529⟩
                                  have hs373545 : rStr γ [] F270943 F373530 := rStr_fr hT373450 hs373451 hfr373543 ht373518 (by decide)
                                  have kp373546 : F373530 q270944 = F270943 q270944 := (hfr373543 q270944 (RS_m hT373450 htq270944 (by decide)) (nm_c (rn_ty htq270944 ht373518 (by decide)) nm_n)).trans x373453
                                  have kp373547 : F373530 (γ 9 3) = F373449 (γ 9 3) := hfr373543 (γ 9 3) (RS_m hT373450 ht373490 (by decide)) (nm_c (rn_ty ht373490 ht373518 (by decide)) nm_n)
                                  refine G_aload_n 8 dr_cX17_graph_277 rfl ?_
                                  refine G_aload 4 dr_cX17_graph_278 rfl ?_
                                  refine G_iload_n 10 dr_cX17_graph_280 rfl ?_
                                  refine Gw_callV (As := [.ref q372111, .int p270946]) (gV_ok D I) (ct_281701_SpillForgeModel_back l hl0 D I γ el P270942 F373530 q270944 q372111 p270946 hT373544 htq270944 ht372114 (gB_w bp270946' (by decide) (by decide))) dr_cX17_graph_281 ⟨wr_10_174, wr_1_14, wr_10_177, by decide, rfl, (Nat.le_of_ble_eq_true rfl), (Nat.le_of_ble_eq_true rfl)⟩ wr_10_176 wr_p_96 hm373466 he373541 rfl (show 0 + 0 ≤ 0 by first | omega | decide) (show 0 + 0 ≤ 0 by first | omega | decide) (Nat.le_of_ble_eq_true rfl) (fun r373551 w373552 dc373548 ds373549 hp373550 => ?_) (fun _ _ _ _ _ z => z.elim)
                                  obtain ⟨F373555, rfl, rfl, hT373556, hs373557, hdc, hds, x373553, x373554⟩ := hp373550
                                  have he373558 : F373555 q270945 = .inr (18, [.ref q367538, .ref q367539, .int p367540, .int p367541]) := (hs373557 q270945 (rT0 htq270945 (by decide)) (rT1 htq270945 (by decide)) (rT2 htq270945 (by decide))).trans he373534
                                  have he373559 : F373555 q367538 = .inr (4, [.int p368799, .ref q368801, .int p368800]) := (hs373557 q367538 (rT0 ht367542 (by decide)) (rT1 ht367542 (by decide)) (rT2 ht367542 (by decide))).trans he373535
                                  have he373560 : F373555 q368801 = .inl (I (.object "java/lang/Object"), n368815, .inr (.inr (.inr (.inr f368816)))) := (hs373557 q368801 (rT0 r368807 (by decide)) (rT1 r368807 (by decide)) (rT2 r368807 (by decide))).trans he373536
                                  have he373561 : F373555 q368818 = .inr (17, [.ref q368827, .ref q368828, .int p368829, .int p368830]) := (hs373557 q368818 (rT0 ht368823 (by decide)) (rT1 ht368823 (by decide)) (rT2 ht368823 (by decide))).trans he373537
                                  have he373562 : F373555 q368827 = .inr (4, [.int p372092, .ref q372094, .int p372093]) := (hs373557 q368827 (rT0 ht368831 (by decide)) (rT1 ht368831 (by decide)) (rT2 ht368831 (by decide))).trans he373538
                                  have he373563 : F373555 q372094 = .inl (I (.object "java/lang/Object"), n372108, .inr (.inr (.inr (.inr f372109)))) := (hs373557 q372094 (rT0 r372100 (by decide)) (rT1 r372100 (by decide)) (rT2 r372100 (by decide))).trans he373539
                                  have he373564 : F373555 q372111 = .inr (20, [.int p372124, .int p372125, .int p372126, .int p372127, .int p372128, .int p372129, .int p372130]) := (hs373557 q372111 (rT0 ht372114 (by decide)) (rT1 ht372114 (by decide)) (rT2 ht372114 (by decide))).trans he373540
                                  have hs373565 : rStr γ [] F270943 F373555 := rStr_tr hs373545 hs373557
                                  have kp373566 : F373555 q270944 = F270943 q270944 := (x373553).trans kp373546
                                  have kp373567 : F373555 (γ 9 3) = F373449 (γ 9 3) := (x373554).trans kp373547
                                  change G _ _ _ _ _ _ _ _ _ _ _
                                  refine G_widen (cs' := 0) (sl' := 0) (by omega) (by omega) ?_
                                  obtain ⟨z373568, hz373568⟩ : ∃ z : Int32, z = g372070 + Int32.ofInt (-1) := ⟨_, rfl⟩
                                  have ez373568 : z373568.toInt = g372070.toInt + (-1) := gI_inc hz373568 (by decide) bg372070' (by decide) (by decide)
                                  have bz373568 : gB z373568 (-1) 999998 := ⟨by omega, by omega⟩
                                  refine G_iinc (L' := [(5, .int z373568), (10, .int g373448), (9, .int 0), (8, .int (-1)), (7, .int o372210), (6, .ref q372111), (4, .ref q368818), (3, .int g367527), (0, .ref q270944), (1, .ref q270945), (2, .int p270946)]) z373568 5 dr_cX17_graph_284 rfl hz373568.symm (Nat.le_of_ble_eq_true rfl) rfl ?_
                                  refine G_goto 109 dr_cX17_graph_287 (by decide +kernel) ?_
                                  refine G_lv (L' := [(5, .int z373568), (4, .ref q368818), (3, .int g367527), (0, .ref q270944), (1, .ref q270945), (2, .int p270946)]) [0, 6, 7, 8, 9, 10] rfl ?_
                                  exact ih109_372076 F373555 z373568 (gB_w bz373568 (by decide) (by decide)) hT373556 hs373565 (by omega) (fun h0 => by have z := (by rw [kp373567]; exact x373452) h0; rw [show ((g372070.toInt : Int).toNat : Nat) = (z373568.toInt + 1 : Int).toNat by omega] at z; exact z) kp373566 (by omega)
                                · have r373569 : g373448.toInt < 32 := gj_nleL hc373464 (show Int32.toInt 32 = 32 by decide)
                                  have bg373448' : gB g373448 0 31 := ⟨by omega, by omega⟩
                                  refine G_aload_n 8 dr_cX17_graph_217 rfl ?_
                                  have hm373570 : q270944 ∈ P270942 := RS_m hT373450 htq270944 (by decide)
                                  obtain ⟨q373572, q373573, p373574, p373575, p373576, p373577, p373578, p373579, p373580, p373581, p373582, p373583, p373584, p373585, p373586, p373587, p373588, he373571, hB373615, ht373589, ht373590, ht373591, ht373592, ht373593, ht373594, ht373595, ht373596, ht373597, ht373598, ht373599, ht373600, ht373601, ht373602, ht373603, ht373604, ht373605, ht373606, ht373607, ht373608, ht373609, ht373610, ht373611, ht373612, hB373616⟩ := show rk_10 γ (F373449 q270944) from RS_o hT373450 htq270944
                                  refine Gp_get 1 hm373570 he373571 dr_cX17_graph_218 (gk_X17 D I) (Nat.le_of_ble_eq_true rfl) wr_7_75 rfl ?_
                                  refine G_iload 3 dr_cX17_graph_221 rfl ?_
                                  have hm373617 : (γ 9 1) ∈ P270942 := RS_m hT373450 ht373592 (by decide)
                                  obtain ⟨f373619, he373618, hg373620⟩ := show rk_13 I γ (F373449 (γ 9 1)) from RS_o hT373450 ht373592
                                  obtain ⟨q373621, hx373623⟩ : ∃ x, x = γ 11 o372210.toInt.toNat := ⟨_, rfl⟩
                                  have ht373622 : rKd γ q373621 36 := by rw [hx373623]; exact (hg373620 _ (show o372210.toInt.toNat < 2000 by omega)).2.1
                                  refine Gp_aald 5 hm373617 he373618 dr_cX17_graph_223 rfl rfl (gB_in bo372210' (by decide) (by decide)) ?_
                                  rw [show f373619 o372210.toNatClampNeg = some q373621 from (hg373620 _ (show o372210.toInt.toNat < 2000 by omega)).1.trans (by rw [hx373623])]
                                  change G _ _ _ _ _ _ _ (.ref q373621 :: _) _ _ _
                                  refine G_iload 0 dr_cX17_graph_224 rfl ?_
                                  refine G_dup2_11 dr_cX17_graph_226 rfl rfl ?_
                                  have hm373624 : q373621 ∈ P270942 := RS_m hT373450 ht373622 (by decide)
                                  obtain ⟨f373626, he373625, wf373626⟩ := show rk_36 I (F373449 q373621) from RS_o hT373450 ht373622
                                  refine Gp_lald 2 hm373624 he373625 dr_cX17_graph_227 rfl (gB_in bg373448' (by decide) (by decide)) (G_namL fun u373627 hu373627 => ?_)
                                  have qu373627 : lb_Q u373627 (2000 - 64 * g373448.toInt) := lb_Wld hu373627 wf373626 (by omega) (by omega) (lb_Mod0 (by omega) (by omega))
                                  refine G_aload_n 8 dr_cX17_graph_228 rfl ?_
                                  refine Gp_get 2 hm373570 he373571 dr_cX17_graph_229 (gk_X17 D I) (Nat.le_of_ble_eq_true rfl) wr_7_76 rfl ?_
                                  refine G_iload 0 dr_cX17_graph_232 rfl ?_
                                  have hm373628 : (γ 9 2) ∈ P270942 := RS_m hT373450 ht373593 (by decide)
                                  obtain ⟨f373630, he373629, wf373630⟩ := show rk_35 I (F373449 (γ 9 2)) from RS_o hT373450 ht373593
                                  refine Gp_lald 2 hm373628 he373629 dr_cX17_graph_234 rfl (gB_in bg373448' (by decide) (by decide)) (G_namL fun u373631 hu373631 => ?_)
                                  have qu373631 : lb_Q u373631 (2000 - 64 * g373448.toInt) := lb_Wld hu373631 wf373630 (by omega) (by omega) (lb_Mod0 (by omega) (by omega))
                                  refine G_lor dr_cX17_graph_235 (G_namL fun u373632 hu373632 => ?_)
                                  have qu373632 : lb_Q u373632 (2000 - 64 * g373448.toInt) := lb_Qor hu373632 qu373627 qu373631
                                  refine Gp_last 2 hm373624 he373625 dr_cX17_graph_236 rfl (gB_in bg373448' (by decide) (by decide)) (fun F373633 e373634 n373635 => ?_)
                                  obtain ⟨f373636, hf373636⟩ : ∃ z, z = vp_updL f373626 g373448.toNatClampNeg u373632 := ⟨_, rfl⟩
                                  rw [← hf373636] at e373634
                                  have he373637 : F373633 q270945 = .inr (18, [.ref q367538, .ref q367539, .int p367540, .int p367541]) := (n373635 q270945 (rn_oa he373456 he373625)).trans he373456
                                  have he373638 : F373633 q367538 = .inr (4, [.int p368799, .ref q368801, .int p368800]) := (n373635 q367538 (rn_oa he373457 he373625)).trans he373457
                                  have he373639 : F373633 q368801 = .inl (I (.object "java/lang/Object"), n368815, .inr (.inr (.inr (.inr f368816)))) := (n373635 q368801 (rn_ref_long he373458 he373625)).trans he373458
                                  have he373640 : F373633 q368818 = .inr (17, [.ref q368827, .ref q368828, .int p368829, .int p368830]) := (n373635 q368818 (rn_oa he373459 he373625)).trans he373459
                                  have he373641 : F373633 q368827 = .inr (4, [.int p372092, .ref q372094, .int p372093]) := (n373635 q368827 (rn_oa he373460 he373625)).trans he373460
                                  have he373642 : F373633 q372094 = .inl (I (.object "java/lang/Object"), n372108, .inr (.inr (.inr (.inr f372109)))) := (n373635 q372094 (rn_ref_long he373461 he373625)).trans he373461
                                  have he373643 : F373633 q372111 = .inr (20, [.int p372124, .int p372125, .int p372126, .int p372127, .int p372128, .int p372129, .int p372130]) := (n373635 q372111 (rn_oa he373462 he373625)).trans he373462
                                  have he373644 : F373633 q270944 = .inr (22, [.ref (γ 9 0), .ref (γ 9 1), .ref (γ 9 2), .ref (γ 9 3), .ref (γ 9 4), .ref (γ 9 5), .ref (γ 9 6), .ref (γ 9 7), .ref (γ 9 8), .int p373574, .int p373575, .int p373576, .int p373577, .int p373578, .int p373579, .ref (γ 9 15), .ref (γ 9 16), .ref (γ 9 17), .ref (γ 9 18), .ref (γ 9 19), .ref (γ 9 20), .ref (γ 9 21), .ref (γ 9 22), .int p373580, .int p373581, .int p373582, .int p373583, .int p373584, .ref q373572, .ref (γ 9 29), .int p373585, .ref (γ 9 31), .int p373586, .int p373587, .int p373588, .ref q373573]) := (n373635 q270944 (rn_oa he373571 he373625)).trans he373571
                                  have he373645 : F373633 (γ 9 1) = .inl (I (.array .long), 2000, .inr (.inr (.inr (.inr f373619)))) := (n373635 (γ 9 1) (rn_ref_long he373618 he373625)).trans he373618
                                  have he373646 : F373633 (γ 9 2) = .inl (I .long, 32, .inr (.inl f373630)) := (n373635 (γ 9 2) (rn_ty ht373593 ht373622 (by decide))).trans he373629
                                  have he373647 : F373633 q373621 = .inl (I .long, 32, .inr (.inl f373636)) := e373634
                                  have hs373648 : rStr γ [] F270943 F373633 := rStr_put hs373451 n373635 ht373622 (by decide)
                                  have kp373649 : F373633 q270944 = F270943 q270944 := (n373635 q270944 (rn_ty htq270944 ht373622 (by decide))).trans x373453
                                  have kp373650 : F373633 (γ 9 3) = F373449 (γ 9 3) := n373635 (γ 9 3) (rn_ty ht373594 ht373622 (by decide))
                                  have wf373636 : lb_W f373636 (32) (32) (2000) := lb_Wst hf373636 wf373626 (by omega) (lb_Mod0 (by omega) (by omega)) qu373632
                                  obtain ⟨z373651, hz373651⟩ : ∃ z : Int32, z = g373448 + Int32.ofInt 1 := ⟨_, rfl⟩
                                  have ez373651 : z373651.toInt = g373448.toInt + 1 := gI_inc hz373651 (by decide) bg373448' (by decide) (by decide)
                                  have bz373651 : gB z373651 1 32 := ⟨by omega, by omega⟩
                                  refine G_iinc (L' := [(10, .int z373651), (9, .int 0), (8, .int (-1)), (7, .int o372210), (6, .ref q372111), (5, .int g372070), (4, .ref q368818), (3, .int g367527), (0, .ref q270944), (1, .ref q270945), (2, .int p270946)]) z373651 0 dr_cX17_graph_237 rfl hz373651.symm (Nat.le_of_ble_eq_true rfl) rfl ?_
                                  refine G_goto 210 dr_cX17_graph_240 (by decide +kernel) ?_
                                  have hT373652 : RS D I P270942 F373633 γ el := RS_set hT373450 n373635 ht373622 (by decide) ⟨f373636, he373647, wf373636⟩
                                  exact ih210_373453 F373633 z373651 (gB_w bz373651 (by decide) (by decide)) hT373652 hs373648 (by rw [kp373650]; exact x373452) kp373649 (by have qa0 : Int32.toInt (-1) = (-1) := (by decide); have qa1 : Int32.toInt 0 = 0 := (by decide); omega)
                            exact hlp210_373453 (((33 : Int) - 0).toNat + 1) F372189 0 (gB_w (gBl (show Int32.toInt 0 = 0 by decide)) (by decide) (by decide)) hT372190 hs372199 gr372204 kp372200 (Nat.lt_succ_self _)
                        · have r373653 : p372129.toInt ≠ 0 := gj_neq hc373173 (show Int32.toInt 0 = 0 by decide)
                          have bp372129' : gB p372129 1 1 := ⟨by omega, by omega⟩
                          refine G_aload 1 dr_cX17_graph_164 rfl ?_
                          refine Gp_get 2 hm372122 he372198 dr_cX17_graph_166 (gk_X15 D I) (Nat.le_of_ble_eq_true rfl) wr_9_186 rfl ?_
                          refine G_goto 173 dr_cX17_graph_169 (by decide +kernel) ?_
                          refine G_istore (L' := [(8, .int p372126), (7, .int o372210), (6, .ref q372111), (5, .int g372070), (4, .ref q368818), (3, .int g367527), (0, .ref q270944), (1, .ref q270945), (2, .int p270946)]) dr_cX17_graph_173 (Nat.le_of_ble_eq_true rfl) rfl ?_
                          refine G_iload 1 dr_cX17_graph_175 rfl ?_
                          refine G_if_lt 277 dr_cX17_graph_177 (by decide +kernel) (fun hc373654 => ?_) (fun hc373654 => ?_)
                          · have r373655 : o372210.toInt < 0 := gj_lt hc373654 (show Int32.toInt 0 = 0 by decide)
                            have bo372210' : gB o372210 (-1) (-1) := ⟨by omega, by omega⟩
                            refine G_aload_n 6 dr_cX17_graph_277 rfl ?_
                            refine G_aload 2 dr_cX17_graph_278 rfl ?_
                            refine G_iload_n 8 dr_cX17_graph_280 rfl ?_
                            have hm373661 : q270944 ∈ P270942 := RS_m hT372190 htq270944 (by decide)
                            obtain ⟨q373663, q373664, p373665, p373666, p373667, p373668, p373669, p373670, p373671, p373672, p373673, p373674, p373675, p373676, p373677, p373678, p373679, he373662, hB373706, ht373680, ht373681, ht373682, ht373683, ht373684, ht373685, ht373686, ht373687, ht373688, ht373689, ht373690, ht373691, ht373692, ht373693, ht373694, ht373695, ht373696, ht373697, ht373698, ht373699, ht373700, ht373701, ht373702, ht373703, hB373707⟩ := show rk_10 γ (F372189 q270944) from RS_o hT372190 htq270944
                            refine Gw_callV (As := [.ref q372111, .int p270946]) (gV_ok D I) (ct_281701_SpillForgeModel_back l hl0 D I γ el P270942 F372189 q270944 q372111 p270946 hT372190 htq270944 ht372114 (gB_w bp270946' (by decide) (by decide))) dr_cX17_graph_281 ⟨wr_10_174, wr_1_14, wr_10_177, by decide, rfl, (Nat.le_of_ble_eq_true rfl), (Nat.le_of_ble_eq_true rfl)⟩ wr_10_176 wr_p_96 hm373661 he373662 rfl (show 0 + 0 ≤ 0 by first | omega | decide) (show 0 + 0 ≤ 0 by first | omega | decide) (Nat.le_of_ble_eq_true rfl) (fun r373659 w373660 dc373656 ds373657 hp373658 => ?_) (fun _ _ _ _ _ z => z.elim)
                            obtain ⟨F373710, rfl, rfl, hT373711, hs373712, hdc, hds, x373708, x373709⟩ := hp373658
                            have he373713 : F373710 q270945 = .inr (18, [.ref q367538, .ref q367539, .int p367540, .int p367541]) := (hs373712 q270945 (rT0 htq270945 (by decide)) (rT1 htq270945 (by decide)) (rT2 htq270945 (by decide))).trans he372192
                            have he373714 : F373710 q367538 = .inr (4, [.int p368799, .ref q368801, .int p368800]) := (hs373712 q367538 (rT0 ht367542 (by decide)) (rT1 ht367542 (by decide)) (rT2 ht367542 (by decide))).trans he372193
                            have he373715 : F373710 q368801 = .inl (I (.object "java/lang/Object"), n368815, .inr (.inr (.inr (.inr f368816)))) := (hs373712 q368801 (rT0 r368807 (by decide)) (rT1 r368807 (by decide)) (rT2 r368807 (by decide))).trans he372194
                            have he373716 : F373710 q368818 = .inr (17, [.ref q368827, .ref q368828, .int p368829, .int p368830]) := (hs373712 q368818 (rT0 ht368823 (by decide)) (rT1 ht368823 (by decide)) (rT2 ht368823 (by decide))).trans he372195
                            have he373717 : F373710 q368827 = .inr (4, [.int p372092, .ref q372094, .int p372093]) := (hs373712 q368827 (rT0 ht368831 (by decide)) (rT1 ht368831 (by decide)) (rT2 ht368831 (by decide))).trans he372196
                            have he373718 : F373710 q372094 = .inl (I (.object "java/lang/Object"), n372108, .inr (.inr (.inr (.inr f372109)))) := (hs373712 q372094 (rT0 r372100 (by decide)) (rT1 r372100 (by decide)) (rT2 r372100 (by decide))).trans he372197
                            have he373719 : F373710 q372111 = .inr (20, [.int p372124, .int p372125, .int p372126, .int p372127, .int p372128, .int p372129, .int p372130]) := (hs373712 q372111 (rT0 ht372114 (by decide)) (rT1 ht372114 (by decide)) (rT2 ht372114 (by decide))).trans he372198
                            have hs373720 : rStr γ [] F270943 F373710 := rStr_tr hs372199 hs373712
                            have kp373721 : F373710 q270944 = F270943 q270944 := (x373708).trans kp372200
                            have kp373722 : F373710 (γ 9 3) = F372189 (γ 9 3) := x373709
                            change G _ _ _ _ _ _ _ _ _ _ _
                            refine G_widen (cs' := 0) (sl' := 0) (by omega) (by omega) ?_
                            obtain ⟨z373723, hz373723⟩ : ∃ z : Int32, z = g372070 + Int32.ofInt (-1) := ⟨_, rfl⟩
                            have ez373723 : z373723.toInt = g372070.toInt + (-1) := gI_inc hz373723 (by decide) bg372070' (by decide) (by decide)
                            have bz373723 : gB z373723 (-1) 999998 := ⟨by omega, by omega⟩
                            refine G_iinc (L' := [(5, .int z373723), (8, .int p372126), (7, .int o372210), (6, .ref q372111), (4, .ref q368818), (3, .int g367527), (0, .ref q270944), (1, .ref q270945), (2, .int p270946)]) z373723 3 dr_cX17_graph_284 rfl hz373723.symm (Nat.le_of_ble_eq_true rfl) rfl ?_
                            refine G_goto 109 dr_cX17_graph_287 (by decide +kernel) ?_
                            refine G_lv (L' := [(5, .int z373723), (4, .ref q368818), (3, .int g367527), (0, .ref q270944), (1, .ref q270945), (2, .int p270946)]) [0, 4, 5, 6, 7, 8] rfl ?_
                            exact ih109_372076 F373710 z373723 (gB_w bz373723 (by decide) (by decide)) hT373711 hs373720 (by omega) (fun h0 => by have z := (by rw [kp373722]; exact gr372204) h0; rw [show ((g372070.toInt : Int).toNat : Nat) = (z373723.toInt + 1 : Int).toNat by omega] at z; exact z) kp373721 (by omega)
                          · have r373724 : 0 ≤ o372210.toInt := gj_nlt hc373654 (show Int32.toInt 0 = 0 by decide)
                            have bo372210' : gB o372210 0 1999 := ⟨by omega, by omega⟩
                            refine G_iload 0 dr_cX17_graph_180 rfl ?_
                            refine G_if_lt 204 dr_cX17_graph_182 (by decide +kernel) (fun hc373725 => ?_) (fun hc373725 => ?_)
                            · have r373726 : p372126.toInt < 0 := gj_lt hc373725 (show Int32.toInt 0 = 0 by decide)
                              have bp372126' : gB p372126 (-2147483648) (-1) := ⟨by omega, by omega⟩
                              refine G_iconst 0 dr_cX17_graph_204 (by decide +kernel) ?_
                              refine G_istore (L' := [(9, .int 0), (8, .int p372126), (7, .int o372210), (6, .ref q372111), (5, .int g372070), (4, .ref q368818), (3, .int g367527), (0, .ref q270944), (1, .ref q270945), (2, .int p270946)]) dr_cX17_graph_205 (Nat.le_of_ble_eq_true rfl) rfl ?_
                              refine G_iconst 0 dr_cX17_graph_207 (by decide +kernel) ?_
                              refine G_istore (L' := [(10, .int 0), (9, .int 0), (8, .int p372126), (7, .int o372210), (6, .ref q372111), (5, .int g372070), (4, .ref q368818), (3, .int g367527), (0, .ref q270944), (1, .ref q270945), (2, .int p270946)]) dr_cX17_graph_208 (Nat.le_of_ble_eq_true rfl) rfl ?_
                              have hlp210_373934 : ∀ (n210_373934 : Nat) (F373930 : Nat → va_E) (g373929 : Int32), gB g373929 0 32 → RS D I P270942 F373930 γ el → rStr γ [] F270943 F373930 → (p270946.toInt = 0 → rGr γ el F270943 q270945 (γ 6 (γ 1 q270945)) (cB (F373930 (γ 9 3))) (vB (g367527.toInt : Int).toNat (g372070.toInt : Int).toNat)) → (F373930 q270944 = F270943 q270944) → ((33 : Int) - g373929.toInt).toNat < n210_373934 → G (gV D I) l (gRm 5 111 0 0) (gMA (gV D I) (pt_270948_SpillForgeModel_graph D I γ el P270942 F270943 q270944 q270945 p270946) gNA 0 0) ky_270948_SpillForgeModel_graph 210 [(10, .int g373929), (9, .int 0), (8, .int p372126), (7, .int o372210), (6, .ref q372111), (5, .int g372070), (4, .ref q368818), (3, .int g367527), (0, .ref q270944), (1, .ref q270945), (2, .int p270946)] [] (va_pl P270942 F373930) 0 0 := by
                                intro n210_373934
                                induction n210_373934 with
                                | zero => intro F373930 g373929 bg373929 hT373931 hs373932 x373933 x373934 hm210_373934; exact absurd hm210_373934 (Nat.not_lt_zero _)
                                | succ n210_373934 ih210_373934 =>
                                  intro F373930 g373929 bg373929 hT373931 hs373932 x373933 x373934 hm210_373934
                                  have hs373936 : rStr γ [] F372189 F373930 := fun b h0 hb hw => (hs373932 b h0 hb hw).trans (hs372199 b h0 hb hw).symm
                                  have he373937 : F373930 q270945 = .inr (18, [.ref q367538, .ref q367539, .int p367540, .int p367541]) := (hs373936 q270945 (rT0 htq270945 (by decide)) (rT1 htq270945 (by decide)) (rT2 htq270945 (by decide))).trans he372192
                                  have he373938 : F373930 q367538 = .inr (4, [.int p368799, .ref q368801, .int p368800]) := (hs373936 q367538 (rT0 ht367542 (by decide)) (rT1 ht367542 (by decide)) (rT2 ht367542 (by decide))).trans he372193
                                  have he373939 : F373930 q368801 = .inl (I (.object "java/lang/Object"), n368815, .inr (.inr (.inr (.inr f368816)))) := (hs373936 q368801 (rT0 r368807 (by decide)) (rT1 r368807 (by decide)) (rT2 r368807 (by decide))).trans he372194
                                  have he373940 : F373930 q368818 = .inr (17, [.ref q368827, .ref q368828, .int p368829, .int p368830]) := (hs373936 q368818 (rT0 ht368823 (by decide)) (rT1 ht368823 (by decide)) (rT2 ht368823 (by decide))).trans he372195
                                  have he373941 : F373930 q368827 = .inr (4, [.int p372092, .ref q372094, .int p372093]) := (hs373936 q368827 (rT0 ht368831 (by decide)) (rT1 ht368831 (by decide)) (rT2 ht368831 (by decide))).trans he372196
                                  have he373942 : F373930 q372094 = .inl (I (.object "java/lang/Object"), n372108, .inr (.inr (.inr (.inr f372109)))) := (hs373936 q372094 (rT0 r372100 (by decide)) (rT1 r372100 (by decide)) (rT2 r372100 (by decide))).trans he372197
                                  have he373943 : F373930 q372111 = .inr (20, [.int p372124, .int p372125, .int p372126, .int p372127, .int p372128, .int p372129, .int p372130]) := (hs373936 q372111 (rT0 ht372114 (by decide)) (rT1 ht372114 (by decide)) (rT2 ht372114 (by decide))).trans he372198
                                  have hs373944 : rStr γ [] F270943 F373930 := rStr_tr hs372199 hs373936
                                  refine G_iload 0 dr_cX17_graph_210 rfl ?_
                                  refine G_bipush 32 dr_cX17_graph_212 (by decide +kernel) ?_
                                  refine G_icmp_ge 243 dr_cX17_graph_214 (by decide +kernel) (fun hc373945 => ?_) (fun hc373945 => ?_)
                                  · have r373946 : 32 ≤ g373929.toInt := gj_leL hc373945 (show Int32.toInt 32 = 32 by decide)
                                    have bg373929' : gB g373929 32 32 := ⟨by omega, by omega⟩
                                    refine G_iload 2 dr_cX17_graph_243 rfl ?_
                                    refine G_if_lt 265 dr_cX17_graph_245 (by decide +kernel) (fun _ => ?_) (fun hc => absurd (show False by have := gj_nlt hc (show Int32.toInt 0 = 0 by decide); omega) not_false)
                                    refine G_aload_n 8 dr_cX17_graph_265 rfl ?_
                                    have hm373947 : q270944 ∈ P270942 := RS_m hT373931 htq270944 (by decide)
                                    obtain ⟨q373949, q373950, p373951, p373952, p373953, p373954, p373955, p373956, p373957, p373958, p373959, p373960, p373961, p373962, p373963, p373964, p373965, he373948, hB373992, ht373966, ht373967, ht373968, ht373969, ht373970, ht373971, ht373972, ht373973, ht373974, ht373975, ht373976, ht373977, ht373978, ht373979, ht373980, ht373981, ht373982, ht373983, ht373984, ht373985, ht373986, ht373987, ht373988, ht373989, hB373993⟩ := show rk_10 γ (F373930 q270944) from RS_o hT373931 htq270944
                                    refine Gp_get 1 hm373947 he373948 dr_cX17_graph_266 (gk_X17 D I) (Nat.le_of_ble_eq_true rfl) wr_7_75 rfl ?_
                                    refine G_iload 3 dr_cX17_graph_269 rfl ?_
                                    have hm373994 : (γ 9 1) ∈ P270942 := RS_m hT373931 ht373969 (by decide)
                                    obtain ⟨f373996, he373995, hg373997⟩ := show rk_13 I γ (F373930 (γ 9 1)) from RS_o hT373931 ht373969
                                    obtain ⟨q373998, hx374000⟩ : ∃ x, x = γ 11 o372210.toInt.toNat := ⟨_, rfl⟩
                                    have ht373999 : rKd γ q373998 36 := by rw [hx374000]; exact (hg373997 _ (show o372210.toInt.toNat < 2000 by omega)).2.1
                                    refine Gp_aald 5 hm373994 he373995 dr_cX17_graph_271 rfl rfl (gB_in bo372210' (by decide) (by decide)) ?_
                                    rw [show f373996 o372210.toNatClampNeg = some q373998 from (hg373997 _ (show o372210.toInt.toNat < 2000 by omega)).1.trans (by rw [hx374000])]
                                    change G _ _ _ _ _ _ _ (.ref q373998 :: _) _ _ _
                                    refine G_iload 3 dr_cX17_graph_272 rfl ?_
                                    have hm374001 : q373998 ∈ P270942 := RS_m hT373931 ht373999 (by decide)
                                    obtain ⟨f374003, he374002, wf374003⟩ := show rk_36 I (F373930 q373998) from RS_o hT373931 ht373999
                                    refine Gw_callS (As := [.ref q373998, .int o372210]) (gV_ok D I) (cp_1873_SpillForgeModel_clear l hl0 D I P270942 F373930 q373998 o372210 f374003 hm374001 he374002 bo372210' wf374003) dr_cX17_graph_274 ⟨wr_10_185, wr_1_14, wr_10_187, by decide, rfl, (Nat.le_of_ble_eq_true rfl), (Nat.le_of_ble_eq_true rfl)⟩ wr_10_186 (show 0 + 0 ≤ 0 by first | omega | decide) (show 0 + 0 ≤ 0 by first | omega | decide) (Nat.le_of_ble_eq_true rfl) (fun r374007 w374008 dc374004 ds374005 hp374006 => ?_) (fun _ _ _ _ _ z => z.elim)
                                    obtain ⟨F374011, f374009, rfl, rfl, hfr374013, he374014, hdc, hds, x374010⟩ := hp374006
                                    have he374015 : F374011 q270945 = .inr (18, [.ref q367538, .ref q367539, .int p367540, .int p367541]) := (hfr374013 q270945 hm367536 (nm_c (rn_oa he373937 he374002) nm_n)).trans he373937
                                    have he374016 : F374011 q367538 = .inr (4, [.int p368799, .ref q368801, .int p368800]) := (hfr374013 q367538 hm368797 (nm_c (rn_oa he373938 he374002) nm_n)).trans he373938
                                    have he374017 : F374011 q368801 = .inl (I (.object "java/lang/Object"), n368815, .inr (.inr (.inr (.inr f368816)))) := (hfr374013 q368801 hm368817 (nm_c (rn_ref_long he373939 he374002) nm_n)).trans he373939
                                    have he374018 : F374011 q368818 = .inr (17, [.ref q368827, .ref q368828, .int p368829, .int p368830]) := (hfr374013 q368818 hm368825 (nm_c (rn_oa he373940 he374002) nm_n)).trans he373940
                                    have he374019 : F374011 q368827 = .inr (4, [.int p372092, .ref q372094, .int p372093]) := (hfr374013 q368827 hm372090 (nm_c (rn_oa he373941 he374002) nm_n)).trans he373941
                                    have he374020 : F374011 q372094 = .inl (I (.object "java/lang/Object"), n372108, .inr (.inr (.inr (.inr f372109)))) := (hfr374013 q372094 hm372110 (nm_c (rn_ref_long he373942 he374002) nm_n)).trans he373942
                                    have he374021 : F374011 q372111 = .inr (20, [.int p372124, .int p372125, .int p372126, .int p372127, .int p372128, .int p372129, .int p372130]) := (hfr374013 q372111 hm372122 (nm_c (rn_oa he373943 he374002) nm_n)).trans he373943
                                    have he374022 : F374011 q270944 = .inr (22, [.ref (γ 9 0), .ref (γ 9 1), .ref (γ 9 2), .ref (γ 9 3), .ref (γ 9 4), .ref (γ 9 5), .ref (γ 9 6), .ref (γ 9 7), .ref (γ 9 8), .int p373951, .int p373952, .int p373953, .int p373954, .int p373955, .int p373956, .ref (γ 9 15), .ref (γ 9 16), .ref (γ 9 17), .ref (γ 9 18), .ref (γ 9 19), .ref (γ 9 20), .ref (γ 9 21), .ref (γ 9 22), .int p373957, .int p373958, .int p373959, .int p373960, .int p373961, .ref q373949, .ref (γ 9 29), .int p373962, .ref (γ 9 31), .int p373963, .int p373964, .int p373965, .ref q373950]) := (hfr374013 q270944 hm373947 (nm_c (rn_oa he373948 he374002) nm_n)).trans he373948
                                    have he374023 : F374011 (γ 9 1) = .inl (I (.array .long), 2000, .inr (.inr (.inr (.inr f373996)))) := (hfr374013 (γ 9 1) hm373994 (nm_c (rn_ref_long he373995 he374002) nm_n)).trans he373995
                                    have hfr374024 : rFr [q373998] P270942 F373930 F374011 := rFr_call (rSub_rf (P := P270942)) (rFr_rf (W := []) (P := P270942) (F := F373930)) hfr374013 (fun b hb hn => ⟨nm_n, (nm_c (fun e => hn (e ▸ List.mem_cons_self)) nm_n)⟩)
                                    change G _ _ _ _ _ _ _ _ _ _ _
                                    refine G_widen (cs' := 0) (sl' := 0) (by omega) (by omega) ?_
                                    have hT374025 : RS D I P270942 F374011 γ el := RS_fr hT373931 hfr374024 ht373999 (by decide) ⟨f374009, he374014, x374010⟩
                                    have hs374026 : rStr γ [] F270943 F374011 := rStr_fr hT373931 hs373932 hfr374024 ht373999 (by decide)
                                    have kp374027 : F374011 q270944 = F270943 q270944 := (hfr374024 q270944 (RS_m hT373931 htq270944 (by decide)) (nm_c (rn_ty htq270944 ht373999 (by decide)) nm_n)).trans x373934
                                    have kp374028 : F374011 (γ 9 3) = F373930 (γ 9 3) := hfr374024 (γ 9 3) (RS_m hT373931 ht373971 (by decide)) (nm_c (rn_ty ht373971 ht373999 (by decide)) nm_n)
                                    refine G_aload_n 8 dr_cX17_graph_277 rfl ?_
                                    refine G_aload 4 dr_cX17_graph_278 rfl ?_
                                    refine G_iload_n 10 dr_cX17_graph_280 rfl ?_
                                    refine Gw_callV (As := [.ref q372111, .int p270946]) (gV_ok D I) (ct_281701_SpillForgeModel_back l hl0 D I γ el P270942 F374011 q270944 q372111 p270946 hT374025 htq270944 ht372114 (gB_w bp270946' (by decide) (by decide))) dr_cX17_graph_281 ⟨wr_10_174, wr_1_14, wr_10_177, by decide, rfl, (Nat.le_of_ble_eq_true rfl), (Nat.le_of_ble_eq_true rfl)⟩ wr_10_176 wr_p_96 hm373947 he374022 rfl (show 0 + 0 ≤ 0 by first | omega | decide) (show 0 + 0 ≤ 0 by first | omega | decide) (Nat.le_of_ble_eq_true rfl) (fun r374032 w374033 dc374029 ds374030 hp374031 => ?_) (fun _ _ _ _ _ z => z.elim)
                                    obtain ⟨F374036, rfl, rfl, hT374037, hs374038, hdc, hds, x374034, x374035⟩ := hp374031
                                    have he374039 : F374036 q270945 = .inr (18, [.ref q367538, .ref q367539, .int p367540, .int p367541]) := (hs374038 q270945 (rT0 htq270945 (by decide)) (rT1 htq270945 (by decide)) (rT2 htq270945 (by decide))).trans he374015
                                    have he374040 : F374036 q367538 = .inr (4, [.int p368799, .ref q368801, .int p368800]) := (hs374038 q367538 (rT0 ht367542 (by decide)) (rT1 ht367542 (by decide)) (rT2 ht367542 (by decide))).trans he374016
                                    have he374041 : F374036 q368801 = .inl (I (.object "java/lang/Object"), n368815, .inr (.inr (.inr (.inr f368816)))) := (hs374038 q368801 (rT0 r368807 (by decide)) (rT1 r368807 (by decide)) (rT2 r368807 (by decide))).trans he374017
                                    have he374042 : F374036 q368818 = .inr (17, [.ref q368827, .ref q368828, .int p368829, .int p368830]) := (hs374038 q368818 (rT0 ht368823 (by decide)) (rT1 ht368823 (by decide)) (rT2 ht368823 (by decide))).trans he374018
                                    have he374043 : F374036 q368827 = .inr (4, [.int p372092, .ref q372094, .int p372093]) := (hs374038 q368827 (rT0 ht368831 (by decide)) (rT1 ht368831 (by decide)) (rT2 ht368831 (by decide))).trans he374019
                                    have he374044 : F374036 q372094 = .inl (I (.object "java/lang/Object"), n372108, .inr (.inr (.inr (.inr f372109)))) := (hs374038 q372094 (rT0 r372100 (by decide)) (rT1 r372100 (by decide)) (rT2 r372100 (by decide))).trans he374020
                                    have he374045 : F374036 q372111 = .inr (20, [.int p372124, .int p372125, .int p372126, .int p372127, .int p372128, .int p372129, .int p372130]) := (hs374038 q372111 (rT0 ht372114 (by decide)) (rT1 ht372114 (by decide)) (rT2 ht372114 (by decide))).trans he374021
                                    have hs374046 : rStr γ [] F270943 F374036 := rStr_tr hs374026 hs374038
                                    have kp374047 : F374036 q270944 = F270943 q270944 := (x374034).trans kp374027
                                    have kp374048 : F374036 (γ 9 3) = F373930 (γ 9 3) := (x374035).trans kp374028
                                    change G _ _ _ _ _ _ _ _ _ _ _
                                    refine G_widen (cs' := 0) (sl' := 0) (by omega) (by omega) ?_
                                    obtain ⟨z374049, hz374049⟩ : ∃ z : Int32, z = g372070 + Int32.ofInt (-1) := ⟨_, rfl⟩
                                    have ez374049 : z374049.toInt = g372070.toInt + (-1) := gI_inc hz374049 (by decide) bg372070' (by decide) (by decide)
                                    have bz374049 : gB z374049 (-1) 999998 := ⟨by omega, by omega⟩
                                    refine G_iinc (L' := [(5, .int z374049), (10, .int g373929), (9, .int 0), (8, .int p372126), (7, .int o372210), (6, .ref q372111), (4, .ref q368818), (3, .int g367527), (0, .ref q270944), (1, .ref q270945), (2, .int p270946)]) z374049 5 dr_cX17_graph_284 rfl hz374049.symm (Nat.le_of_ble_eq_true rfl) rfl ?_
                                    refine G_goto 109 dr_cX17_graph_287 (by decide +kernel) ?_
                                    refine G_lv (L' := [(5, .int z374049), (4, .ref q368818), (3, .int g367527), (0, .ref q270944), (1, .ref q270945), (2, .int p270946)]) [0, 6, 7, 8, 9, 10] rfl ?_
                                    exact ih109_372076 F374036 z374049 (gB_w bz374049 (by decide) (by decide)) hT374037 hs374046 (by omega) (fun h0 => by have z := (by rw [kp374048]; exact x373933) h0; rw [show ((g372070.toInt : Int).toNat : Nat) = (z374049.toInt + 1 : Int).toNat by omega] at z; exact z) kp374047 (by omega)
                                  · have r374050 : g373929.toInt < 32 := gj_nleL hc373945 (show Int32.toInt 32 = 32 by decide)
                                    have bg373929' : gB g373929 0 31 := ⟨by omega, by omega⟩
                                    refine G_aload_n 8 dr_cX17_graph_217 rfl ?_
                                    have hm374051 : q270944 ∈ P270942 := RS_m hT373931 htq270944 (by decide)
                                    obtain ⟨q374053, q374054, p374055, p374056, p374057, p374058, p374059, p374060, p374061, p374062, p374063, p374064, p374065, p374066, p374067, p374068, p374069, he374052, hB374096, ht374070, ht374071, ht374072, ht374073, ht374074, ht374075, ht374076, ht374077, ht374078, ht374079, ht374080, ht374081, ht374082, ht374083, ht374084, ht374085, ht374086, ht374087, ht374088, ht374089, ht374090, ht374091, ht374092, ht374093, hB374097⟩ := show rk_10 γ (F373930 q270944) from RS_o hT373931 htq270944
                                    refine Gp_get 1 hm374051 he374052 dr_cX17_graph_218 (gk_X17 D I) (Nat.le_of_ble_eq_true rfl) wr_7_75 rfl ?_
                                    refine G_iload 3 dr_cX17_graph_221 rfl ?_
                                    have hm374098 : (γ 9 1) ∈ P270942 := RS_m hT373931 ht374073 (by decide)
                                    obtain ⟨f374100, he374099, hg374101⟩ := show rk_13 I γ (F373930 (γ 9 1)) from RS_o hT373931 ht374073
                                    obtain ⟨q374102, hx374104⟩ : ∃ x, x = γ 11 o372210.toInt.toNat := ⟨_, rfl⟩
                                    have ht374103 : rKd γ q374102 36 := by rw [hx374104]; exact (hg374101 _ (show o372210.toInt.toNat < 2000 by omega)).2.1
                                    refine Gp_aald 5 hm374098 he374099 dr_cX17_graph_223 rfl rfl (gB_in bo372210' (by decide) (by decide)) ?_
                                    rw [show f374100 o372210.toNatClampNeg = some q374102 from (hg374101 _ (show o372210.toInt.toNat < 2000 by omega)).1.trans (by rw [hx374104])]
                                    change G _ _ _ _ _ _ _ (.ref q374102 :: _) _ _ _
                                    refine G_iload 0 dr_cX17_graph_224 rfl ?_
                                    refine G_dup2_11 dr_cX17_graph_226 rfl rfl ?_
                                    have hm374105 : q374102 ∈ P270942 := RS_m hT373931 ht374103 (by decide)
                                    obtain ⟨f374107, he374106, wf374107⟩ := show rk_36 I (F373930 q374102) from RS_o hT373931 ht374103
                                    refine Gp_lald 2 hm374105 he374106 dr_cX17_graph_227 rfl (gB_in bg373929' (by decide) (by decide)) (G_namL fun u374108 hu374108 => ?_)
                                    have qu374108 : lb_Q u374108 (2000 - 64 * g373929.toInt) := lb_Wld hu374108 wf374107 (by omega) (by omega) (lb_Mod0 (by omega) (by omega))
                                    refine G_aload_n 8 dr_cX17_graph_228 rfl ?_
                                    refine Gp_get 2 hm374051 he374052 dr_cX17_graph_229 (gk_X17 D I) (Nat.le_of_ble_eq_true rfl) wr_7_76 rfl ?_
                                    refine G_iload 0 dr_cX17_graph_232 rfl ?_
                                    have hm374109 : (γ 9 2) ∈ P270942 := RS_m hT373931 ht374074 (by decide)
                                    obtain ⟨f374111, he374110, wf374111⟩ := show rk_35 I (F373930 (γ 9 2)) from RS_o hT373931 ht374074
                                    refine Gp_lald 2 hm374109 he374110 dr_cX17_graph_234 rfl (gB_in bg373929' (by decide) (by decide)) (G_namL fun u374112 hu374112 => ?_)
                                    have qu374112 : lb_Q u374112 (2000 - 64 * g373929.toInt) := lb_Wld hu374112 wf374111 (by omega) (by omega) (lb_Mod0 (by omega) (by omega))
                                    refine G_lor dr_cX17_graph_235 (G_namL fun u374113 hu374113 => ?_)
                                    have qu374113 : lb_Q u374113 (2000 - 64 * g373929.toInt) := lb_Qor hu374113 qu374108 qu374112
                                    refine Gp_last 2 hm374105 he374106 dr_cX17_graph_236 rfl (gB_in bg373929' (by decide) (by decide)) (fun F374114 e374115 n374116 => ?_)
                                    obtain ⟨f374117, hf374117⟩ : ∃ z, z = vp_updL f374107 g373929.toNatClampNeg u374113 := ⟨_, rfl⟩
                                    rw [← hf374117] at e374115
                                    have he374118 : F374114 q270945 = .inr (18, [.ref q367538, .ref q367539, .int p367540, .int p367541]) := (n374116 q270945 (rn_oa he373937 he374106)).trans he373937
                                    have he374119 : F374114 q367538 = .inr (4, [.int p368799, .ref q368801, .int p368800]) := (n374116 q367538 (rn_oa he373938 he374106)).trans he373938
                                    have he374120 : F374114 q368801 = .inl (I (.object "java/lang/Object"), n368815, .inr (.inr (.inr (.inr f368816)))) := (n374116 q368801 (rn_ref_long he373939 he374106)).trans he373939
                                    have he374121 : F374114 q368818 = .inr (17, [.ref q368827, .ref q368828, .int p368829, .int p368830]) := (n374116 q368818 (rn_oa he373940 he374106)).trans he373940
                                    have he374122 : F374114 q368827 = .inr (4, [.int p372092, .ref q372094, .int p372093]) := (n374116 q368827 (rn_oa he373941 he374106)).trans he373941
                                    have he374123 : F374114 q372094 = .inl (I (.object "java/lang/Object"), n372108, .inr (.inr (.inr (.inr f372109)))) := (n374116 q372094 (rn_ref_long he373942 he374106)).trans he373942
                                    have he374124 : F374114 q372111 = .inr (20, [.int p372124, .int p372125, .int p372126, .int p372127, .int p372128, .int p372129, .int p372130]) := (n374116 q372111 (rn_oa he373943 he374106)).trans he373943
                                    have he374125 : F374114 q270944 = .inr (22, [.ref (γ 9 0), .ref (γ 9 1), .ref (γ 9 2), .ref (γ 9 3), .ref (γ 9 4), .ref (γ 9 5), .ref (γ 9 6), .ref (γ 9 7), .ref (γ 9 8), .int p374055, .int p374056, .int p374057, .int p374058, .int p374059, .int p374060, .ref (γ 9 15), .ref (γ 9 16), .ref (γ 9 17), .ref (γ 9 18), .ref (γ 9 19), .ref (γ 9 20), .ref (γ 9 21), .ref (γ 9 22), .int p374061, .int p374062, .int p374063, .int p374064, .int p374065, .ref q374053, .ref (γ 9 29), .int p374066, .ref (γ 9 31), .int p374067, .int p374068, .int p374069, .ref q374054]) := (n374116 q270944 (rn_oa he374052 he374106)).trans he374052
                                    have he374126 : F374114 (γ 9 1) = .inl (I (.array .long), 2000, .inr (.inr (.inr (.inr f374100)))) := (n374116 (γ 9 1) (rn_ref_long he374099 he374106)).trans he374099
                                    have he374127 : F374114 (γ 9 2) = .inl (I .long, 32, .inr (.inl f374111)) := (n374116 (γ 9 2) (rn_ty ht374074 ht374103 (by decide))).trans he374110
                                    have he374128 : F374114 q374102 = .inl (I .long, 32, .inr (.inl f374117)) := e374115
                                    have hs374129 : rStr γ [] F270943 F374114 := rStr_put hs373932 n374116 ht374103 (by decide)
                                    have kp374130 : F374114 q270944 = F270943 q270944 := (n374116 q270944 (rn_ty htq270944 ht374103 (by decide))).trans x373934
                                    have kp374131 : F374114 (γ 9 3) = F373930 (γ 9 3) := n374116 (γ 9 3) (rn_ty ht374075 ht374103 (by decide))
                                    have wf374117 : lb_W f374117 (32) (32) (2000) := lb_Wst hf374117 wf374107 (by omega) (lb_Mod0 (by omega) (by omega)) qu374113
                                    obtain ⟨z374132, hz374132⟩ : ∃ z : Int32, z = g373929 + Int32.ofInt 1 := ⟨_, rfl⟩
                                    have ez374132 : z374132.toInt = g373929.toInt + 1 := gI_inc hz374132 (by decide) bg373929' (by decide) (by decide)
                                    have bz374132 : gB z374132 1 32 := ⟨by omega, by omega⟩
                                    refine G_iinc (L' := [(10, .int z374132), (9, .int 0), (8, .int p372126), (7, .int o372210), (6, .ref q372111), (5, .int g372070), (4, .ref q368818), (3, .int g367527), (0, .ref q270944), (1, .ref q270945), (2, .int p270946)]) z374132 0 dr_cX17_graph_237 rfl hz374132.symm (Nat.le_of_ble_eq_true rfl) rfl ?_
                                    refine G_goto 210 dr_cX17_graph_240 (by decide +kernel) ?_
                                    have hT374133 : RS D I P270942 F374114 γ el := RS_set hT373931 n374116 ht374103 (by decide) ⟨f374117, he374128, wf374117⟩
                                    exact ih210_373934 F374114 z374132 (gB_w bz374132 (by decide) (by decide)) hT374133 hs374129 (by rw [kp374131]; exact x373933) kp374130 (by have qa0 : Int32.toInt 0 = 0 := (by decide); omega)
                              exact hlp210_373934 (((33 : Int) - 0).toNat + 1) F372189 0 (gB_w (gBl (show Int32.toInt 0 = 0 by decide)) (by decide) (by decide)) hT372190 hs372199 gr372204 kp372200 (Nat.lt_succ_self _)
                            · have r374134 : 0 ≤ p372126.toInt := gj_nlt hc373725 (show Int32.toInt 0 = 0 by decide)
                              have bp372126' : gB p372126 0 2147483647 := ⟨by omega, by omega⟩
                              refine G_aload_n 6 dr_cX17_graph_185 rfl ?_
                              have hm374135 : q270944 ∈ P270942 := RS_m hT372190 htq270944 (by decide)
                              obtain ⟨q374137, q374138, p374139, p374140, p374141, p374142, p374143, p374144, p374145, p374146, p374147, p374148, p374149, p374150, p374151, p374152, p374153, he374136, hB374180, ht374154, ht374155, ht374156, ht374157, ht374158, ht374159, ht374160, ht374161, ht374162, ht374163, ht374164, ht374165, ht374166, ht374167, ht374168, ht374169, ht374170, ht374171, ht374172, ht374173, ht374174, ht374175, ht374176, ht374177, hB374181⟩ := show rk_10 γ (F372189 q270944) from RS_o hT372190 htq270944
                              refine Gp_get 1 hm374135 he374136 dr_cX17_graph_186 (gk_X17 D I) (Nat.le_of_ble_eq_true rfl) wr_7_75 rfl ?_
                              refine G_iload 1 dr_cX17_graph_189 rfl ?_
                              have hm374182 : (γ 9 1) ∈ P270942 := RS_m hT372190 ht374157 (by decide)
                              obtain ⟨f374184, he374183, hg374185⟩ := show rk_13 I γ (F372189 (γ 9 1)) from RS_o hT372190 ht374157
                              obtain ⟨q374186, hx374188⟩ : ∃ x, x = γ 11 o372210.toInt.toNat := ⟨_, rfl⟩
                              have ht374187 : rKd γ q374186 36 := by rw [hx374188]; exact (hg374185 _ (show o372210.toInt.toNat < 2000 by omega)).2.1
                              refine Gp_aald 5 hm374182 he374183 dr_cX17_graph_191 rfl rfl (gB_in bo372210' (by decide) (by decide)) ?_
                              rw [show f374184 o372210.toNatClampNeg = some q374186 from (hg374185 _ (show o372210.toInt.toNat < 2000 by omega)).1.trans (by rw [hx374188])]
                              change G _ _ _ _ _ _ _ (.ref q374186 :: _) _ _ _
                              refine G_iload 0 dr_cX17_graph_192 rfl ?_
                              have hm374189 : q374186 ∈ P270942 := RS_m hT372190 ht374187 (by decide)
                              obtain ⟨f374191, he374190, wf374191⟩ := show rk_36 I (F372189 q374186) from RS_o hT372190 ht374187
                              refine Gw_callS (As := [.ref q374186, .int p372126]) (gV_ok D I) (cp_1838_SpillForgeModel_has l hl0 D I P270942 F372189 q374186 p372126 f374191 hm374189 he374190 ⟨by omega, by omega⟩) dr_cX17_graph_194 ⟨wr_10_203, wr_1_14, wr_10_205, by decide, rfl, (Nat.le_of_ble_eq_true rfl), (Nat.le_of_ble_eq_true rfl)⟩ wr_10_204 (show 0 + 0 ≤ 0 by first | omega | decide) (show 0 + 0 ≤ 0 by first | omega | decide) (Nat.le_of_ble_eq_true rfl) (fun r374195 w374196 dc374192 ds374193 hp374194 => ?_) (fun _ _ _ _ _ z => z.elim)
                              rcases hp374194 with ⟨z374197, z374198, rfl, rfl, hdc, hds, r374199, r374200, r374201, r374202⟩ | ⟨z374203, z374204, rfl, rfl, hdc, hds, r374205, r374206, r374207, r374208⟩
                              · change G _ _ _ _ _ _ _ (.int 0 :: _) _ _ _
                                refine G_widen (cs' := 0) (sl' := 0) (by omega) (by omega) ?_
                                refine G_if_eq 204 dr_cX17_graph_197 (by decide +kernel) (fun _ => ?_) (fun hc => absurd hc (by decide))
                                refine G_iconst 0 dr_cX17_graph_204 (by decide +kernel) ?_
                                refine G_istore (L' := [(9, .int 0), (8, .int p372126), (7, .int o372210), (6, .ref q372111), (5, .int g372070), (4, .ref q368818), (3, .int g367527), (0, .ref q270944), (1, .ref q270945), (2, .int p270946)]) dr_cX17_graph_205 (Nat.le_of_ble_eq_true rfl) rfl ?_
                                refine G_iconst 0 dr_cX17_graph_207 (by decide +kernel) ?_
                                refine G_istore (L' := [(10, .int 0), (9, .int 0), (8, .int p372126), (7, .int o372210), (6, .ref q372111), (5, .int g372070), (4, .ref q368818), (3, .int g367527), (0, .ref q270944), (1, .ref q270945), (2, .int p270946)]) dr_cX17_graph_208 (Nat.le_of_ble_eq_true rfl) rfl ?_
                                have hlp210_374448 : ∀ (n210_374448 : Nat) (F374444 : Nat → va_E) (g374443 : Int32), gB g374443 0 32 → RS D I P270942 F374444 γ el → rStr γ [] F270943 F374444 → (p270946.toInt = 0 → rGr γ el F270943 q270945 (γ 6 (γ 1 q270945)) (cB (F374444 (γ 9 3))) (vB (g367527.toInt : Int).toNat (g372070.toInt : Int).toNat)) → (F374444 q270944 = F270943 q270944) → ((33 : Int) - g374443.toInt).toNat < n210_374448 → G (gV D I) l (gRm 5 111 0 0) (gMA (gV D I) (pt_270948_SpillForgeModel_graph D I γ el P270942 F270943 q270944 q270945 p270946) gNA 0 0) ky_270948_SpillForgeModel_graph 210 [(10, .int g374443), (9, .int 0), (8, .int p372126), (7, .int o372210), (6, .ref q372111), (5, .int g372070), (4, .ref q368818), (3, .int g367527), (0, .ref q270944), (1, .ref q270945), (2, .int p270946)] [] (va_pl P270942 F374444) 0 0 := by
                                  intro n210_374448
                                  induction n210_374448 with
                                  | zero => intro F374444 g374443 bg374443 hT374445 hs374446 x374447 x374448 hm210_374448; exact absurd hm210_374448 (Nat.not_lt_zero _)
                                  | succ n210_374448 ih210_374448 =>
                                    intro F374444 g374443 bg374443 hT374445 hs374446 x374447 x374448 hm210_374448
                                    have hs374450 : rStr γ [] F372189 F374444 := fun b h0 hb hw => (hs374446 b h0 hb hw).trans (hs372199 b h0 hb hw).symm
                                    have he374451 : F374444 q270945 = .inr (18, [.ref q367538, .ref q367539, .int p367540, .int p367541]) := (hs374450 q270945 (rT0 htq270945 (by decide)) (rT1 htq270945 (by decide)) (rT2 htq270945 (by decide))).trans he372192
                                    have he374452 : F374444 q367538 = .inr (4, [.int p368799, .ref q368801, .int p368800]) := (hs374450 q367538 (rT0 ht367542 (by decide)) (rT1 ht367542 (by decide)) (rT2 ht367542 (by decide))).trans he372193
                                    have he374453 : F374444 q368801 = .inl (I (.object "java/lang/Object"), n368815, .inr (.inr (.inr (.inr f368816)))) := (hs374450 q368801 (rT0 r368807 (by decide)) (rT1 r368807 (by decide)) (rT2 r368807 (by decide))).trans he372194
                                    have he374454 : F374444 q368818 = .inr (17, [.ref q368827, .ref q368828, .int p368829, .int p368830]) := (hs374450 q368818 (rT0 ht368823 (by decide)) (rT1 ht368823 (by decide)) (rT2 ht368823 (by decide))).trans he372195
                                    have he374455 : F374444 q368827 = .inr (4, [.int p372092, .ref q372094, .int p372093]) := (hs374450 q368827 (rT0 ht368831 (by decide)) (rT1 ht368831 (by decide)) (rT2 ht368831 (by decide))).trans he372196
                                    have he374456 : F374444 q372094 = .inl (I (.object "java/lang/Object"), n372108, .inr (.inr (.inr (.inr f372109)))) := (hs374450 q372094 (rT0 r372100 (by decide)) (rT1 r372100 (by decide)) (rT2 r372100 (by decide))).trans he372197
                                    have he374457 : F374444 q372111 = .inr (20, [.int p372124, .int p372125, .int p372126, .int p372127, .int p372128, .int p372129, .int p372130]) := (hs374450 q372111 (rT0 ht372114 (by decide)) (rT1 ht372114 (by decide)) (rT2 ht372114 (by decide))).trans he372198
                                    have hs374458 : rStr γ [] F270943 F374444 := rStr_tr hs372199 hs374450
                                    refine G_iload 0 dr_cX17_graph_210 rfl ?_
                                    refine G_bipush 32 dr_cX17_graph_212 (by decide +kernel) ?_
                                    refine G_icmp_ge 243 dr_cX17_graph_214 (by decide +kernel) (fun hc374459 => ?_) (fun hc374459 => ?_)
                                    · have r374460 : 32 ≤ g374443.toInt := gj_leL hc374459 (show Int32.toInt 32 = 32 by decide)
                                      have bg374443' : gB g374443 32 32 := ⟨by omega, by omega⟩
                                      refine G_iload 2 dr_cX17_graph_243 rfl ?_
                                      refine G_if_lt 265 dr_cX17_graph_245 (by decide +kernel) (fun hc => absurd (show False by have := gj_lt hc (show Int32.toInt 0 = 0 by decide); omega) not_false) (fun _ => ?_)
                                      refine G_iload 1 dr_cX17_graph_248 rfl ?_
                                      refine G_if_ne 265 dr_cX17_graph_250 (by decide +kernel) (fun hc => absurd hc (by decide)) (fun _ => ?_)
                                      refine G_aload_n 8 dr_cX17_graph_253 rfl ?_
                                      have hm374461 : q270944 ∈ P270942 := RS_m hT374445 htq270944 (by decide)
                                      obtain ⟨q374463, q374464, p374465, p374466, p374467, p374468, p374469, p374470, p374471, p374472, p374473, p374474, p374475, p374476, p374477, p374478, p374479, he374462, hB374506, ht374480, ht374481, ht374482, ht374483, ht374484, ht374485, ht374486, ht374487, ht374488, ht374489, ht374490, ht374491, ht374492, ht374493, ht374494, ht374495, ht374496, ht374497, ht374498, ht374499, ht374500, ht374501, ht374502, ht374503, hB374507⟩ := show rk_10 γ (F374444 q270944) from RS_o hT374445 htq270944
                                      refine Gp_get 1 hm374461 he374462 dr_cX17_graph_254 (gk_X17 D I) (Nat.le_of_ble_eq_true rfl) wr_7_75 rfl ?_
                                      refine G_iload 3 dr_cX17_graph_257 rfl ?_
                                      have hm374508 : (γ 9 1) ∈ P270942 := RS_m hT374445 ht374483 (by decide)
                                      obtain ⟨f374510, he374509, hg374511⟩ := show rk_13 I γ (F374444 (γ 9 1)) from RS_o hT374445 ht374483
                                      obtain ⟨q374512, hx374514⟩ : ∃ x, x = γ 11 o372210.toInt.toNat := ⟨_, rfl⟩
                                      have ht374513 : rKd γ q374512 36 := by rw [hx374514]; exact (hg374511 _ (show o372210.toInt.toNat < 2000 by omega)).2.1
                                      refine Gp_aald 5 hm374508 he374509 dr_cX17_graph_259 rfl rfl (gB_in bo372210' (by decide) (by decide)) ?_
                                      rw [show f374510 o372210.toNatClampNeg = some q374512 from (hg374511 _ (show o372210.toInt.toNat < 2000 by omega)).1.trans (by rw [hx374514])]
                                      change G _ _ _ _ _ _ _ (.ref q374512 :: _) _ _ _
                                      refine G_iload 2 dr_cX17_graph_260 rfl ?_
                                      have hm374515 : q374512 ∈ P270942 := RS_m hT374445 ht374513 (by decide)
                                      obtain ⟨f374517, he374516, wf374517⟩ := show rk_36 I (F374444 q374512) from RS_o hT374445 ht374513
                                      refine Gw_callS (As := [.ref q374512, .int p372126]) (gV_ok D I) (cp_1873_SpillForgeModel_clear l hl0 D I P270942 F374444 q374512 p372126 f374517 hm374515 he374516 ⟨by omega, by omega⟩ wf374517) dr_cX17_graph_262 ⟨wr_10_185, wr_1_14, wr_10_187, by decide, rfl, (Nat.le_of_ble_eq_true rfl), (Nat.le_of_ble_eq_true rfl)⟩ wr_10_186 (show 0 + 0 ≤ 0 by first | omega | decide) (show 0 + 0 ≤ 0 by first | omega | decide) (Nat.le_of_ble_eq_true rfl) (fun r374521 w374522 dc374518 ds374519 hp374520 => ?_) (fun _ _ _ _ _ z => z.elim)
                                      obtain ⟨F374525, f374523, rfl, rfl, hfr374527, he374528, hdc, hds, x374524⟩ := hp374520
                                      have he374529 : F374525 q270945 = .inr (18, [.ref q367538, .ref q367539, .int p367540, .int p367541]) := (hfr374527 q270945 hm367536 (nm_c (rn_oa he374451 he374516) nm_n)).trans he374451
                                      have he374530 : F374525 q367538 = .inr (4, [.int p368799, .ref q368801, .int p368800]) := (hfr374527 q367538 hm368797 (nm_c (rn_oa he374452 he374516) nm_n)).trans he374452
                                      have he374531 : F374525 q368801 = .inl (I (.object "java/lang/Object"), n368815, .inr (.inr (.inr (.inr f368816)))) := (hfr374527 q368801 hm368817 (nm_c (rn_ref_long he374453 he374516) nm_n)).trans he374453
                                      have he374532 : F374525 q368818 = .inr (17, [.ref q368827, .ref q368828, .int p368829, .int p368830]) := (hfr374527 q368818 hm368825 (nm_c (rn_oa he374454 he374516) nm_n)).trans he374454
                                      have he374533 : F374525 q368827 = .inr (4, [.int p372092, .ref q372094, .int p372093]) := (hfr374527 q368827 hm372090 (nm_c (rn_oa he374455 he374516) nm_n)).trans he374455
                                      have he374534 : F374525 q372094 = .inl (I (.object "java/lang/Object"), n372108, .inr (.inr (.inr (.inr f372109)))) := (hfr374527 q372094 hm372110 (nm_c (rn_ref_long he374456 he374516) nm_n)).trans he374456
                                      have he374535 : F374525 q372111 = .inr (20, [.int p372124, .int p372125, .int p372126, .int p372127, .int p372128, .int p372129, .int p372130]) := (hfr374527 q372111 hm372122 (nm_c (rn_oa he374457 he374516) nm_n)).trans he374457
                                      have he374536 : F374525 q270944 = .inr (22, [.ref (γ 9 0), .ref (γ 9 1), .ref (γ 9 2), .ref (γ 9 3), .ref (γ 9 4), .ref (γ 9 5), .ref (γ 9 6), .ref (γ 9 7), .ref (γ 9 8), .int p374465, .int p374466, .int p374467, .int p374468, .int p374469, .int p374470, .ref (γ 9 15), .ref (γ 9 16), .ref (γ 9 17), .ref (γ 9 18), .ref (γ 9 19), .ref (γ 9 20), .ref (γ 9 21), .ref (γ 9 22), .int p374471, .int p374472, .int p374473, .int p374474, .int p374475, .ref q374463, .ref (γ 9 29), .int p374476, .ref (γ 9 31), .int p374477, .int p374478, .int p374479, .ref q374464]) := (hfr374527 q270944 hm374461 (nm_c (rn_oa he374462 he374516) nm_n)).trans he374462
                                      have he374537 : F374525 (γ 9 1) = .inl (I (.array .long), 2000, .inr (.inr (.inr (.inr f374510)))) := (hfr374527 (γ 9 1) hm374508 (nm_c (rn_ref_long he374509 he374516) nm_n)).trans he374509
                                      have hfr374538 : rFr [q374512] P270942 F374444 F374525 := rFr_call (rSub_rf (P := P270942)) (rFr_rf (W := []) (P := P270942) (F := F374444)) hfr374527 (fun b hb hn => ⟨nm_n, (nm_c (fun e => hn (e ▸ List.mem_cons_self)) nm_n)⟩)
                                      change G _ _ _ _ _ _ _ _ _ _ _
                                      refine G_widen (cs' := 0) (sl' := 0) (by omega) (by omega) ?_
                                      have hT374539 : RS D I P270942 F374525 γ el := RS_fr hT374445 hfr374538 ht374513 (by decide) ⟨f374523, he374528, x374524⟩
                                      have hs374540 : rStr γ [] F270943 F374525 := rStr_fr hT374445 hs374446 hfr374538 ht374513 (by decide)
                                      have kp374541 : F374525 q270944 = F270943 q270944 := (hfr374538 q270944 (RS_m hT374445 htq270944 (by decide)) (nm_c (rn_ty htq270944 ht374513 (by decide)) nm_n)).trans x374448
                                      have kp374542 : F374525 (γ 9 3) = F374444 (γ 9 3) := hfr374538 (γ 9 3) (RS_m hT374445 ht374485 (by decide)) (nm_c (rn_ty ht374485 ht374513 (by decide)) nm_n)
                                      refine G_aload_n 8 dr_cX17_graph_265 rfl ?_
                                      refine Gp_get 1 hm374461 he374536 dr_cX17_graph_266 (gk_X17 D I) (Nat.le_of_ble_eq_true rfl) wr_7_75 rfl ?_
                                      refine G_iload 3 dr_cX17_graph_269 rfl ?_
                                      obtain ⟨q374543, hx374545⟩ : ∃ x, x = γ 11 o372210.toInt.toNat := ⟨_, rfl⟩
                                      have ht374544 : rKd γ q374543 36 := by rw [hx374545]; exact (hg374511 _ (show o372210.toInt.toNat < 2000 by omega)).2.1
                                      refine Gp_aald 5 hm374508 he374537 dr_cX17_graph_271 rfl rfl (gB_in bo372210' (by decide) (by decide)) ?_
                                      rw [show f374510 o372210.toNatClampNeg = some q374543 from (hg374511 _ (show o372210.toInt.toNat < 2000 by omega)).1.trans (by rw [hx374545])]
                                      change G _ _ _ _ _ _ _ (.ref q374543 :: _) _ _ _
                                      refine G_iload 3 dr_cX17_graph_272 rfl ?_
                                      have hm374546 : q374543 ∈ P270942 := RS_m hT374539 ht374544 (by decide)
                                      obtain ⟨f374548, he374547, wf374548⟩ := show rk_36 I (F374525 q374543) from RS_o hT374539 ht374544
                                      refine Gw_callS (As := [.ref q374543, .int o372210]) (gV_ok D I) (cp_1873_SpillForgeModel_clear l hl0 D I P270942 F374525 q374543 o372210 f374548 hm374546 he374547 bo372210' wf374548) dr_cX17_graph_274 ⟨wr_10_185, wr_1_14, wr_10_187, by decide, rfl, (Nat.le_of_ble_eq_true rfl), (Nat.le_of_ble_eq_true rfl)⟩ wr_10_186 (show 0 + 0 ≤ 0 by first | omega | decide) (show 0 + 0 ≤ 0 by first | omega | decide) (Nat.le_of_ble_eq_true rfl) (fun r374552 w374553 dc374549 ds374550 hp374551 => ?_) (fun _ _ _ _ _ z => z.elim)
                                      obtain ⟨F374556, f374554, rfl, rfl, hfr374558, he374559, hdc, hds, x374555⟩ := hp374551
                                      have he374560 : F374556 q270945 = .inr (18, [.ref q367538, .ref q367539, .int p367540, .int p367541]) := (hfr374558 q270945 hm367536 (nm_c (rn_oa he374529 he374547) nm_n)).trans he374529
                                      have he374561 : F374556 q367538 = .inr (4, [.int p368799, .ref q368801, .int p368800]) := (hfr374558 q367538 hm368797 (nm_c (rn_oa he374530 he374547) nm_n)).trans he374530
                                      have he374562 : F374556 q368801 = .inl (I (.object "java/lang/Object"), n368815, .inr (.inr (.inr (.inr f368816)))) := (hfr374558 q368801 hm368817 (nm_c (rn_ref_long he374531 he374547) nm_n)).trans he374531
                                      have he374563 : F374556 q368818 = .inr (17, [.ref q368827, .ref q368828, .int p368829, .int p368830]) := (hfr374558 q368818 hm368825 (nm_c (rn_oa he374532 he374547) nm_n)).trans he374532
                                      have he374564 : F374556 q368827 = .inr (4, [.int p372092, .ref q372094, .int p372093]) := (hfr374558 q368827 hm372090 (nm_c (rn_oa he374533 he374547) nm_n)).trans he374533
                                      have he374565 : F374556 q372094 = .inl (I (.object "java/lang/Object"), n372108, .inr (.inr (.inr (.inr f372109)))) := (hfr374558 q372094 hm372110 (nm_c (rn_ref_long he374534 he374547) nm_n)).trans he374534
                                      have he374566 : F374556 q372111 = .inr (20, [.int p372124, .int p372125, .int p372126, .int p372127, .int p372128, .int p372129, .int p372130]) := (hfr374558 q372111 hm372122 (nm_c (rn_oa he374535 he374547) nm_n)).trans he374535
                                      have he374567 : F374556 q270944 = .inr (22, [.ref (γ 9 0), .ref (γ 9 1), .ref (γ 9 2), .ref (γ 9 3), .ref (γ 9 4), .ref (γ 9 5), .ref (γ 9 6), .ref (γ 9 7), .ref (γ 9 8), .int p374465, .int p374466, .int p374467, .int p374468, .int p374469, .int p374470, .ref (γ 9 15), .ref (γ 9 16), .ref (γ 9 17), .ref (γ 9 18), .ref (γ 9 19), .ref (γ 9 20), .ref (γ 9 21), .ref (γ 9 22), .int p374471, .int p374472, .int p374473, .int p374474, .int p374475, .ref q374463, .ref (γ 9 29), .int p374476, .ref (γ 9 31), .int p374477, .int p374478, .int p374479, .ref q374464]) := (hfr374558 q270944 hm374461 (nm_c (rn_oa he374536 he374547) nm_n)).trans he374536
                                      have he374568 : F374556 (γ 9 1) = .inl (I (.array .long), 2000, .inr (.inr (.inr (.inr f374510)))) := (hfr374558 (γ 9 1) hm374508 (nm_c (rn_ref_long he374537 he374547) nm_n)).trans he374537
                                      have hfr374569 : rFr [q374543] P270942 F374525 F374556 := rFr_call (rSub_rf (P := P270942)) (rFr_rf (W := []) (P := P270942) (F := F374525)) hfr374558 (fun b hb hn => ⟨nm_n, (nm_c (fun e => hn (e ▸ List.mem_cons_self)) nm_n)⟩)
                                      change G _ _ _ _ _ _ _ _ _ _ _
                                      refine G_widen (cs' := 0) (sl' := 0) (by omega) (by omega) ?_
                                      have hT374570 : RS D I P270942 F374556 γ el := RS_fr hT374539 hfr374569 ht374544 (by decide) ⟨f374554, he374559, x374555⟩
                                      have hs374571 : rStr γ [] F270943 F374556 := rStr_fr hT374539 hs374540 hfr374569 ht374544 (by decide)
                                      have kp374572 : F374556 q270944 = F270943 q270944 := (hfr374569 q270944 (RS_m hT374539 htq270944 (by decide)) (nm_c (rn_ty htq270944 ht374544 (by decide)) nm_n)).trans kp374541
                                      have kp374573 : F374556 (γ 9 3) = F374444 (γ 9 3) := (hfr374569 (γ 9 3) (RS_m hT374539 ht374485 (by decide)) (nm_c (rn_ty ht374485 ht374544 (by decide)) nm_n)).trans kp374542
                                      refine G_aload_n 8 dr_cX17_graph_277 rfl ?_
                                      refine G_aload 4 dr_cX17_graph_278 rfl ?_
                                      refine G_iload_n 10 dr_cX17_graph_280 rfl ?_
                                      refine Gw_callV (As := [.ref q372111, .int p270946]) (gV_ok D I) (ct_281701_SpillForgeModel_back l hl0 D I γ el P270942 F374556 q270944 q372111 p270946 hT374570 htq270944 ht372114 (gB_w bp270946' (by decide) (by decide))) dr_cX17_graph_281 ⟨wr_10_174, wr_1_14, wr_10_177, by decide, rfl, (Nat.le_of_ble_eq_true rfl), (Nat.le_of_ble_eq_true rfl)⟩ wr_10_176 wr_p_96 hm374461 he374567 rfl (show 0 + 0 ≤ 0 by first | omega | decide) (show 0 + 0 ≤ 0 by first | omega | decide) (Nat.le_of_ble_eq_true rfl) (fun r374577 w374578 dc374574 ds374575 hp374576 => ?_) (fun _ _ _ _ _ z => z.elim)
                                      obtain ⟨F374581, rfl, rfl, hT374582, hs374583, hdc, hds, x374579, x374580⟩ := hp374576
                                      have he374584 : F374581 q270945 = .inr (18, [.ref q367538, .ref q367539, .int p367540, .int p367541]) := (hs374583 q270945 (rT0 htq270945 (by decide)) (rT1 htq270945 (by decide)) (rT2 htq270945 (by decide))).trans he374560
                                      have he374585 : F374581 q367538 = .inr (4, [.int p368799, .ref q368801, .int p368800]) := (hs374583 q367538 (rT0 ht367542 (by decide)) (rT1 ht367542 (by decide)) (rT2 ht367542 (by decide))).trans he374561
                                      have he374586 : F374581 q368801 = .inl (I (.object "java/lang/Object"), n368815, .inr (.inr (.inr (.inr f368816)))) := (hs374583 q368801 (rT0 r368807 (by decide)) (rT1 r368807 (by decide)) (rT2 r368807 (by decide))).trans he374562
                                      have he374587 : F374581 q368818 = .inr (17, [.ref q368827, .ref q368828, .int p368829, .int p368830]) := (hs374583 q368818 (rT0 ht368823 (by decide)) (rT1 ht368823 (by decide)) (rT2 ht368823 (by decide))).trans he374563
                                      have he374588 : F374581 q368827 = .inr (4, [.int p372092, .ref q372094, .int p372093]) := (hs374583 q368827 (rT0 ht368831 (by decide)) (rT1 ht368831 (by decide)) (rT2 ht368831 (by decide))).trans he374564
                                      have he374589 : F374581 q372094 = .inl (I (.object "java/lang/Object"), n372108, .inr (.inr (.inr (.inr f372109)))) := (hs374583 q372094 (rT0 r372100 (by decide)) (rT1 r372100 (by decide)) (rT2 r372100 (by decide))).trans he374565
                                      have he374590 : F374581 q372111 = .inr (20, [.int p372124, .int p372125, .int p372126, .int p372127, .int p372128, .int p372129, .int p372130]) := (hs374583 q372111 (rT0 ht372114 (by decide)) (rT1 ht372114 (by decide)) (rT2 ht372114 (by decide))).trans he374566
                                      have hs374591 : rStr γ [] F270943 F374581 := rStr_tr hs374571 hs374583
                                      have kp374592 : F374581 q270944 = F270943 q270944 := (x374579).trans kp374572
                                      have kp374593 : F374581 (γ 9 3) = F374444 (γ 9 3) := (x374580).trans kp374573
                                      change G _ _ _ _ _ _ _ _ _ _ _
                                      refine G_widen (cs' := 0) (sl' := 0) (by omega) (by omega) ?_
                                      obtain ⟨z374594, hz374594⟩ : ∃ z : Int32, z = g372070 + Int32.ofInt (-1) := ⟨_, rfl⟩
                                      have ez374594 : z374594.toInt = g372070.toInt + (-1) := gI_inc hz374594 (by decide) bg372070' (by decide) (by decide)
                                      have bz374594 : gB z374594 (-1) 999998 := ⟨by omega, by omega⟩
                                      refine G_iinc (L' := [(5, .int z374594), (10, .int g374443), (9, .int 0), (8, .int p372126), (7, .int o372210), (6, .ref q372111), (4, .ref q368818), (3, .int g367527), (0, .ref q270944), (1, .ref q270945), (2, .int p270946)]) z374594 5 dr_cX17_graph_284 rfl hz374594.symm (Nat.le_of_ble_eq_true rfl) rfl ?_
                                      refine G_goto 109 dr_cX17_graph_287 (by decide +kernel) ?_
                                      refine G_lv (L' := [(5, .int z374594), (4, .ref q368818), (3, .int g367527), (0, .ref q270944), (1, .ref q270945), (2, .int p270946)]) [0, 6, 7, 8, 9, 10] rfl ?_
                                      exact ih109_372076 F374581 z374594 (gB_w bz374594 (by decide) (by decide)) hT374582 hs374591 (by omega) (fun h0 => by have z := (by rw [kp374593]; exact x374447) h0; rw [show ((g372070.toInt : Int).toNat : Nat) = (z374594.toInt + 1 : Int).toNat by omega] at z; exact z) kp374592 (by omega)
                                    · have r374595 : g374443.toInt < 32 := gj_nleL hc374459 (show Int32.toInt 32 = 32 by decide)
                                      have bg374443' : gB g374443 0 31 := ⟨by omega, by omega⟩
                                      refine G_aload_n 8 dr_cX17_graph_217 rfl ?_
                                      have hm374596 : q270944 ∈ P270942 := RS_m hT374445 htq270944 (by decide)
                                      obtain ⟨q374598, q374599, p374600, p374601, p374602, p374603, p374604, p374605, p374606, p374607, p374608, p374609, p374610, p374611, p374612, p374613, p374614, he374597, hB374641, ht374615, ht374616, ht374617, ht374618, ht374619, ht374620, ht374621, ht374622, ht374623, ht374624, ht374625, ht374626, ht374627, ht374628, ht374629, ht374630, ht374631, ht374632, ht374633, ht374634, ht374635, ht374636, ht374637, ht374638, hB374642⟩ := show rk_10 γ (F374444 q270944) from RS_o hT374445 htq270944
                                      refine Gp_get 1 hm374596 he374597 dr_cX17_graph_218 (gk_X17 D I) (Nat.le_of_ble_eq_true rfl) wr_7_75 rfl ?_
                                      refine G_iload 3 dr_cX17_graph_221 rfl ?_
                                      have hm374643 : (γ 9 1) ∈ P270942 := RS_m hT374445 ht374618 (by decide)
                                      obtain ⟨f374645, he374644, hg374646⟩ := show rk_13 I γ (F374444 (γ 9 1)) from RS_o hT374445 ht374618
                                      obtain ⟨q374647, hx374649⟩ : ∃ x, x = γ 11 o372210.toInt.toNat := ⟨_, rfl⟩
                                      have ht374648 : rKd γ q374647 36 := by rw [hx374649]; exact (hg374646 _ (show o372210.toInt.toNat < 2000 by omega)).2.1
                                      refine Gp_aald 5 hm374643 he374644 dr_cX17_graph_223 rfl rfl (gB_in bo372210' (by decide) (by decide)) ?_
                                      rw [show f374645 o372210.toNatClampNeg = some q374647 from (hg374646 _ (show o372210.toInt.toNat < 2000 by omega)).1.trans (by rw [hx374649])]
                                      change G _ _ _ _ _ _ _ (.ref q374647 :: _) _ _ _
                                      refine G_iload 0 dr_cX17_graph_224 rfl ?_
                                      refine G_dup2_11 dr_cX17_graph_226 rfl rfl ?_
                                      have hm374650 : q374647 ∈ P270942 := RS_m hT374445 ht374648 (by decide)
                                      obtain ⟨f374652, he374651, wf374652⟩ := show rk_36 I (F374444 q374647) from RS_o hT374445 ht374648
                                      refine Gp_lald 2 hm374650 he374651 dr_cX17_graph_227 rfl (gB_in bg374443' (by decide) (by decide)) (G_namL fun u374653 hu374653 => ?_)
                                      have qu374653 : lb_Q u374653 (2000 - 64 * g374443.toInt) := lb_Wld hu374653 wf374652 (by omega) (by omega) (lb_Mod0 (by omega) (by omega))
                                      refine G_aload_n 8 dr_cX17_graph_228 rfl ?_
                                      refine Gp_get 2 hm374596 he374597 dr_cX17_graph_229 (gk_X17 D I) (Nat.le_of_ble_eq_true rfl) wr_7_76 rfl ?_
                                      refine G_iload 0 dr_cX17_graph_232 rfl ?_
                                      have hm374654 : (γ 9 2) ∈ P270942 := RS_m hT374445 ht374619 (by decide)
                                      obtain ⟨f374656, he374655, wf374656⟩ := show rk_35 I (F374444 (γ 9 2)) from RS_o hT374445 ht374619
                                      refine Gp_lald 2 hm374654 he374655 dr_cX17_graph_234 rfl (gB_in bg374443' (by decide) (by decide)) (G_namL fun u374657 hu374657 => ?_)
                                      have qu374657 : lb_Q u374657 (2000 - 64 * g374443.toInt) := lb_Wld hu374657 wf374656 (by omega) (by omega) (lb_Mod0 (by omega) (by omega))
                                      refine G_lor dr_cX17_graph_235 (G_namL fun u374658 hu374658 => ?_)
                                      have qu374658 : lb_Q u374658 (2000 - 64 * g374443.toInt) := lb_Qor hu374658 qu374653 qu374657
                                      refine Gp_last 2 hm374650 he374651 dr_cX17_graph_236 rfl (gB_in bg374443' (by decide) (by decide)) (fun F374659 e374660 n374661 => ?_)
                                      obtain ⟨f374662, hf374662⟩ : ∃ z, z = vp_updL f374652 g374443.toNatClampNeg u374658 := ⟨_, rfl⟩
                                      rw [← hf374662] at e374660
                                      have he374663 : F374659 q270945 = .inr (18, [.ref q367538, .ref q367539, .int p367540, .int p367541]) := (n374661 q270945 (rn_oa he374451 he374651)).trans he374451
                                      have he374664 : F374659 q367538 = .inr (4, [.int p368799, .ref q368801, .int p368800]) := (n374661 q367538 (rn_oa he374452 he374651)).trans he374452
                                      have he374665 : F374659 q368801 = .inl (I (.object "java/lang/Object"), n368815, .inr (.inr (.inr (.inr f368816)))) := (n374661 q368801 (rn_ref_long he374453 he374651)).trans he374453
                                      have he374666 : F374659 q368818 = .inr (17, [.ref q368827, .ref q368828, .int p368829, .int p368830]) := (n374661 q368818 (rn_oa he374454 he374651)).trans he374454
                                      have he374667 : F374659 q368827 = .inr (4, [.int p372092, .ref q372094, .int p372093]) := (n374661 q368827 (rn_oa he374455 he374651)).trans he374455
                                      have he374668 : F374659 q372094 = .inl (I (.object "java/lang/Object"), n372108, .inr (.inr (.inr (.inr f372109)))) := (n374661 q372094 (rn_ref_long he374456 he374651)).trans he374456
                                      have he374669 : F374659 q372111 = .inr (20, [.int p372124, .int p372125, .int p372126, .int p372127, .int p372128, .int p372129, .int p372130]) := (n374661 q372111 (rn_oa he374457 he374651)).trans he374457
                                      have he374670 : F374659 q270944 = .inr (22, [.ref (γ 9 0), .ref (γ 9 1), .ref (γ 9 2), .ref (γ 9 3), .ref (γ 9 4), .ref (γ 9 5), .ref (γ 9 6), .ref (γ 9 7), .ref (γ 9 8), .int p374600, .int p374601, .int p374602, .int p374603, .int p374604, .int p374605, .ref (γ 9 15), .ref (γ 9 16), .ref (γ 9 17), .ref (γ 9 18), .ref (γ 9 19), .ref (γ 9 20), .ref (γ 9 21), .ref (γ 9 22), .int p374606, .int p374607, .int p374608, .int p374609, .int p374610, .ref q374598, .ref (γ 9 29), .int p374611, .ref (γ 9 31), .int p374612, .int p374613, .int p374614, .ref q374599]) := (n374661 q270944 (rn_oa he374597 he374651)).trans he374597
                                      have he374671 : F374659 (γ 9 1) = .inl (I (.array .long), 2000, .inr (.inr (.inr (.inr f374645)))) := (n374661 (γ 9 1) (rn_ref_long he374644 he374651)).trans he374644
                                      have he374672 : F374659 (γ 9 2) = .inl (I .long, 32, .inr (.inl f374656)) := (n374661 (γ 9 2) (rn_ty ht374619 ht374648 (by decide))).trans he374655
                                      have he374673 : F374659 q374647 = .inl (I .long, 32, .inr (.inl f374662)) := e374660
                                      have hs374674 : rStr γ [] F270943 F374659 := rStr_put hs374446 n374661 ht374648 (by decide)
                                      have kp374675 : F374659 q270944 = F270943 q270944 := (n374661 q270944 (rn_ty htq270944 ht374648 (by decide))).trans x374448
                                      have kp374676 : F374659 (γ 9 3) = F374444 (γ 9 3) := n374661 (γ 9 3) (rn_ty ht374620 ht374648 (by decide))
                                      have wf374662 : lb_W f374662 (32) (32) (2000) := lb_Wst hf374662 wf374652 (by omega) (lb_Mod0 (by omega) (by omega)) qu374658
                                      obtain ⟨z374677, hz374677⟩ : ∃ z : Int32, z = g374443 + Int32.ofInt 1 := ⟨_, rfl⟩
                                      have ez374677 : z374677.toInt = g374443.toInt + 1 := gI_inc hz374677 (by decide) bg374443' (by decide) (by decide)
                                      have bz374677 : gB z374677 1 32 := ⟨by omega, by omega⟩
                                      refine G_iinc (L' := [(10, .int z374677), (9, .int 0), (8, .int p372126), (7, .int o372210), (6, .ref q372111), (5, .int g372070), (4, .ref q368818), (3, .int g367527), (0, .ref q270944), (1, .ref q270945), (2, .int p270946)]) z374677 0 dr_cX17_graph_237 rfl hz374677.symm (Nat.le_of_ble_eq_true rfl) rfl ?_
                                      refine G_goto 210 dr_cX17_graph_240 (by decide +kernel) ?_
                                      have hT374678 : RS D I P270942 F374659 γ el := RS_set hT374445 n374661 ht374648 (by decide) ⟨f374662, he374673, wf374662⟩
                                      exact ih210_374448 F374659 z374677 (gB_w bz374677 (by decide) (by decide)) hT374678 hs374674 (by rw [kp374676]; exact x374447) kp374675 (by have qa0 : Int32.toInt 0 = 0 := (by decide); omega)
                                exact hlp210_374448 (((33 : Int) - 0).toNat + 1) F372189 0 (gB_w (gBl (show Int32.toInt 0 = 0 by decide)) (by decide) (by decide)) hT372190 hs372199 gr372204 kp372200 (Nat.lt_succ_self _)
                              · change G _ _ _ _ _ _ _ (.int 1 :: _) _ _ _
                                refine G_widen (cs' := 0) (sl' := 0) (by omega) (by omega) ?_
                                refine G_if_eq 204 dr_cX17_graph_197 (by decide +kernel) (fun hc => absurd hc (by decide)) (fun _ => ?_)
                                refine G_iconst 1 dr_cX17_graph_200 (by decide +kernel) ?_
                                refine G_goto 205 dr_cX17_graph_201 (by decide +kernel) ?_
                                refine G_istore (L' := [(9, .int 1), (8, .int p372126), (7, .int o372210), (6, .ref q372111), (5, .int g372070), (4, .ref q368818), (3, .int g367527), (0, .ref q270944), (1, .ref q270945), (2, .int p270946)]) dr_cX17_graph_205 (Nat.le_of_ble_eq_true rfl) rfl ?_
                                refine G_iconst 0 dr_cX17_graph_207 (by decide +kernel) ?_
                                refine G_istore (L' := [(10, .int 0), (9, .int 1), (8, .int p372126), (7, .int o372210), (6, .ref q372111), (5, .int g372070), (4, .ref q368818), (3, .int g367527), (0, .ref q270944), (1, .ref q270945), (2, .int p270946)]) dr_cX17_graph_208 (Nat.le_of_ble_eq_true rfl) rfl ?_
                                have hlp210_374886 : ∀ (n210_374886 : Nat) (F374882 : Nat → va_E) (g374881 : Int32), gB g374881 0 32 → RS D I P270942 F374882 γ el → rStr γ [] F270943 F374882 → (p270946.toInt = 0 → rGr γ el F270943 q270945 (γ 6 (γ 1 q270945)) (cB (F374882 (γ 9 3))) (vB (g367527.toInt : Int).toNat (g372070.toInt : Int).toNat)) → (F374882 q270944 = F270943 q270944) → ((33 : Int) - g374881.toInt).toNat < n210_374886 → G (gV D I) l (gRm 5 111 0 0) (gMA (gV D I) (pt_270948_SpillForgeModel_graph D I γ el P270942 F270943 q270944 q270945 p270946) gNA 0 0) ky_270948_SpillForgeModel_graph 210 [(10, .int g374881), (9, .int 1), (8, .int p372126), (7, .int o372210), (6, .ref q372111), (5, .int g372070), (4, .ref q368818), (3, .int g367527), (0, .ref q270944), (1, .ref q270945), (2, .int p270946)] [] (va_pl P270942 F374882) 0 0 := by
                                  intro n210_374886
                                  induction n210_374886 with
                                  | zero => intro F374882 g374881 bg374881 hT374883 hs374884 x374885 x374886 hm210_374886; exact absurd hm210_374886 (Nat.not_lt_zero _)
                                  | succ n210_374886 ih210_374886 =>
                                    intro F374882 g374881 bg374881 hT374883 hs374884 x374885 x374886 hm210_374886
                                    have hs374888 : rStr γ [] F372189 F374882 := fun b h0 hb hw => (hs374884 b h0 hb hw).trans (hs372199 b h0 hb hw).symm
                                    have he374889 : F374882 q270945 = .inr (18, [.ref q367538, .ref q367539, .int p367540, .int p367541]) := (hs374888 q270945 (rT0 htq270945 (by decide)) (rT1 htq270945 (by decide)) (rT2 htq270945 (by decide))).trans he372192
                                    have he374890 : F374882 q367538 = .inr (4, [.int p368799, .ref q368801, .int p368800]) := (hs374888 q367538 (rT0 ht367542 (by decide)) (rT1 ht367542 (by decide)) (rT2 ht367542 (by decide))).trans he372193
                                    have he374891 : F374882 q368801 = .inl (I (.object "java/lang/Object"), n368815, .inr (.inr (.inr (.inr f368816)))) := (hs374888 q368801 (rT0 r368807 (by decide)) (rT1 r368807 (by decide)) (rT2 r368807 (by decide))).trans he372194
                                    have he374892 : F374882 q368818 = .inr (17, [.ref q368827, .ref q368828, .int p368829, .int p368830]) := (hs374888 q368818 (rT0 ht368823 (by decide)) (rT1 ht368823 (by decide)) (rT2 ht368823 (by decide))).trans he372195
                                    have he374893 : F374882 q368827 = .inr (4, [.int p372092, .ref q372094, .int p372093]) := (hs374888 q368827 (rT0 ht368831 (by decide)) (rT1 ht368831 (by decide)) (rT2 ht368831 (by decide))).trans he372196
                                    have he374894 : F374882 q372094 = .inl (I (.object "java/lang/Object"), n372108, .inr (.inr (.inr (.inr f372109)))) := (hs374888 q372094 (rT0 r372100 (by decide)) (rT1 r372100 (by decide)) (rT2 r372100 (by decide))).trans he372197
                                    have he374895 : F374882 q372111 = .inr (20, [.int p372124, .int p372125, .int p372126, .int p372127, .int p372128, .int p372129, .int p372130]) := (hs374888 q372111 (rT0 ht372114 (by decide)) (rT1 ht372114 (by decide)) (rT2 ht372114 (by decide))).trans he372198
                                    have hs374896 : rStr γ [] F270943 F374882 := rStr_tr hs372199 hs374888
                                    refine G_iload 0 dr_cX17_graph_210 rfl ?_
                                    refine G_bipush 32 dr_cX17_graph_212 (by decide +kernel) ?_
                                    refine G_icmp_ge 243 dr_cX17_graph_214 (by decide +kernel) (fun hc374897 => ?_) (fun hc374897 => ?_)
                                    · have r374898 : 32 ≤ g374881.toInt := gj_leL hc374897 (show Int32.toInt 32 = 32 by decide)
                                      have bg374881' : gB g374881 32 32 := ⟨by omega, by omega⟩
                                      refine G_iload 2 dr_cX17_graph_243 rfl ?_
                                      refine G_if_lt 265 dr_cX17_graph_245 (by decide +kernel) (fun hc => absurd (show False by have := gj_lt hc (show Int32.toInt 0 = 0 by decide); omega) not_false) (fun _ => ?_)
                                      refine G_iload 1 dr_cX17_graph_248 rfl ?_
                                      refine G_if_ne 265 dr_cX17_graph_250 (by decide +kernel) (fun _ => ?_) (fun hc => absurd hc (by decide))
                                      refine G_aload_n 8 dr_cX17_graph_265 rfl ?_
                                      have hm374899 : q270944 ∈ P270942 := RS_m hT374883 htq270944 (by decide)
                                      obtain ⟨q374901, q374902, p374903, p374904, p374905, p374906, p374907, p374908, p374909, p374910, p374911, p374912, p374913, p374914, p374915, p374916, p374917, he374900, hB374944, ht374918, ht374919, ht374920, ht374921, ht374922, ht374923, ht374924, ht374925, ht374926, ht374927, ht374928, ht374929, ht374930, ht374931, ht374932, ht374933, ht374934, ht374935, ht374936, ht374937, ht374938, ht374939, ht374940, ht374941, hB374945⟩ := show rk_10 γ (F374882 q270944) from RS_o hT374883 htq270944
                                      refine Gp_get 1 hm374899 he374900 dr_cX17_graph_266 (gk_X17 D I) (Nat.le_of_ble_eq_true rfl) wr_7_75 rfl ?_
                                      refine G_iload 3 dr_cX17_graph_269 rfl ?_
                                      have hm374946 : (γ 9 1) ∈ P270942 := RS_m hT374883 ht374921 (by decide)
                                      obtain ⟨f374948, he374947, hg374949⟩ := show rk_13 I γ (F374882 (γ 9 1)) from RS_o hT374883 ht374921
                                      obtain ⟨q374950, hx374952⟩ : ∃ x, x = γ 11 o372210.toInt.toNat := ⟨_, rfl⟩
                                      have ht374951 : rKd γ q374950 36 := by rw [hx374952]; exact (hg374949 _ (show o372210.toInt.toNat < 2000 by omega)).2.1
                                      refine Gp_aald 5 hm374946 he374947 dr_cX17_graph_271 rfl rfl (gB_in bo372210' (by decide) (by decide)) ?_
                                      rw [show f374948 o372210.toNatClampNeg = some q374950 from (hg374949 _ (show o372210.toInt.toNat < 2000 by omega)).1.trans (by rw [hx374952])]
                                      change G _ _ _ _ _ _ _ (.ref q374950 :: _) _ _ _
                                      refine G_iload 3 dr_cX17_graph_272 rfl ?_
                                      have hm374953 : q374950 ∈ P270942 := RS_m hT374883 ht374951 (by decide)
                                      obtain ⟨f374955, he374954, wf374955⟩ := show rk_36 I (F374882 q374950) from RS_o hT374883 ht374951
                                      refine Gw_callS (As := [.ref q374950, .int o372210]) (gV_ok D I) (cp_1873_SpillForgeModel_clear l hl0 D I P270942 F374882 q374950 o372210 f374955 hm374953 he374954 bo372210' wf374955) dr_cX17_graph_274 ⟨wr_10_185, wr_1_14, wr_10_187, by decide, rfl, (Nat.le_of_ble_eq_true rfl), (Nat.le_of_ble_eq_true rfl)⟩ wr_10_186 (show 0 + 0 ≤ 0 by first | omega | decide) (show 0 + 0 ≤ 0 by first | omega | decide) (Nat.le_of_ble_eq_true rfl) (fun r374959 w374960 dc374956 ds374957 hp374958 => ?_) (fun _ _ _ _ _ z => z.elim)
                                      obtain ⟨F374963, f374961, rfl, rfl, hfr374965, he374966, hdc, hds, x374962⟩ := hp374958
                                      have he374967 : F374963 q270945 = .inr (18, [.ref q367538, .ref q367539, .int p367540, .int p367541]) := (hfr374965 q270945 hm367536 (nm_c (rn_oa he374889 he374954) nm_n)).trans he374889
                                      have he374968 : F374963 q367538 = .inr (4, [.int p368799, .ref q368801, .int p368800]) := (hfr374965 q367538 hm368797 (nm_c (rn_oa he374890 he374954) nm_n)).trans he374890
                                      have he374969 : F374963 q368801 = .inl (I (.object "java/lang/Object"), n368815, .inr (.inr (.inr (.inr f368816)))) := (hfr374965 q368801 hm368817 (nm_c (rn_ref_long he374891 he374954) nm_n)).trans he374891
                                      have he374970 : F374963 q368818 = .inr (17, [.ref q368827, .ref q368828, .int p368829, .int p368830]) := (hfr374965 q368818 hm368825 (nm_c (rn_oa he374892 he374954) nm_n)).trans he374892
                                      have he374971 : F374963 q368827 = .inr (4, [.int p372092, .ref q372094, .int p372093]) := (hfr374965 q368827 hm372090 (nm_c (rn_oa he374893 he374954) nm_n)).trans he374893
                                      have he374972 : F374963 q372094 = .inl (I (.object "java/lang/Object"), n372108, .inr (.inr (.inr (.inr f372109)))) := (hfr374965 q372094 hm372110 (nm_c (rn_ref_long he374894 he374954) nm_n)).trans he374894
                                      have he374973 : F374963 q372111 = .inr (20, [.int p372124, .int p372125, .int p372126, .int p372127, .int p372128, .int p372129, .int p372130]) := (hfr374965 q372111 hm372122 (nm_c (rn_oa he374895 he374954) nm_n)).trans he374895
                                      have he374974 : F374963 q270944 = .inr (22, [.ref (γ 9 0), .ref (γ 9 1), .ref (γ 9 2), .ref (γ 9 3), .ref (γ 9 4), .ref (γ 9 5), .ref (γ 9 6), .ref (γ 9 7), .ref (γ 9 8), .int p374903, .int p374904, .int p374905, .int p374906, .int p374907, .int p374908, .ref (γ 9 15), .ref (γ 9 16), .ref (γ 9 17), .ref (γ 9 18), .ref (γ 9 19), .ref (γ 9 20), .ref (γ 9 21), .ref (γ 9 22), .int p374909, .int p374910, .int p374911, .int p374912, .int p374913, .ref q374901, .ref (γ 9 29), .int p374914, .ref (γ 9 31), .int p374915, .int p374916, .int p374917, .ref q374902]) := (hfr374965 q270944 hm374899 (nm_c (rn_oa he374900 he374954) nm_n)).trans he374900
                                      have he374975 : F374963 (γ 9 1) = .inl (I (.array .long), 2000, .inr (.inr (.inr (.inr f374948)))) := (hfr374965 (γ 9 1) hm374946 (nm_c (rn_ref_long he374947 he374954) nm_n)).trans he374947
                                      have hfr374976 : rFr [q374950] P270942 F374882 F374963 := rFr_call (rSub_rf (P := P270942)) (rFr_rf (W := []) (P := P270942) (F := F374882)) hfr374965 (fun b hb hn => ⟨nm_n, (nm_c (fun e => hn (e ▸ List.mem_cons_self)) nm_n)⟩)
                                      change G _ _ _ _ _ _ _ _ _ _ _
                                      refine G_widen (cs' := 0) (sl' := 0) (by omega) (by omega) ?_
                                      have hT374977 : RS D I P270942 F374963 γ el := RS_fr hT374883 hfr374976 ht374951 (by decide) ⟨f374961, he374966, x374962⟩
                                      have hs374978 : rStr γ [] F270943 F374963 := rStr_fr hT374883 hs374884 hfr374976 ht374951 (by decide)
                                      have kp374979 : F374963 q270944 = F270943 q270944 := (hfr374976 q270944 (RS_m hT374883 htq270944 (by decide)) (nm_c (rn_ty htq270944 ht374951 (by decide)) nm_n)).trans x374886
                                      have kp374980 : F374963 (γ 9 3) = F374882 (γ 9 3) := hfr374976 (γ 9 3) (RS_m hT374883 ht374923 (by decide)) (nm_c (rn_ty ht374923 ht374951 (by decide)) nm_n)
                                      refine G_aload_n 8 dr_cX17_graph_277 rfl ?_
                                      refine G_aload 4 dr_cX17_graph_278 rfl ?_
                                      refine G_iload_n 10 dr_cX17_graph_280 rfl ?_
                                      refine Gw_callV (As := [.ref q372111, .int p270946]) (gV_ok D I) (ct_281701_SpillForgeModel_back l hl0 D I γ el P270942 F374963 q270944 q372111 p270946 hT374977 htq270944 ht372114 (gB_w bp270946' (by decide) (by decide))) dr_cX17_graph_281 ⟨wr_10_174, wr_1_14, wr_10_177, by decide, rfl, (Nat.le_of_ble_eq_true rfl), (Nat.le_of_ble_eq_true rfl)⟩ wr_10_176 wr_p_96 hm374899 he374974 rfl (show 0 + 0 ≤ 0 by first | omega | decide) (show 0 + 0 ≤ 0 by first | omega | decide) (Nat.le_of_ble_eq_true rfl) (fun r374984 w374985 dc374981 ds374982 hp374983 => ?_) (fun _ _ _ _ _ z => z.elim)
                                      obtain ⟨F374988, rfl, rfl, hT374989, hs374990, hdc, hds, x374986, x374987⟩ := hp374983
                                      have he374991 : F374988 q270945 = .inr (18, [.ref q367538, .ref q367539, .int p367540, .int p367541]) := (hs374990 q270945 (rT0 htq270945 (by decide)) (rT1 htq270945 (by decide)) (rT2 htq270945 (by decide))).trans he374967
                                      have he374992 : F374988 q367538 = .inr (4, [.int p368799, .ref q368801, .int p368800]) := (hs374990 q367538 (rT0 ht367542 (by decide)) (rT1 ht367542 (by decide)) (rT2 ht367542 (by decide))).trans he374968
                                      have he374993 : F374988 q368801 = .inl (I (.object "java/lang/Object"), n368815, .inr (.inr (.inr (.inr f368816)))) := (hs374990 q368801 (rT0 r368807 (by decide)) (rT1 r368807 (by decide)) (rT2 r368807 (by decide))).trans he374969
                                      have he374994 : F374988 q368818 = .inr (17, [.ref q368827, .ref q368828, .int p368829, .int p368830]) := (hs374990 q368818 (rT0 ht368823 (by decide)) (rT1 ht368823 (by decide)) (rT2 ht368823 (by decide))).trans he374970
                                      have he374995 : F374988 q368827 = .inr (4, [.int p372092, .ref q372094, .int p372093]) := (hs374990 q368827 (rT0 ht368831 (by decide)) (rT1 ht368831 (by decide)) (rT2 ht368831 (by decide))).trans he374971
                                      have he374996 : F374988 q372094 = .inl (I (.object "java/lang/Object"), n372108, .inr (.inr (.inr (.inr f372109)))) := (hs374990 q372094 (rT0 r372100 (by decide)) (rT1 r372100 (by decide)) (rT2 r372100 (by decide))).trans he374972
                                      have he374997 : F374988 q372111 = .inr (20, [.int p372124, .int p372125, .int p372126, .int p372127, .int p372128, .int p372129, .int p372130]) := (hs374990 q372111 (rT0 ht372114 (by decide)) (rT1 ht372114 (by decide)) (rT2 ht372114 (by decide))).trans he374973
                                      have hs374998 : rStr γ [] F270943 F374988 := rStr_tr hs374978 hs374990
                                      have kp374999 : F374988 q270944 = F270943 q270944 := (x374986).trans kp374979
                                      have kp375000 : F374988 (γ 9 3) = F374882 (γ 9 3) := (x374987).trans kp374980
                                      change G _ _ _ _ _ _ _ _ _ _ _
                                      refine G_widen (cs' := 0) (sl' := 0) (by omega) (by omega) ?_
                                      obtain ⟨z375001, hz375001⟩ : ∃ z : Int32, z = g372070 + Int32.ofInt (-1) := ⟨_, rfl⟩
                                      have ez375001 : z375001.toInt = g372070.toInt + (-1) := gI_inc hz375001 (by decide) bg372070' (by decide) (by decide)
                                      have bz375001 : gB z375001 (-1) 999998 := ⟨by omega, by omega⟩
                                      refine G_iinc (L' := [(5, .int z375001), (10, .int g374881), (9, .int 1), (8, .int p372126), (7, .int o372210), (6, .ref q372111), (4, .ref q368818), (3, .int g367527), (0, .ref q270944), (1, .ref q270945), (2, .int p270946)]) z375001 5 dr_cX17_graph_284 rfl hz375001.symm (Nat.le_of_ble_eq_true rfl) rfl ?_
                                      refine G_goto 109 dr_cX17_graph_287 (by decide +kernel) ?_
                                      refine G_lv (L' := [(5, .int z375001), (4, .ref q368818), (3, .int g367527), (0, .ref q270944), (1, .ref q270945), (2, .int p270946)]) [0, 6, 7, 8, 9, 10] rfl ?_
                                      exact ih109_372076 F374988 z375001 (gB_w bz375001 (by decide) (by decide)) hT374989 hs374998 (by omega) (fun h0 => by have z := (by rw [kp375000]; exact x374885) h0; rw [show ((g372070.toInt : Int).toNat : Nat) = (z375001.toInt + 1 : Int).toNat by omega] at z; exact z) kp374999 (by omega)
                                    · have r375002 : g374881.toInt < 32 := gj_nleL hc374897 (show Int32.toInt 32 = 32 by decide)
                                      have bg374881' : gB g374881 0 31 := ⟨by omega, by omega⟩
                                      refine G_aload_n 8 dr_cX17_graph_217 rfl ?_
                                      have hm375003 : q270944 ∈ P270942 := RS_m hT374883 htq270944 (by decide)
                                      obtain ⟨q375005, q375006, p375007, p375008, p375009, p375010, p375011, p375012, p375013, p375014, p375015, p375016, p375017, p375018, p375019, p375020, p375021, he375004, hB375048, ht375022, ht375023, ht375024, ht375025, ht375026, ht375027, ht375028, ht375029, ht375030, ht375031, ht375032, ht375033, ht375034, ht375035, ht375036, ht375037, ht375038, ht375039, ht375040, ht375041, ht375042, ht375043, ht375044, ht375045, hB375049⟩ := show rk_10 γ (F374882 q270944) from RS_o hT374883 htq270944
                                      refine Gp_get 1 hm375003 he375004 dr_cX17_graph_218 (gk_X17 D I) (Nat.le_of_ble_eq_true rfl) wr_7_75 rfl ?_
                                      refine G_iload 3 dr_cX17_graph_221 rfl ?_
                                      have hm375050 : (γ 9 1) ∈ P270942 := RS_m hT374883 ht375025 (by decide)
                                      obtain ⟨f375052, he375051, hg375053⟩ := show rk_13 I γ (F374882 (γ 9 1)) from RS_o hT374883 ht375025
                                      obtain ⟨q375054, hx375056⟩ : ∃ x, x = γ 11 o372210.toInt.toNat := ⟨_, rfl⟩
                                      have ht375055 : rKd γ q375054 36 := by rw [hx375056]; exact (hg375053 _ (show o372210.toInt.toNat < 2000 by omega)).2.1
                                      refine Gp_aald 5 hm375050 he375051 dr_cX17_graph_223 rfl rfl (gB_in bo372210' (by decide) (by decide)) ?_
                                      rw [show f375052 o372210.toNatClampNeg = some q375054 from (hg375053 _ (show o372210.toInt.toNat < 2000 by omega)).1.trans (by rw [hx375056])]
                                      change G _ _ _ _ _ _ _ (.ref q375054 :: _) _ _ _
                                      refine G_iload 0 dr_cX17_graph_224 rfl ?_
                                      refine G_dup2_11 dr_cX17_graph_226 rfl rfl ?_
                                      have hm375057 : q375054 ∈ P270942 := RS_m hT374883 ht375055 (by decide)
                                      obtain ⟨f375059, he375058, wf375059⟩ := show rk_36 I (F374882 q375054) from RS_o hT374883 ht375055
                                      refine Gp_lald 2 hm375057 he375058 dr_cX17_graph_227 rfl (gB_in bg374881' (by decide) (by decide)) (G_namL fun u375060 hu375060 => ?_)
                                      have qu375060 : lb_Q u375060 (2000 - 64 * g374881.toInt) := lb_Wld hu375060 wf375059 (by omega) (by omega) (lb_Mod0 (by omega) (by omega))
                                      refine G_aload_n 8 dr_cX17_graph_228 rfl ?_
                                      refine Gp_get 2 hm375003 he375004 dr_cX17_graph_229 (gk_X17 D I) (Nat.le_of_ble_eq_true rfl) wr_7_76 rfl ?_
                                      refine G_iload 0 dr_cX17_graph_232 rfl ?_
                                      have hm375061 : (γ 9 2) ∈ P270942 := RS_m hT374883 ht375026 (by decide)
                                      obtain ⟨f375063, he375062, wf375063⟩ := show rk_35 I (F374882 (γ 9 2)) from RS_o hT374883 ht375026
                                      refine Gp_lald 2 hm375061 he375062 dr_cX17_graph_234 rfl (gB_in bg374881' (by decide) (by decide)) (G_namL fun u375064 hu375064 => ?_)
                                      have qu375064 : lb_Q u375064 (2000 - 64 * g374881.toInt) := lb_Wld hu375064 wf375063 (by omega) (by omega) (lb_Mod0 (by omega) (by omega))
                                      refine G_lor dr_cX17_graph_235 (G_namL fun u375065 hu375065 => ?_)
                                      have qu375065 : lb_Q u375065 (2000 - 64 * g374881.toInt) := lb_Qor hu375065 qu375060 qu375064
                                      refine Gp_last 2 hm375057 he375058 dr_cX17_graph_236 rfl (gB_in bg374881' (by decide) (by decide)) (fun F375066 e375067 n375068 => ?_)
                                      obtain ⟨f375069, hf375069⟩ : ∃ z, z = vp_updL f375059 g374881.toNatClampNeg u375065 := ⟨_, rfl⟩
                                      rw [← hf375069] at e375067
                                      have he375070 : F375066 q270945 = .inr (18, [.ref q367538, .ref q367539, .int p367540, .int p367541]) := (n375068 q270945 (rn_oa he374889 he375058)).trans he374889
                                      have he375071 : F375066 q367538 = .inr (4, [.int p368799, .ref q368801, .int p368800]) := (n375068 q367538 (rn_oa he374890 he375058)).trans he374890
                                      have he375072 : F375066 q368801 = .inl (I (.object "java/lang/Object"), n368815, .inr (.inr (.inr (.inr f368816)))) := (n375068 q368801 (rn_ref_long he374891 he375058)).trans he374891
                                      have he375073 : F375066 q368818 = .inr (17, [.ref q368827, .ref q368828, .int p368829, .int p368830]) := (n375068 q368818 (rn_oa he374892 he375058)).trans he374892
                                      have he375074 : F375066 q368827 = .inr (4, [.int p372092, .ref q372094, .int p372093]) := (n375068 q368827 (rn_oa he374893 he375058)).trans he374893
                                      have he375075 : F375066 q372094 = .inl (I (.object "java/lang/Object"), n372108, .inr (.inr (.inr (.inr f372109)))) := (n375068 q372094 (rn_ref_long he374894 he375058)).trans he374894
                                      have he375076 : F375066 q372111 = .inr (20, [.int p372124, .int p372125, .int p372126, .int p372127, .int p372128, .int p372129, .int p372130]) := (n375068 q372111 (rn_oa he374895 he375058)).trans he374895
                                      have he375077 : F375066 q270944 = .inr (22, [.ref (γ 9 0), .ref (γ 9 1), .ref (γ 9 2), .ref (γ 9 3), .ref (γ 9 4), .ref (γ 9 5), .ref (γ 9 6), .ref (γ 9 7), .ref (γ 9 8), .int p375007, .int p375008, .int p375009, .int p375010, .int p375011, .int p375012, .ref (γ 9 15), .ref (γ 9 16), .ref (γ 9 17), .ref (γ 9 18), .ref (γ 9 19), .ref (γ 9 20), .ref (γ 9 21), .ref (γ 9 22), .int p375013, .int p375014, .int p375015, .int p375016, .int p375017, .ref q375005, .ref (γ 9 29), .int p375018, .ref (γ 9 31), .int p375019, .int p375020, .int p375021, .ref q375006]) := (n375068 q270944 (rn_oa he375004 he375058)).trans he375004
                                      have he375078 : F375066 (γ 9 1) = .inl (I (.array .long), 2000, .inr (.inr (.inr (.inr f375052)))) := (n375068 (γ 9 1) (rn_ref_long he375051 he375058)).trans he375051
                                      have he375079 : F375066 (γ 9 2) = .inl (I .long, 32, .inr (.inl f375063)) := (n375068 (γ 9 2) (rn_ty ht375026 ht375055 (by decide))).trans he375062
                                      have he375080 : F375066 q375054 = .inl (I .long, 32, .inr (.inl f375069)) := e375067
                                      have hs375081 : rStr γ [] F270943 F375066 := rStr_put hs374884 n375068 ht375055 (by decide)
                                      have kp375082 : F375066 q270944 = F270943 q270944 := (n375068 q270944 (rn_ty htq270944 ht375055 (by decide))).trans x374886
                                      have kp375083 : F375066 (γ 9 3) = F374882 (γ 9 3) := n375068 (γ 9 3) (rn_ty ht375027 ht375055 (by decide))
                                      have wf375069 : lb_W f375069 (32) (32) (2000) := lb_Wst hf375069 wf375059 (by omega) (lb_Mod0 (by omega) (by omega)) qu375065
                                      obtain ⟨z375084, hz375084⟩ : ∃ z : Int32, z = g374881 + Int32.ofInt 1 := ⟨_, rfl⟩
                                      have ez375084 : z375084.toInt = g374881.toInt + 1 := gI_inc hz375084 (by decide) bg374881' (by decide) (by decide)
                                      have bz375084 : gB z375084 1 32 := ⟨by omega, by omega⟩
                                      refine G_iinc (L' := [(10, .int z375084), (9, .int 1), (8, .int p372126), (7, .int o372210), (6, .ref q372111), (5, .int g372070), (4, .ref q368818), (3, .int g367527), (0, .ref q270944), (1, .ref q270945), (2, .int p270946)]) z375084 0 dr_cX17_graph_237 rfl hz375084.symm (Nat.le_of_ble_eq_true rfl) rfl ?_
                                      refine G_goto 210 dr_cX17_graph_240 (by decide +kernel) ?_
                                      have hT375085 : RS D I P270942 F375066 γ el := RS_set hT374883 n375068 ht375055 (by decide) ⟨f375069, he375080, wf375069⟩
                                      exact ih210_374886 F375066 z375084 (gB_w bz375084 (by decide) (by decide)) hT375085 hs375081 (by rw [kp375083]; exact x374885) kp375082 (by have qa0 : Int32.toInt 1 = 1 := (by decide); omega)
                                exact hlp210_374886 (((33 : Int) - 0).toNat + 1) F372189 0 (gB_w (gBl (show Int32.toInt 0 = 0 by decide)) (by decide) (by decide)) hT372190 hs372199 gr372204 kp372200 (Nat.lt_succ_self _)
              exact hlp109_372076 (((z369057.toInt : Int) - (-2)).toNat + 1) F369031 z369057 bz369057 hT369032 hs369038 (by omega) (fun h0 => by have z := (by rw [kp369040]; exact gr368976) h0; rw [show (γ 2 q368827 : Nat) = (z369057.toInt + 1 : Int).toNat by omega] at z; exact z) kp369039 (Nat.lt_succ_self _)
        exact hlp56_367532 (((1000001 : Int) - 0).toNat + 1) F359961 0 (gB_w (gBl (show Int32.toInt 0 = 0 by decide)) (by decide) (by decide)) hT359962 hs359963 (fun _ => gq_0 (fun m hm => x359964 m (by omega))) x359965 (Nat.lt_succ_self _)
      · have r375086 : g359960.toInt < 2000 := gj_nleL hc359969 (show Int32.toInt 2000 = 2000 by decide)
        have bg359960' : gB g359960 0 1999 := ⟨by omega, by omega⟩
        refine G_aload_n 1 dr_cX17_graph_15 rfl ?_
        have hm375087 : q270944 ∈ P270942 := RS_m hT359962 htq270944 (by decide)
        obtain ⟨q375089, q375090, p375091, p375092, p375093, p375094, p375095, p375096, p375097, p375098, p375099, p375100, p375101, p375102, p375103, p375104, p375105, he375088, hB375132, ht375106, ht375107, ht375108, ht375109, ht375110, ht375111, ht375112, ht375113, ht375114, ht375115, ht375116, ht375117, ht375118, ht375119, ht375120, ht375121, ht375122, ht375123, ht375124, ht375125, ht375126, ht375127, ht375128, ht375129, hB375133⟩ := show rk_10 γ (F359961 q270944) from RS_o hT359962 htq270944
        refine Gp_get 3 hm375087 he375088 dr_cX17_graph_16 (gk_X17 D I) (Nat.le_of_ble_eq_true rfl) wr_7_77 rfl ?_
        refine G_iload_n 0 dr_cX17_graph_19 rfl ?_
        refine G_iconst 0 dr_cX17_graph_20 (by decide +kernel) ?_
        have hm375134 : (γ 9 3) ∈ P270942 := RS_m hT359962 ht375111 (by decide)
        obtain ⟨f375136, he375135, bf375136⟩ := show rk_14 I (F359961 (γ 9 3)) from RS_o hT359962 ht375111
        refine Gp_zast 3 hm375134 he375135 dr_cX17_graph_21 rfl (gB_in bg359960' (by decide) (by decide)) (fun F375137 e375138 n375139 => ?_)
        obtain ⟨f375140, hf375140⟩ : ∃ z, z = upd f375136 g359960.toNatClampNeg (vp_nar .boolean 0) := ⟨_, rfl⟩
        rw [← hf375140] at e375138
        have he375141 : F375137 q270944 = .inr (22, [.ref (γ 9 0), .ref (γ 9 1), .ref (γ 9 2), .ref (γ 9 3), .ref (γ 9 4), .ref (γ 9 5), .ref (γ 9 6), .ref (γ 9 7), .ref (γ 9 8), .int p375091, .int p375092, .int p375093, .int p375094, .int p375095, .int p375096, .ref (γ 9 15), .ref (γ 9 16), .ref (γ 9 17), .ref (γ 9 18), .ref (γ 9 19), .ref (γ 9 20), .ref (γ 9 21), .ref (γ 9 22), .int p375097, .int p375098, .int p375099, .int p375100, .int p375101, .ref q375089, .ref (γ 9 29), .int p375102, .ref (γ 9 31), .int p375103, .int p375104, .int p375105, .ref q375090]) := (n375139 q270944 (rn_oa he375088 he375135)).trans he375088
        have he375142 : F375137 (γ 9 3) = .inl (I .boolean, 2000, .inl f375140) := e375138
        have hs375143 : rStr γ [] F270943 F375137 := rStr_put hs359963 n375139 ht375111 (by decide)
        have kp375144 : F375137 q270944 = F270943 q270944 := (n375139 q270944 (rn_ty htq270944 ht375111 (by decide))).trans x359965
        have bf375140 : gF f375140 0 1 := gF_upd hf375140 bf375136 (gB_w (gBl (show Int32.toInt 0 = 0 by decide)) (by decide) (by decide))
        refine G_iconst 0 dr_cX17_graph_22 (by decide +kernel) ?_
        refine G_istore (L' := [(4, .int 0), (3, .int g359960), (0, .ref q270944), (1, .ref q270945), (2, .int p270946)]) dr_cX17_graph_23 (Nat.le_of_ble_eq_true rfl) rfl ?_
        have hT375145 : RS D I P270942 F375137 γ el := RS_set hT359962 n375139 ht375111 (by decide) ⟨f375140, he375142, bf375140⟩
        have hlp25_375230 : ∀ (n25_375230 : Nat) (F375226 : Nat → va_E) (g375225 : Int32), gB g375225 0 32 → RS D I P270942 F375226 γ el → rStr γ [] F270943 F375226 → (∀ n : Nat, (n : Int) < g359960.toInt + 1 → ¬ rSd (cB (F375226 (γ 9 3))) n) → (F375226 q270944 = F270943 q270944) → ((33 : Int) - g375225.toInt).toNat < n25_375230 → G (gV D I) l (gRm 5 111 0 0) (gMA (gV D I) (pt_270948_SpillForgeModel_graph D I γ el P270942 F270943 q270944 q270945 p270946) gNA 0 0) ky_270948_SpillForgeModel_graph 25 [(4, .int g375225), (3, .int g359960), (0, .ref q270944), (1, .ref q270945), (2, .int p270946)] [] (va_pl P270942 F375226) 0 0 := by
          intro n25_375230
          induction n25_375230 with
          | zero => intro F375226 g375225 bg375225 hT375227 hs375228 x375229 x375230 hm25_375230; exact absurd hm25_375230 (Nat.not_lt_zero _)
          | succ n25_375230 ih25_375230 =>
            intro F375226 g375225 bg375225 hT375227 hs375228 x375229 x375230 hm25_375230
            have hs375232 : rStr γ [] F375137 F375226 := fun b h0 hb hw => (hs375228 b h0 hb hw).trans (hs375143 b h0 hb hw).symm
            have hs375233 : rStr γ [] F270943 F375226 := rStr_tr hs375143 hs375232
            refine G_iload 0 dr_cX17_graph_25 rfl ?_
            refine G_bipush 32 dr_cX17_graph_27 (by decide +kernel) ?_
            refine G_icmp_ge 48 dr_cX17_graph_29 (by decide +kernel) (fun hc375234 => ?_) (fun hc375234 => ?_)
            · have r375235 : 32 ≤ g375225.toInt := gj_leL hc375234 (show Int32.toInt 32 = 32 by decide)
              have bg375225' : gB g375225 32 32 := ⟨by omega, by omega⟩
              obtain ⟨z375236, hz375236⟩ : ∃ z : Int32, z = g359960 + Int32.ofInt 1 := ⟨_, rfl⟩
              have ez375236 : z375236.toInt = g359960.toInt + 1 := gI_inc hz375236 (by decide) bg359960' (by decide) (by decide)
              have bz375236 : gB z375236 1 2000 := ⟨by omega, by omega⟩
              refine G_iinc (L' := [(3, .int z375236), (4, .int g375225), (0, .ref q270944), (1, .ref q270945), (2, .int p270946)]) z375236 1 dr_cX17_graph_48 rfl hz375236.symm (Nat.le_of_ble_eq_true rfl) rfl ?_
              refine G_goto 8 dr_cX17_graph_51 (by decide +kernel) ?_
              refine G_lv (L' := [(3, .int z375236), (0, .ref q270944), (1, .ref q270945), (2, .int p270946)]) [0, 2, 3, 4] rfl ?_
              exact ih8_359965 F375226 z375236 (gB_w bz375236 (by decide) (by decide)) hT375227 hs375228 (by rw [ez375236]; exact x375229) x375230 (by omega)
            · have r375237 : g375225.toInt < 32 := gj_nleL hc375234 (show Int32.toInt 32 = 32 by decide)
              have bg375225' : gB g375225 0 31 := ⟨by omega, by omega⟩
              refine G_aload_n 2 dr_cX17_graph_32 rfl ?_
              have hm375238 : q270944 ∈ P270942 := RS_m hT375227 htq270944 (by decide)
              obtain ⟨q375240, q375241, p375242, p375243, p375244, p375245, p375246, p375247, p375248, p375249, p375250, p375251, p375252, p375253, p375254, p375255, p375256, he375239, hB375283, ht375257, ht375258, ht375259, ht375260, ht375261, ht375262, ht375263, ht375264, ht375265, ht375266, ht375267, ht375268, ht375269, ht375270, ht375271, ht375272, ht375273, ht375274, ht375275, ht375276, ht375277, ht375278, ht375279, ht375280, hB375284⟩ := show rk_10 γ (F375226 q270944) from RS_o hT375227 htq270944
              refine Gp_get 1 hm375238 he375239 dr_cX17_graph_33 (gk_X17 D I) (Nat.le_of_ble_eq_true rfl) wr_7_75 rfl ?_
              refine G_iload_n 1 dr_cX17_graph_36 rfl ?_
              have hm375285 : (γ 9 1) ∈ P270942 := RS_m hT375227 ht375260 (by decide)
              obtain ⟨f375287, he375286, hg375288⟩ := show rk_13 I γ (F375226 (γ 9 1)) from RS_o hT375227 ht375260
              obtain ⟨q375289, hx375291⟩ : ∃ x, x = γ 11 g359960.toInt.toNat := ⟨_, rfl⟩
              have ht375290 : rKd γ q375289 36 := by rw [hx375291]; exact (hg375288 _ (show g359960.toInt.toNat < 2000 by omega)).2.1
              refine Gp_aald 5 hm375285 he375286 dr_cX17_graph_37 rfl rfl (gB_in bg359960' (by decide) (by decide)) ?_
              rw [show f375287 g359960.toNatClampNeg = some q375289 from (hg375288 _ (show g359960.toInt.toNat < 2000 by omega)).1.trans (by rw [hx375291])]
              change G _ _ _ _ _ _ _ (.ref q375289 :: _) _ _ _
              refine G_iload 0 dr_cX17_graph_38 rfl ?_
              refine G_lconst 0 dr_cX17_graph_40 rfl ?_
              have hm375292 : q375289 ∈ P270942 := RS_m hT375227 ht375290 (by decide)
              obtain ⟨f375294, he375293, wf375294⟩ := show rk_36 I (F375226 q375289) from RS_o hT375227 ht375290
              refine Gp_last 2 hm375292 he375293 dr_cX17_graph_41 rfl (gB_in bg375225' (by decide) (by decide)) (fun F375295 e375296 n375297 => ?_)
              obtain ⟨f375298, hf375298⟩ : ∃ z, z = vp_updL f375294 g375225.toNatClampNeg 0 := ⟨_, rfl⟩
              rw [← hf375298] at e375296
              have he375299 : F375295 q270944 = .inr (22, [.ref (γ 9 0), .ref (γ 9 1), .ref (γ 9 2), .ref (γ 9 3), .ref (γ 9 4), .ref (γ 9 5), .ref (γ 9 6), .ref (γ 9 7), .ref (γ 9 8), .int p375242, .int p375243, .int p375244, .int p375245, .int p375246, .int p375247, .ref (γ 9 15), .ref (γ 9 16), .ref (γ 9 17), .ref (γ 9 18), .ref (γ 9 19), .ref (γ 9 20), .ref (γ 9 21), .ref (γ 9 22), .int p375248, .int p375249, .int p375250, .int p375251, .int p375252, .ref q375240, .ref (γ 9 29), .int p375253, .ref (γ 9 31), .int p375254, .int p375255, .int p375256, .ref q375241]) := (n375297 q270944 (rn_oa he375239 he375293)).trans he375239
              have he375300 : F375295 (γ 9 1) = .inl (I (.array .long), 2000, .inr (.inr (.inr (.inr f375287)))) := (n375297 (γ 9 1) (rn_ref_long he375286 he375293)).trans he375286
              have he375301 : F375295 q375289 = .inl (I .long, 32, .inr (.inl f375298)) := e375296
              have hs375302 : rStr γ [] F270943 F375295 := rStr_put hs375228 n375297 ht375290 (by decide)
              have kp375303 : F375295 q270944 = F270943 q270944 := (n375297 q270944 (rn_ty htq270944 ht375290 (by decide))).trans x375230
              have kp375304 : F375295 (γ 9 3) = F375226 (γ 9 3) := n375297 (γ 9 3) (rn_ty ht375262 ht375290 (by decide))
              have wf375298 : lb_W f375298 (32) (32) (2000) := lb_Wst hf375298 wf375294 (by omega) (lb_Mod0 (by omega) (by omega)) lb_Q0
              obtain ⟨z375305, hz375305⟩ : ∃ z : Int32, z = g375225 + Int32.ofInt 1 := ⟨_, rfl⟩
              have ez375305 : z375305.toInt = g375225.toInt + 1 := gI_inc hz375305 (by decide) bg375225' (by decide) (by decide)
              have bz375305 : gB z375305 1 32 := ⟨by omega, by omega⟩
              refine G_iinc (L' := [(4, .int z375305), (3, .int g359960), (0, .ref q270944), (1, .ref q270945), (2, .int p270946)]) z375305 0 dr_cX17_graph_42 rfl hz375305.symm (Nat.le_of_ble_eq_true rfl) rfl ?_
              refine G_goto 25 dr_cX17_graph_45 (by decide +kernel) ?_
              have hT375306 : RS D I P270942 F375295 γ el := RS_set hT375227 n375297 ht375290 (by decide) ⟨f375298, he375301, wf375298⟩
              exact ih25_375230 F375295 z375305 (gB_w bz375305 (by decide) (by decide)) hT375306 hs375302 (by rw [kp375304]; exact x375229) kp375303 (by omega)
        exact hlp25_375230 (((33 : Int) - 0).toNat + 1) F375137 0 (gB_w (gBl (show Int32.toInt 0 = 0 by decide)) (by decide) (by decide)) hT375145 hs375143 (by rw [cB_of he375142]; exact sd_z hf375140 (by omega) (by have q := x359964; rw [cB_of he375135] at q; exact q)) kp375144 (Nat.lt_succ_self _)
  exact hlp8_359965 (((2001 : Int) - 0).toNat + 1) F271002 0 (gB_w (gBl (show Int32.toInt 0 = 0 by decide)) (by decide) (by decide)) hT271003 hs271005 (fun n hn => absurd hn (by have qa : Int32.toInt 0 = 0 := (by decide); omega)) kp271006 (Nat.lt_succ_self _)
