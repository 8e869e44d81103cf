theorem dr_cX17_graph_0 : decode cX17_graph 0 = .ok (.aload_n 0, 1) := by decide +kernel
theorem dr_cX17_graph_1 : decode cX17_graph 1 = .ok (.aload_n 1, 1) := by decide +kernel
theorem dr_cX17_graph_2 : decode cX17_graph 2 = .ok (.iload_n 2, 1) := by decide +kernel
theorem dr_cX17_graph_3 : decode cX17_graph 3 = .ok (.invokevirtual 127, 3) := by decide +kernel
theorem wr_10_156 : (Jvm.Cond.methodLink "SpillForgeModel" (127 : Nat) ({ cls := "SpillForgeModel", name := "findLive", desc := "(LSpillForgeModel$Code;Z)V" } : Jvm.MethodName)) ∈ gw := gw_10 156 rfl rfl
theorem wr_10_159 : (Jvm.Cond.code ({ cls := "SpillForgeModel", name := "findLive", desc := "(LSpillForgeModel$Code;Z)V" } : Jvm.MethodName) prog_14_method_9_code (7 : Nat) (Option.none : Option Jvm.ClassFile.FieldType)) ∈ gw := gw_10 159 rfl rfl
theorem wr_10_158 : (Jvm.Cond.instanceMethod ({ cls := "SpillForgeModel", name := "findLive", desc := "(LSpillForgeModel$Code;Z)V" } : Jvm.MethodName)) ∈ gw := gw_10 158 rfl rfl
theorem wr_p_94 : Cond.selects "SpillForgeModel" ⟨"SpillForgeModel", "findLive", "(LSpillForgeModel$Code;Z)V"⟩ ⟨"SpillForgeModel", "findLive", "(LSpillForgeModel$Code;Z)V"⟩ ∈ gw := gw_p _ 94 rfl rfl rfl
theorem dr_cX17_graph_6 : decode cX17_graph 6 = .ok (.iconst 0, 1) := by decide +kernel
theorem dr_cX17_graph_7 : decode cX17_graph 7 = .ok (.istore_n 3, 1) := by decide +kernel
theorem dr_cX17_graph_8 : decode cX17_graph 8 = .ok (.iload_n 3, 1) := by decide +kernel
theorem dr_cX17_graph_9 : decode cX17_graph 9 = .ok (.sipush 2000, 3) := by decide +kernel
theorem dr_cX17_graph_12 : decode cX17_graph 12 = .ok (.if_icmp .ge 42, 3) := by decide +kernel
theorem dr_cX17_graph_54 : decode cX17_graph 54 = .ok (.iconst 0, 1) := by decide +kernel
theorem dr_cX17_graph_55 : decode cX17_graph 55 = .ok (.istore_n 3, 1) := by decide +kernel
theorem dr_cX17_graph_56 : decode cX17_graph 56 = .ok (.iload_n 3, 1) := by decide +kernel
theorem dr_cX17_graph_57 : decode cX17_graph 57 = .ok (.aload_n 1, 1) := by decide +kernel
theorem dr_cX17_graph_58 : decode cX17_graph 58 = .ok (.invokevirtual 96, 3) := by decide +kernel
theorem dr_cX17_graph_61 : decode cX17_graph 61 = .ok (.if_icmp .ge 235, 3) := by decide +kernel
theorem dr_cX17_graph_296 : decode cX17_graph 296 = .ok (.iconst 0, 1) := by decide +kernel
theorem dr_cX17_graph_297 : decode cX17_graph 297 = .ok (.istore_n 3, 1) := by decide +kernel
theorem dr_cX17_graph_298 : decode cX17_graph 298 = .ok (.iload_n 3, 1) := by decide +kernel
theorem dr_cX17_graph_299 : decode cX17_graph 299 = .ok (.sipush 2000, 3) := by decide +kernel
theorem dr_cX17_graph_302 : decode cX17_graph 302 = .ok (.if_icmp .ge 87, 3) := by decide +kernel
theorem dr_cX17_graph_389 : decode cX17_graph 389 = .ok (.return_, 1) := by decide +kernel
theorem dr_cX17_graph_305 : decode cX17_graph 305 = .ok (.aload_n 0, 1) := by decide +kernel
theorem dr_cX17_graph_306 : decode cX17_graph 306 = .ok (.getfield 131, 3) := by decide +kernel
theorem dr_cX17_graph_309 : decode cX17_graph 309 = .ok (.iload_n 3, 1) := by decide +kernel
theorem dr_cX17_graph_310 : decode cX17_graph 310 = .ok (.baload, 1) := by decide +kernel
theorem dr_cX17_graph_311 : decode cX17_graph 311 = .ok (.ifCond .ne 6, 3) := by decide +kernel
theorem dr_cX17_graph_317 : decode cX17_graph 317 = .ok (.iconst 0, 1) := by decide +kernel
theorem dr_cX17_graph_318 : decode cX17_graph 318 = .ok (.istore 4, 2) := by decide +kernel
theorem dr_cX17_graph_320 : decode cX17_graph 320 = .ok (.iload 4, 2) := by decide +kernel
theorem dr_cX17_graph_322 : decode cX17_graph 322 = .ok (.bipush 32, 2) := by decide +kernel
theorem dr_cX17_graph_324 : decode cX17_graph 324 = .ok (.if_icmp .ge 59, 3) := by decide +kernel
theorem dr_cX17_graph_383 : decode cX17_graph 383 = .ok (.iinc 3 1, 3) := by decide +kernel
theorem dr_cX17_graph_386 : decode cX17_graph 386 = .ok (.goto (-88), 3) := by decide +kernel
theorem dr_cX17_graph_327 : decode cX17_graph 327 = .ok (.aload_n 0, 1) := by decide +kernel
theorem dr_cX17_graph_328 : decode cX17_graph 328 = .ok (.getfield 135, 3) := by decide +kernel
theorem dr_cX17_graph_331 : decode cX17_graph 331 = .ok (.iload_n 3, 1) := by decide +kernel
theorem dr_cX17_graph_332 : decode cX17_graph 332 = .ok (.aaload, 1) := by decide +kernel
theorem dr_cX17_graph_333 : decode cX17_graph 333 = .ok (.iload 4, 2) := by decide +kernel
theorem dr_cX17_graph_335 : decode cX17_graph 335 = .ok (.laload, 1) := by decide +kernel
theorem dr_cX17_graph_336 : decode cX17_graph 336 = .ok (.lstore 5, 2) := by decide +kernel
theorem dr_cX17_graph_338 : decode cX17_graph 338 = .ok (.lload 5, 2) := by decide +kernel
theorem dr_cX17_graph_340 : decode cX17_graph 340 = .ok (.lconst 0, 1) := by decide +kernel
theorem dr_cX17_graph_341 : decode cX17_graph 341 = .ok (.lcmp, 1) := by decide +kernel
theorem dr_cX17_graph_342 : decode cX17_graph 342 = .ok (.ifCond .eq 35, 3) := by decide +kernel
theorem dr_cX17_graph_377 : decode cX17_graph 377 = .ok (.iinc 4 1, 3) := by decide +kernel
theorem dr_cX17_graph_380 : decode cX17_graph 380 = .ok (.goto (-60), 3) := by decide +kernel
theorem dr_cX17_graph_345 : decode cX17_graph 345 = .ok (.aload_n 0, 1) := by decide +kernel
theorem dr_cX17_graph_346 : decode cX17_graph 346 = .ok (.getfield 135, 3) := by decide +kernel
theorem dr_cX17_graph_349 : decode cX17_graph 349 = .ok (.bipush 64, 2) := by decide +kernel
theorem dr_cX17_graph_351 : decode cX17_graph 351 = .ok (.iload 4, 2) := by decide +kernel
theorem dr_cX17_graph_353 : decode cX17_graph 353 = .ok (.imul, 1) := by decide +kernel
theorem dr_cX17_graph_354 : decode cX17_graph 354 = .ok (.lload 5, 2) := by decide +kernel
theorem dr_cX17_graph_356 : decode cX17_graph 356 = .ok (.invokestatic 149, 3) := by decide +kernel
theorem wr_11_1 : (Jvm.Cond.methodLink "SpillForgeModel" (149 : Nat) ({ cls := "java/lang/Long", name := "numberOfTrailingZeros", desc := "(J)I" } : Jvm.MethodName)) ∈ gw := gw_11 1 rfl rfl
theorem wr_11_3 : (Jvm.Cond.code ({ cls := "java/lang/Long", name := "numberOfTrailingZeros", desc := "(J)I" } : Jvm.MethodName) prog_31_method_49_code (3 : Nat) (Option.some Jvm.ClassFile.FieldType.int)) ∈ gw := gw_11 3 rfl rfl
theorem wr_11_2 : (Jvm.Cond.static ({ cls := "java/lang/Long", name := "numberOfTrailingZeros", desc := "(J)I" } : Jvm.MethodName)) ∈ gw := gw_11 2 rfl rfl
theorem dr_cX17_graph_359 : decode cX17_graph 359 = .ok (.iadd, 1) := by decide +kernel
theorem dr_cX17_graph_360 : decode cX17_graph 360 = .ok (.aaload, 1) := by decide +kernel
theorem dr_cX17_graph_361 : decode cX17_graph 361 = .ok (.iload_n 3, 1) := by decide +kernel
theorem dr_cX17_graph_362 : decode cX17_graph 362 = .ok (.invokestatic 67, 3) := by decide +kernel
theorem dr_cX17_graph_365 : decode cX17_graph 365 = .ok (.lload 5, 2) := by decide +kernel
theorem dr_cX17_graph_367 : decode cX17_graph 367 = .ok (.lload 5, 2) := by decide +kernel
theorem dr_cX17_graph_369 : decode cX17_graph 369 = .ok (.lconst 1, 1) := by decide +kernel
theorem dr_cX17_graph_370 : decode cX17_graph 370 = .ok (.lsub, 1) := by decide +kernel
theorem dr_cX17_graph_371 : decode cX17_graph 371 = .ok (.land, 1) := by decide +kernel
theorem dr_cX17_graph_372 : decode cX17_graph 372 = .ok (.lstore 5, 2) := by decide +kernel
theorem dr_cX17_graph_374 : decode cX17_graph 374 = .ok (.goto (-36), 3) := by decide +kernel
theorem dr_cX17_graph_314 : decode cX17_graph 314 = .ok (.goto 69, 3) := by decide +kernel
theorem dr_cX17_graph_64 : decode cX17_graph 64 = .ok (.aload_n 1, 1) := by decide +kernel
theorem dr_cX17_graph_65 : decode cX17_graph 65 = .ok (.iload_n 3, 1) := by decide +kernel
theorem dr_cX17_graph_66 : decode cX17_graph 66 = .ok (.invokevirtual 101, 3) := by decide +kernel
theorem dr_cX17_graph_69 : decode cX17_graph 69 = .ok (.astore 4, 2) := by decide +kernel
theorem dr_cX17_graph_71 : decode cX17_graph 71 = .ok (.aload_n 0, 1) := by decide +kernel
theorem dr_cX17_graph_72 : decode cX17_graph 72 = .ok (.aload 4, 2) := by decide +kernel
theorem dr_cX17_graph_74 : decode cX17_graph 74 = .ok (.invokevirtual 105, 3) := by decide +kernel
theorem dr_cX17_graph_77 : decode cX17_graph 77 = .ok (.aload_n 0, 1) := by decide +kernel
theorem dr_cX17_graph_78 : decode cX17_graph 78 = .ok (.aload 4, 2) := by decide +kernel
theorem dr_cX17_graph_80 : decode cX17_graph 80 = .ok (.getfield 109, 3) := by decide +kernel
theorem dr_cX17_graph_83 : decode cX17_graph 83 = .ok (.iload_n 2, 1) := by decide +kernel
theorem dr_cX17_graph_84 : decode cX17_graph 84 = .ok (.invokevirtual 138, 3) := by decide +kernel
theorem wr_10_237 : (Jvm.Cond.methodLink "SpillForgeModel" (138 : Nat) ({ cls := "SpillForgeModel", name := "stand", desc := "(LSpillForgeModel$Row;Z)V" } : Jvm.MethodName)) ∈ gw := gw_10 237 rfl rfl
theorem wr_11_0 : (Jvm.Cond.code ({ cls := "SpillForgeModel", name := "stand", desc := "(LSpillForgeModel$Row;Z)V" } : Jvm.MethodName) prog_14_method_11_code (4 : Nat) (Option.none : Option Jvm.ClassFile.FieldType)) ∈ gw := gw_11 0 rfl rfl
theorem wr_10_239 : (Jvm.Cond.instanceMethod ({ cls := "SpillForgeModel", name := "stand", desc := "(LSpillForgeModel$Row;Z)V" } : Jvm.MethodName)) ∈ gw := gw_10 239 rfl rfl
theorem wr_p_100 : Cond.selects "SpillForgeModel" ⟨"SpillForgeModel", "stand", "(LSpillForgeModel$Row;Z)V"⟩ ⟨"SpillForgeModel", "stand", "(LSpillForgeModel$Row;Z)V"⟩ ∈ gw := gw_p _ 100 rfl rfl rfl
theorem dr_cX17_graph_87 : decode cX17_graph 87 = .ok (.aload_n 0, 1) := by decide +kernel
theorem dr_cX17_graph_88 : decode cX17_graph 88 = .ok (.aload 4, 2) := by decide +kernel
theorem dr_cX17_graph_90 : decode cX17_graph 90 = .ok (.getfield 109, 3) := by decide +kernel
theorem dr_cX17_graph_93 : decode cX17_graph 93 = .ok (.iload_n 2, 1) := by decide +kernel
theorem dr_cX17_graph_94 : decode cX17_graph 94 = .ok (.invokevirtual 113, 3) := by decide +kernel
theorem dr_cX17_graph_97 : decode cX17_graph 97 = .ok (.aload 4, 2) := by decide +kernel
theorem dr_cX17_graph_99 : decode cX17_graph 99 = .ok (.getfield 117, 3) := by decide +kernel
theorem dr_cX17_graph_102 : decode cX17_graph 102 = .ok (.invokevirtual 121, 3) := by decide +kernel
theorem dr_cX17_graph_105 : decode cX17_graph 105 = .ok (.iconst 1, 1) := by decide +kernel
theorem dr_cX17_graph_106 : decode cX17_graph 106 = .ok (.isub, 1) := by decide +kernel
theorem dr_cX17_graph_107 : decode cX17_graph 107 = .ok (.istore 5, 2) := by decide +kernel
theorem dr_cX17_graph_109 : decode cX17_graph 109 = .ok (.iload 5, 2) := by decide +kernel
theorem dr_cX17_graph_111 : decode cX17_graph 111 = .ok (.ifCond .lt 179, 3) := by decide +kernel
theorem dr_cX17_graph_290 : decode cX17_graph 290 = .ok (.iinc 3 1, 3) := by decide +kernel
theorem dr_cX17_graph_293 : decode cX17_graph 293 = .ok (.goto (-237), 3) := by decide +kernel
theorem dr_cX17_graph_114 : decode cX17_graph 114 = .ok (.aload 4, 2) := by decide +kernel
theorem dr_cX17_graph_116 : decode cX17_graph 116 = .ok (.getfield 117, 3) := by decide +kernel
theorem dr_cX17_graph_119 : decode cX17_graph 119 = .ok (.iload 5, 2) := by decide +kernel
theorem dr_cX17_graph_121 : decode cX17_graph 121 = .ok (.invokevirtual 124, 3) := by decide +kernel
theorem dr_cX17_graph_124 : decode cX17_graph 124 = .ok (.checkcast 40, 3) := by decide +kernel
theorem dr_cX17_graph_127 : decode cX17_graph 127 = .ok (.astore 6, 2) := by decide +kernel
theorem dr_cX17_graph_129 : decode cX17_graph 129 = .ok (.aload_n 0, 1) := by decide +kernel
theorem dr_cX17_graph_130 : decode cX17_graph 130 = .ok (.aload 6, 2) := by decide +kernel
theorem dr_cX17_graph_132 : decode cX17_graph 132 = .ok (.iload_n 2, 1) := by decide +kernel
theorem dr_cX17_graph_133 : decode cX17_graph 133 = .ok (.invokevirtual 138, 3) := by decide +kernel
theorem dr_cX17_graph_136 : decode cX17_graph 136 = .ok (.aload 6, 2) := by decide +kernel
theorem dr_cX17_graph_138 : decode cX17_graph 138 = .ok (.iload_n 2, 1) := by decide +kernel
theorem dr_cX17_graph_139 : decode cX17_graph 139 = .ok (.invokestatic 55, 3) := by decide +kernel
theorem dr_cX17_graph_142 : decode cX17_graph 142 = .ok (.istore 7, 2) := by decide +kernel
theorem dr_cX17_graph_144 : decode cX17_graph 144 = .ok (.iload_n 2, 1) := by decide +kernel
theorem dr_cX17_graph_145 : decode cX17_graph 145 = .ok (.ifCond .ne 27, 3) := by decide +kernel
theorem dr_cX17_graph_172 : decode cX17_graph 172 = .ok (.iconst (-1), 1) := by decide +kernel
theorem dr_cX17_graph_173 : decode cX17_graph 173 = .ok (.istore 8, 2) := by decide +kernel
theorem dr_cX17_graph_175 : decode cX17_graph 175 = .ok (.iload 7, 2) := by decide +kernel
theorem dr_cX17_graph_177 : decode cX17_graph 177 = .ok (.ifCond .lt 100, 3) := by decide +kernel
theorem dr_cX17_graph_277 : decode cX17_graph 277 = .ok (.aload_n 0, 1) := by decide +kernel
theorem dr_cX17_graph_278 : decode cX17_graph 278 = .ok (.aload 6, 2) := by decide +kernel
theorem dr_cX17_graph_280 : decode cX17_graph 280 = .ok (.iload_n 2, 1) := by decide +kernel
theorem dr_cX17_graph_281 : decode cX17_graph 281 = .ok (.invokevirtual 113, 3) := by decide +kernel
theorem dr_cX17_graph_284 : decode cX17_graph 284 = .ok (.iinc 5 (-1), 3) := by decide +kernel
theorem dr_cX17_graph_287 : decode cX17_graph 287 = .ok (.goto (-178), 3) := by decide +kernel
theorem dr_cX17_graph_180 : decode cX17_graph 180 = .ok (.iload 8, 2) := by decide +kernel
theorem dr_cX17_graph_182 : decode cX17_graph 182 = .ok (.ifCond .lt 22, 3) := by decide +kernel
theorem dr_cX17_graph_204 : decode cX17_graph 204 = .ok (.iconst 0, 1) := by decide +kernel
theorem dr_cX17_graph_205 : decode cX17_graph 205 = .ok (.istore 9, 2) := by decide +kernel
theorem dr_cX17_graph_207 : decode cX17_graph 207 = .ok (.iconst 0, 1) := by decide +kernel
theorem dr_cX17_graph_208 : decode cX17_graph 208 = .ok (.istore 10, 2) := by decide +kernel
theorem dr_cX17_graph_210 : decode cX17_graph 210 = .ok (.iload 10, 2) := by decide +kernel
theorem dr_cX17_graph_212 : decode cX17_graph 212 = .ok (.bipush 32, 2) := by decide +kernel
theorem dr_cX17_graph_214 : decode cX17_graph 214 = .ok (.if_icmp .ge 29, 3) := by decide +kernel
theorem dr_cX17_graph_243 : decode cX17_graph 243 = .ok (.iload 8, 2) := by decide +kernel
theorem dr_cX17_graph_245 : decode cX17_graph 245 = .ok (.ifCond .lt 20, 3) := by decide +kernel
theorem dr_cX17_graph_265 : decode cX17_graph 265 = .ok (.aload_n 0, 1) := by decide +kernel
theorem dr_cX17_graph_266 : decode cX17_graph 266 = .ok (.getfield 135, 3) := by decide +kernel
theorem dr_cX17_graph_269 : decode cX17_graph 269 = .ok (.iload 7, 2) := by decide +kernel
theorem dr_cX17_graph_271 : decode cX17_graph 271 = .ok (.aaload, 1) := by decide +kernel
theorem dr_cX17_graph_272 : decode cX17_graph 272 = .ok (.iload 7, 2) := by decide +kernel
theorem dr_cX17_graph_274 : decode cX17_graph 274 = .ok (.invokestatic 63, 3) := by decide +kernel
theorem dr_cX17_graph_217 : decode cX17_graph 217 = .ok (.aload_n 0, 1) := by decide +kernel
theorem dr_cX17_graph_218 : decode cX17_graph 218 = .ok (.getfield 135, 3) := by decide +kernel
theorem dr_cX17_graph_221 : decode cX17_graph 221 = .ok (.iload 7, 2) := by decide +kernel
theorem dr_cX17_graph_223 : decode cX17_graph 223 = .ok (.aaload, 1) := by decide +kernel
theorem dr_cX17_graph_224 : decode cX17_graph 224 = .ok (.iload 10, 2) := by decide +kernel
theorem dr_cX17_graph_226 : decode cX17_graph 226 = .ok (.dup2, 1) := by decide +kernel
theorem dr_cX17_graph_227 : decode cX17_graph 227 = .ok (.laload, 1) := by decide +kernel
theorem dr_cX17_graph_228 : decode cX17_graph 228 = .ok (.aload_n 0, 1) := by decide +kernel
theorem dr_cX17_graph_229 : decode cX17_graph 229 = .ok (.getfield 59, 3) := by decide +kernel
theorem dr_cX17_graph_232 : decode cX17_graph 232 = .ok (.iload 10, 2) := by decide +kernel
theorem dr_cX17_graph_234 : decode cX17_graph 234 = .ok (.laload, 1) := by decide +kernel
theorem dr_cX17_graph_235 : decode cX17_graph 235 = .ok (.lor, 1) := by decide +kernel
theorem dr_cX17_graph_236 : decode cX17_graph 236 = .ok (.lastore, 1) := by decide +kernel
theorem dr_cX17_graph_237 : decode cX17_graph 237 = .ok (.iinc 10 1, 3) := by decide +kernel
theorem dr_cX17_graph_240 : decode cX17_graph 240 = .ok (.goto (-30), 3) := by decide +kernel
theorem dr_cX17_graph_148 : decode cX17_graph 148 = .ok (.aload 6, 2) := by decide +kernel
theorem dr_cX17_graph_150 : decode cX17_graph 150 = .ok (.getfield 39, 3) := by decide +kernel
theorem dr_cX17_graph_153 : decode cX17_graph 153 = .ok (.ifCond .ne 19, 3) := by decide +kernel
theorem dr_cX17_graph_156 : decode cX17_graph 156 = .ok (.aload 6, 2) := by decide +kernel
theorem dr_cX17_graph_158 : decode cX17_graph 158 = .ok (.getfield 141, 3) := by decide +kernel
theorem dr_cX17_graph_161 : decode cX17_graph 161 = .ok (.ifCond .eq 11, 3) := by decide +kernel
theorem dr_cX17_graph_164 : decode cX17_graph 164 = .ok (.aload 6, 2) := by decide +kernel
theorem dr_cX17_graph_166 : decode cX17_graph 166 = .ok (.getfield 73, 3) := by decide +kernel
theorem dr_cX17_graph_169 : decode cX17_graph 169 = .ok (.goto 4, 3) := by decide +kernel
theorem dr_cX17_graph_185 : decode cX17_graph 185 = .ok (.aload_n 0, 1) := by decide +kernel
theorem dr_cX17_graph_186 : decode cX17_graph 186 = .ok (.getfield 135, 3) := by decide +kernel
theorem dr_cX17_graph_189 : decode cX17_graph 189 = .ok (.iload 7, 2) := by decide +kernel
theorem dr_cX17_graph_191 : decode cX17_graph 191 = .ok (.aaload, 1) := by decide +kernel
theorem dr_cX17_graph_192 : decode cX17_graph 192 = .ok (.iload 8, 2) := by decide +kernel
theorem dr_cX17_graph_194 : decode cX17_graph 194 = .ok (.invokestatic 145, 3) := by decide +kernel
theorem dr_cX17_graph_197 : decode cX17_graph 197 = .ok (.ifCond .eq 7, 3) := by decide +kernel
theorem dr_cX17_graph_248 : decode cX17_graph 248 = .ok (.iload 9, 2) := by decide +kernel
theorem dr_cX17_graph_250 : decode cX17_graph 250 = .ok (.ifCond .ne 15, 3) := by decide +kernel
theorem dr_cX17_graph_253 : decode cX17_graph 253 = .ok (.aload_n 0, 1) := by decide +kernel
theorem dr_cX17_graph_254 : decode cX17_graph 254 = .ok (.getfield 135, 3) := by decide +kernel
theorem dr_cX17_graph_257 : decode cX17_graph 257 = .ok (.iload 7, 2) := by decide +kernel
theorem dr_cX17_graph_259 : decode cX17_graph 259 = .ok (.aaload, 1) := by decide +kernel
theorem dr_cX17_graph_260 : decode cX17_graph 260 = .ok (.iload 8, 2) := by decide +kernel
theorem dr_cX17_graph_262 : decode cX17_graph 262 = .ok (.invokestatic 63, 3) := by decide +kernel
theorem dr_cX17_graph_200 : decode cX17_graph 200 = .ok (.iconst 1, 1) := by decide +kernel
theorem dr_cX17_graph_201 : decode cX17_graph 201 = .ok (.goto 4, 3) := by decide +kernel
theorem dr_cX17_graph_15 : decode cX17_graph 15 = .ok (.aload_n 0, 1) := by decide +kernel
theorem dr_cX17_graph_16 : decode cX17_graph 16 = .ok (.getfield 131, 3) := by decide +kernel
theorem dr_cX17_graph_19 : decode cX17_graph 19 = .ok (.iload_n 3, 1) := by decide +kernel
theorem dr_cX17_graph_20 : decode cX17_graph 20 = .ok (.iconst 0, 1) := by decide +kernel
theorem dr_cX17_graph_21 : decode cX17_graph 21 = .ok (.bastore, 1) := by decide +kernel
theorem dr_cX17_graph_22 : decode cX17_graph 22 = .ok (.iconst 0, 1) := by decide +kernel
theorem dr_cX17_graph_23 : decode cX17_graph 23 = .ok (.istore 4, 2) := by decide +kernel
theorem dr_cX17_graph_25 : decode cX17_graph 25 = .ok (.iload 4, 2) := by decide +kernel
theorem dr_cX17_graph_27 : decode cX17_graph 27 = .ok (.bipush 32, 2) := by decide +kernel
theorem dr_cX17_graph_29 : decode cX17_graph 29 = .ok (.if_icmp .ge 19, 3) := by decide +kernel
theorem dr_cX17_graph_48 : decode cX17_graph 48 = .ok (.iinc 3 1, 3) := by decide +kernel
theorem dr_cX17_graph_51 : decode cX17_graph 51 = .ok (.goto (-43), 3) := by decide +kernel
theorem dr_cX17_graph_32 : decode cX17_graph 32 = .ok (.aload_n 0, 1) := by decide +kernel
theorem dr_cX17_graph_33 : decode cX17_graph 33 = .ok (.getfield 135, 3) := by decide +kernel
theorem dr_cX17_graph_36 : decode cX17_graph 36 = .ok (.iload_n 3, 1) := by decide +kernel
theorem dr_cX17_graph_37 : decode cX17_graph 37 = .ok (.aaload, 1) := by decide +kernel
theorem dr_cX17_graph_38 : decode cX17_graph 38 = .ok (.iload 4, 2) := by decide +kernel
theorem dr_cX17_graph_40 : decode cX17_graph 40 = .ok (.lconst 0, 1) := by decide +kernel
theorem dr_cX17_graph_41 : decode cX17_graph 41 = .ok (.lastore, 1) := by decide +kernel
theorem dr_cX17_graph_42 : decode cX17_graph 42 = .ok (.iinc 4 1, 3) := by decide +kernel
theorem dr_cX17_graph_45 : decode cX17_graph 45 = .ok (.goto (-20), 3) := by decide +kernel
abbrev ky_276931_SpillForgeModel_back : gKey := (cX17_back, 4, "SpillForgeModel", none, [], "back", fun _ _ => True)
def pt_276931_SpillForgeModel_back (D : va_G) (I : FieldType → ClassId) (γ el : Nat → Nat → Nat) (P276926 : List Nat) (F276927 : Nat → va_E) (q276928 : Nat) (q276929 : Nat) (p276930 : Int32) : Option Value → va_W → Nat → Nat → Prop := fun r w dc ds => ∃ (F277389 : Nat → va_E), r = none ∧ w = va_pl P276926 F277389 ∧ RS D I P276926 F277389 γ el ∧ rStr γ [] F276927 F277389 ∧ dc ≤ 0 ∧ ds ≤ 0 ∧ (F277389 q276928 = F276927 q276928) ∧ (F277389 (γ 9 3) = F276927 (γ 9 3))
set_option maxRecDepth 100000 in
set_option maxHeartbeats 4000000 in
theorem ct_276931_SpillForgeModel_back (l : Launch) (hl0 : l.stackTraces = false) (D : va_G) (I : FieldType → ClassId) (γ el : Nat → Nat → Nat) (P276926 : List Nat) (F276927 : Nat → va_E) (q276928 : Nat) (q276929 : Nat) (p276930 : Int32) (hT : RS D I P276926 F276927 γ el) (htq276928 : rKd γ q276928 10) (htq276929 : rKd γ q276929 1) (bp276930 : gB p276930 0 1) : CtA (gV D I) l yX17_back cX17_back 4 none 2 41 0 0 [.ref q276928, .ref q276929, .int p276930] (va_pl P276926 F276927) (pt_276931_SpillForgeModel_back D I γ el P276926 F276927 q276928 q276929 p276930) gNA := by
  refine CtA_of hl0 (by decide) (Nat.le_of_ble_eq_true rfl) ?_
  refine G_aload_n 1 dr_cX17_back_0 rfl ?_
  refine G_iload_n 2 dr_cX17_back_1 rfl ?_
  have hm276932 : q276929 ∈ P276926 := RS_m hT htq276929 (by decide)
  obtain ⟨p276934, p276935, p276936, p276937, p276938, p276939, p276940, he276933, bp276934, bp276935, bp276938, bp276939, bp276940, r276941, r276942, r276943, r276944, r276945⟩ := show rk_1 γ q276929 (F276927 q276929) from RS_o hT htq276929
  have bp276936 := gB_any p276936
  have bp276937 := gB_any p276937
  refine Gw_callS (As := [.ref q276929, .int p276930]) (gV_ok D I) (cp_1778_SpillForgeModel_setOf l hl0 D I P276926 F276927 q276929 p276930 p276934 p276935 p276936 p276937 p276938 p276939 p276940 hm276932 he276933 bp276930 bp276934 bp276935 bp276938 bp276939 bp276940) dr_cX17_back_2 ⟨wr_10_178, wr_1_14, wr_10_180, by decide, rfl, (Nat.le_of_ble_eq_true rfl), (Nat.le_of_ble_eq_true rfl)⟩ wr_10_179 (show 0 + 0 ≤ 0 by first | omega | decide) (show 0 + 0 ≤ 0 by first | omega | decide) (Nat.le_of_ble_eq_true rfl) (fun r276949 w276950 dc276946 ds276947 hp276948 => ?_) (fun _ _ _ _ _ z => z.elim)
  obtain ⟨o276951, rfl, rfl, hdc, hds, bo276951⟩ := hp276948
  change G _ _ _ _ _ _ _ (.int o276951 :: _) _ _ _
  refine G_widen (cs' := 0) (sl' := 0) (by omega) (by omega) ?_
  refine G_istore_n (L' := [(3, .int o276951), (0, .ref q276928), (1, .ref q276929), (2, .int p276930)]) dr_cX17_back_5 (Nat.le_of_ble_eq_true rfl) rfl ?_
  refine G_iload_n 0 dr_cX17_back_6 rfl ?_
  refine G_if_lt 18 dr_cX17_back_7 (by decide +kernel) (fun hc276952 => ?_) (fun hc276952 => ?_)
  · have r276953 : o276951.toInt < 0 := gj_lt hc276952 (show Int32.toInt 0 = 0 by decide)
    have bo276951' : gB o276951 (-1) (-1) := ⟨by omega, by omega⟩
    refine G_iload_n 3 dr_cX17_back_18 rfl ?_
    refine G_if_eq 43 dr_cX17_back_19 (by decide +kernel) (fun hc276954 => ?_) (fun hc276954 => ?_)
    · have r276955 : p276930.toInt = 0 := gj_eq hc276954 (show Int32.toInt 0 = 0 by decide)
      have bp276930' : gB p276930 0 0 := gB_t0 r276955
      refine G_aload_n 2 dr_cX17_back_43 rfl ?_
      refine Gw_callV (As := []) (gV_ok D I) (cp_1669_Row_usesA l hl0 D I P276926 F276927 q276929 p276934 p276935 p276936 p276937 p276938 p276939 p276940 hm276932 he276933 bp276934 bp276935 bp276938 bp276939 bp276940) dr_cX17_back_44 ⟨wr_10_192, wr_1_39, wr_10_195, by decide, rfl, (Nat.le_of_ble_eq_true rfl), (Nat.le_of_ble_eq_true rfl)⟩ wr_10_193 wr_10_194 hm276932 he276933 rfl (show 0 + 0 ≤ 0 by first | omega | decide) (show 0 + 0 ≤ 0 by first | omega | decide) (Nat.le_of_ble_eq_true rfl) (fun r276959 w276960 dc276956 ds276957 hp276958 => ?_) (fun _ _ _ _ _ z => z.elim)
      obtain ⟨o276961, rfl, rfl, hdc, hds, bo276961, x276962⟩ := hp276958
      change G _ _ _ _ _ _ _ (.int o276961 :: _) _ _ _
      refine G_widen (cs' := 0) (sl' := 0) (by omega) (by omega) ?_
      refine G_if_eq 61 dr_cX17_back_47 (by decide +kernel) (fun hc276963 => ?_) (fun hc276963 => ?_)
      · have r276964 : o276961.toInt = 0 := gj_eq hc276963 (show Int32.toInt 0 = 0 by decide)
        have bo276961' : gB o276961 0 0 := gB_t0 r276964
        refine G_aload_n 2 dr_cX17_back_61 rfl ?_
        refine Gw_callV (As := []) (gV_ok D I) (cp_1693_Row_usesB l hl0 D I P276926 F276927 q276929 p276934 p276935 p276936 p276937 p276938 p276939 p276940 hm276932 he276933 bp276934 bp276935 bp276938 bp276939 bp276940) dr_cX17_back_62 ⟨wr_10_196, wr_1_39, wr_10_199, by decide, rfl, (Nat.le_of_ble_eq_true rfl), (Nat.le_of_ble_eq_true rfl)⟩ wr_10_197 wr_10_198 hm276932 he276933 rfl (show 0 + 0 ≤ 0 by first | omega | decide) (show 0 + 0 ≤ 0 by first | omega | decide) (Nat.le_of_ble_eq_true rfl) (fun r276968 w276969 dc276965 ds276966 hp276967 => ?_) (fun _ _ _ _ _ z => z.elim)
        obtain ⟨o276970, rfl, rfl, hdc, hds, bo276970, x276971⟩ := hp276967
        change G _ _ _ _ _ _ _ (.int o276970 :: _) _ _ _
        refine G_widen (cs' := 0) (sl' := 0) (by omega) (by omega) ?_
        refine G_if_eq 79 dr_cX17_back_65 (by decide +kernel) (fun hc276972 => ?_) (fun hc276972 => ?_)
        · have r276973 : o276970.toInt = 0 := gj_eq hc276972 (show Int32.toInt 0 = 0 by decide)
          have bo276970' : gB o276970 0 0 := gB_t0 r276973
          exact G_vretA dr_cX17_back_79 rfl (Nat.le_of_ble_eq_true rfl) (Nat.le_of_ble_eq_true rfl) ⟨F276927, rfl, rfl, hT, (rStr_rf (γ := γ) (W := []) (F := F276927)), (Nat.le_of_ble_eq_true rfl), (Nat.le_of_ble_eq_true rfl), rfl, rfl⟩
        · have r276974 : o276970.toInt ≠ 0 := gj_neq hc276972 (show Int32.toInt 0 = 0 by decide)
          have bo276970' : gB o276970 1 1 := gB_t1 bo276970 r276974
          refine G_aload_n 1 dr_cX17_back_68 rfl ?_
          have hm276975 : q276928 ∈ P276926 := RS_m hT htq276928 (by decide)
          refine rk10_e (show rk_10 γ (F276927 q276928) from RS_o hT htq276928) (fun q276977 q276978 p276979 p276980 p276981 p276982 p276983 p276984 p276985 p276986 p276987 p276988 p276989 p276990 p276991 p276992 p276993 he276976 hB277020 ht276994 ht276995 ht276996 ht276997 ht276998 ht276999 ht277000 ht277001 ht277002 ht277003 ht277004 ht277005 ht277006 ht277007 ht277008 ht277009 ht277010 ht277011 ht277012 ht277013 ht277014 ht277015 ht277016 ht277017 hB277021 => ?_)
          refine Gp_get 2 hm276975 he276976 dr_cX17_back_69 (gk_X17 D I) (Nat.le_of_ble_eq_true rfl) wr_7_76 rfl ?_
          refine G_aload_n 2 dr_cX17_back_72 rfl ?_
          refine Gp_get 3 hm276932 he276933 dr_cX17_back_73 (gk_X15 D I) (Nat.le_of_ble_eq_true rfl) wr_9_190 rfl ?_
          have hm277022 : (γ 9 2) ∈ P276926 := RS_m hT ht276998 (by decide)
          obtain ⟨f277024, he277023, wf277024⟩ := show rk_35 I (F276927 (γ 9 2)) from RS_o hT ht276998
          refine Gw_callS (As := [.ref (γ 9 2), .int p276937]) (gV_ok D I) (cp_1853_SpillForgeModel_set l hl0 D I P276926 F276927 (γ 9 2) p276937 f277024 hm277022 he277023 ⟨by omega, by omega⟩ wf277024) dr_cX17_back_76 ⟨wr_10_189, wr_1_14, wr_10_191, by decide, rfl, (Nat.le_of_ble_eq_true rfl), (Nat.le_of_ble_eq_true rfl)⟩ wr_10_190 (show 0 + 0 ≤ 0 by first | omega | decide) (show 0 + 0 ≤ 0 by first | omega | decide) (Nat.le_of_ble_eq_true rfl) (fun r277028 w277029 dc277025 ds277026 hp277027 => ?_) (fun _ _ _ _ _ z => z.elim)
          obtain ⟨F277032, f277030, rfl, rfl, hfr277034, he277035, hdc, hds, x277031⟩ := hp277027
          have he277036 : F277032 q276929 = .inr (20, [.int p276934, .int p276935, .int p276936, .int p276937, .int p276938, .int p276939, .int p276940]) := (hfr277034 q276929 hm276932 (nm_c (rn_oa he276933 he277023) nm_n)).trans he276933
          have he277037 : F277032 q276928 = .inr (22, [.ref (γ 9 0), .ref (γ 9 1), .ref (γ 9 2), .ref (γ 9 3), .ref (γ 9 4), .ref (γ 9 5), .ref (γ 9 6), .ref (γ 9 7), .ref (γ 9 8), .int p276979, .int p276980, .int p276981, .int p276982, .int p276983, .int p276984, .ref (γ 9 15), .ref (γ 9 16), .ref (γ 9 17), .ref (γ 9 18), .ref (γ 9 19), .ref (γ 9 20), .ref (γ 9 21), .ref (γ 9 22), .int p276985, .int p276986, .int p276987, .int p276988, .int p276989, .ref q276977, .ref (γ 9 29), .int p276990, .ref (γ 9 31), .int p276991, .int p276992, .int p276993, .ref q276978]) := (hfr277034 q276928 hm276975 (nm_c (rn_oa he276976 he277023) nm_n)).trans he276976
          have hfr277038 : rFr [(γ 9 2)] P276926 F276927 F277032 := rFr_call (rSub_rf (P := P276926)) (rFr_rf (W := []) (P := P276926) (F := F276927)) hfr277034 (fun b hb hn => ⟨nm_n, (nm_c (fun e => hn (e ▸ List.mem_cons_self)) nm_n)⟩)
          change G _ _ _ _ _ _ _ _ _ _ _
          refine G_widen (cs' := 0) (sl' := 0) (by omega) (by omega) ?_
          have hT277039 : RS D I P276926 F277032 γ el := RS_fr hT hfr277038 ht276998 (by decide) ⟨f277030, he277035, x277031⟩
          have hs277040 : rStr γ [] F276927 F277032 := rStr_fr hT (rStr_rf (γ := γ) (W := []) (F := F276927)) hfr277038 ht276998 (by decide)
          have kp277041 : F277032 q276928 = F276927 q276928 := hfr277038 q276928 (RS_m hT htq276928 (by decide)) (nm_c (rn_ty htq276928 ht276998 (by decide)) nm_n)
          have kp277042 : F277032 (γ 9 3) = F276927 (γ 9 3) := hfr277038 (γ 9 3) (RS_m hT ht276999 (by decide)) (nm_c (rn_ty ht276999 ht276998 (by decide)) nm_n)
          exact G_vretA dr_cX17_back_79 rfl (Nat.le_of_ble_eq_true rfl) (Nat.le_of_ble_eq_true rfl) ⟨F277032, rfl, rfl, hT277039, hs277040, (Nat.le_of_ble_eq_true rfl), (Nat.le_of_ble_eq_true rfl), kp277041, kp277042⟩
      · have r277043 : o276961.toInt ≠ 0 := gj_neq hc276963 (show Int32.toInt 0 = 0 by decide)
        have bo276961' : gB o276961 1 1 := gB_t1 bo276961 r277043
        refine G_aload_n 1 dr_cX17_back_50 rfl ?_
        have hm277044 : q276928 ∈ P276926 := RS_m hT htq276928 (by decide)
        refine rk10_e (show rk_10 γ (F276927 q276928) from RS_o hT htq276928) (fun q277046 q277047 p277048 p277049 p277050 p277051 p277052 p277053 p277054 p277055 p277056 p277057 p277058 p277059 p277060 p277061 p277062 he277045 hB277089 ht277063 ht277064 ht277065 ht277066 ht277067 ht277068 ht277069 ht277070 ht277071 ht277072 ht277073 ht277074 ht277075 ht277076 ht277077 ht277078 ht277079 ht277080 ht277081 ht277082 ht277083 ht277084 ht277085 ht277086 hB277090 => ?_)
        refine Gp_get 2 hm277044 he277045 dr_cX17_back_51 (gk_X17 D I) (Nat.le_of_ble_eq_true rfl) wr_7_76 rfl ?_
        refine G_aload_n 2 dr_cX17_back_54 rfl ?_
        refine Gp_get 2 hm276932 he276933 dr_cX17_back_55 (gk_X15 D I) (Nat.le_of_ble_eq_true rfl) wr_9_186 rfl ?_
        have hm277091 : (γ 9 2) ∈ P276926 := RS_m hT ht277067 (by decide)
        obtain ⟨f277093, he277092, wf277093⟩ := show rk_35 I (F276927 (γ 9 2)) from RS_o hT ht277067
        refine Gw_callS (As := [.ref (γ 9 2), .int p276936]) (gV_ok D I) (cp_1853_SpillForgeModel_set l hl0 D I P276926 F276927 (γ 9 2) p276936 f277093 hm277091 he277092 ⟨by omega, by omega⟩ wf277093) dr_cX17_back_58 ⟨wr_10_189, wr_1_14, wr_10_191, by decide, rfl, (Nat.le_of_ble_eq_true rfl), (Nat.le_of_ble_eq_true rfl)⟩ wr_10_190 (show 0 + 0 ≤ 0 by first | omega | decide) (show 0 + 0 ≤ 0 by first | omega | decide) (Nat.le_of_ble_eq_true rfl) (fun r277097 w277098 dc277094 ds277095 hp277096 => ?_) (fun _ _ _ _ _ z => z.elim)
        obtain ⟨F277101, f277099, rfl, rfl, hfr277103, he277104, hdc, hds, x277100⟩ := hp277096
        have he277105 : F277101 q276929 = .inr (20, [.int p276934, .int p276935, .int p276936, .int p276937, .int p276938, .int p276939, .int p276940]) := (hfr277103 q276929 hm276932 (nm_c (rn_oa he276933 he277092) nm_n)).trans he276933
        have he277106 : F277101 q276928 = .inr (22, [.ref (γ 9 0), .ref (γ 9 1), .ref (γ 9 2), .ref (γ 9 3), .ref (γ 9 4), .ref (γ 9 5), .ref (γ 9 6), .ref (γ 9 7), .ref (γ 9 8), .int p277048, .int p277049, .int p277050, .int p277051, .int p277052, .int p277053, .ref (γ 9 15), .ref (γ 9 16), .ref (γ 9 17), .ref (γ 9 18), .ref (γ 9 19), .ref (γ 9 20), .ref (γ 9 21), .ref (γ 9 22), .int p277054, .int p277055, .int p277056, .int p277057, .int p277058, .ref q277046, .ref (γ 9 29), .int p277059, .ref (γ 9 31), .int p277060, .int p277061, .int p277062, .ref q277047]) := (hfr277103 q276928 hm277044 (nm_c (rn_oa he277045 he277092) nm_n)).trans he277045
        have hfr277107 : rFr [(γ 9 2)] P276926 F276927 F277101 := rFr_call (rSub_rf (P := P276926)) (rFr_rf (W := []) (P := P276926) (F := F276927)) hfr277103 (fun b hb hn => ⟨nm_n, (nm_c (fun e => hn (e ▸ List.mem_cons_self)) nm_n)⟩)
        change G _ _ _ _ _ _ _ _ _ _ _
        refine G_widen (cs' := 0) (sl' := 0) (by omega) (by omega) ?_
        have hT277108 : RS D I P276926 F277101 γ el := RS_fr hT hfr277107 ht277067 (by decide) ⟨f277099, he277104, x277100⟩
        have hs277109 : rStr γ [] F276927 F277101 := rStr_fr hT (rStr_rf (γ := γ) (W := []) (F := F276927)) hfr277107 ht277067 (by decide)
        have kp277110 : F277101 q276928 = F276927 q276928 := hfr277107 q276928 (RS_m hT htq276928 (by decide)) (nm_c (rn_ty htq276928 ht277067 (by decide)) nm_n)
        have kp277111 : F277101 (γ 9 3) = F276927 (γ 9 3) := hfr277107 (γ 9 3) (RS_m hT ht277068 (by decide)) (nm_c (rn_ty ht277068 ht277067 (by decide)) nm_n)
        refine G_aload_n 2 dr_cX17_back_61 rfl ?_
        refine Gw_callV (As := []) (gV_ok D I) (cp_1693_Row_usesB l hl0 D I P276926 F277101 q276929 p276934 p276935 p276936 p276937 p276938 p276939 p276940 hm276932 he277105 bp276934 bp276935 bp276938 bp276939 bp276940) dr_cX17_back_62 ⟨wr_10_196, wr_1_39, wr_10_199, by decide, rfl, (Nat.le_of_ble_eq_true rfl), (Nat.le_of_ble_eq_true rfl)⟩ wr_10_197 wr_10_198 hm276932 he277105 rfl (show 0 + 0 ≤ 0 by first | omega | decide) (show 0 + 0 ≤ 0 by first | omega | decide) (Nat.le_of_ble_eq_true rfl) (fun r277115 w277116 dc277112 ds277113 hp277114 => ?_) (fun _ _ _ _ _ z => z.elim)
        obtain ⟨o277117, rfl, rfl, hdc, hds, bo277117, x277118⟩ := hp277114
        change G _ _ _ _ _ _ _ (.int o277117 :: _) _ _ _
        refine G_widen (cs' := 0) (sl' := 0) (by omega) (by omega) ?_
        refine G_if_eq 79 dr_cX17_back_65 (by decide +kernel) (fun hc277119 => ?_) (fun hc277119 => ?_)
        · have r277120 : o277117.toInt = 0 := gj_eq hc277119 (show Int32.toInt 0 = 0 by decide)
          have bo277117' : gB o277117 0 0 := gB_t0 r277120
          exact G_vretA dr_cX17_back_79 rfl (Nat.le_of_ble_eq_true rfl) (Nat.le_of_ble_eq_true rfl) ⟨F277101, rfl, rfl, hT277108, hs277109, (Nat.le_of_ble_eq_true rfl), (Nat.le_of_ble_eq_true rfl), kp277110, kp277111⟩
        · have r277121 : o277117.toInt ≠ 0 := gj_neq hc277119 (show Int32.toInt 0 = 0 by decide)
          have bo277117' : gB o277117 1 1 := gB_t1 bo277117 r277121
          refine G_aload_n 1 dr_cX17_back_68 rfl ?_
          refine Gp_get 2 hm277044 he277106 dr_cX17_back_69 (gk_X17 D I) (Nat.le_of_ble_eq_true rfl) wr_7_76 rfl ?_
          refine G_aload_n 2 dr_cX17_back_72 rfl ?_
          refine Gp_get 3 hm276932 he277105 dr_cX17_back_73 (gk_X15 D I) (Nat.le_of_ble_eq_true rfl) wr_9_190 rfl ?_
          refine Gw_callS (As := [.ref (γ 9 2), .int p276937]) (gV_ok D I) (cp_1853_SpillForgeModel_set l hl0 D I P276926 F277101 (γ 9 2) p276937 f277099 hm277091 he277104 ⟨by omega, by omega⟩ x277100) dr_cX17_back_76 ⟨wr_10_189, wr_1_14, wr_10_191, by decide, rfl, (Nat.le_of_ble_eq_true rfl), (Nat.le_of_ble_eq_true rfl)⟩ wr_10_190 (show 0 + 0 ≤ 0 by first | omega | decide) (show 0 + 0 ≤ 0 by first | omega | decide) (Nat.le_of_ble_eq_true rfl) (fun r277125 w277126 dc277122 ds277123 hp277124 => ?_) (fun _ _ _ _ _ z => z.elim)
          obtain ⟨F277129, f277127, rfl, rfl, hfr277131, he277132, hdc, hds, x277128⟩ := hp277124
          have he277133 : F277129 q276929 = .inr (20, [.int p276934, .int p276935, .int p276936, .int p276937, .int p276938, .int p276939, .int p276940]) := (hfr277131 q276929 hm276932 (nm_c (rn_oa he277105 he277104) nm_n)).trans he277105
          have he277134 : F277129 q276928 = .inr (22, [.ref (γ 9 0), .ref (γ 9 1), .ref (γ 9 2), .ref (γ 9 3), .ref (γ 9 4), .ref (γ 9 5), .ref (γ 9 6), .ref (γ 9 7), .ref (γ 9 8), .int p277048, .int p277049, .int p277050, .int p277051, .int p277052, .int p277053, .ref (γ 9 15), .ref (γ 9 16), .ref (γ 9 17), .ref (γ 9 18), .ref (γ 9 19), .ref (γ 9 20), .ref (γ 9 21), .ref (γ 9 22), .int p277054, .int p277055, .int p277056, .int p277057, .int p277058, .ref q277046, .ref (γ 9 29), .int p277059, .ref (γ 9 31), .int p277060, .int p277061, .int p277062, .ref q277047]) := (hfr277131 q276928 hm277044 (nm_c (rn_oa he277106 he277104) nm_n)).trans he277106
          have hfr277135 : rFr [(γ 9 2)] P276926 F277101 F277129 := rFr_call (rSub_rf (P := P276926)) (rFr_rf (W := []) (P := P276926) (F := F277101)) hfr277131 (fun b hb hn => ⟨nm_n, (nm_c (fun e => hn (e ▸ List.mem_cons_self)) nm_n)⟩)
          change G _ _ _ _ _ _ _ _ _ _ _
          refine G_widen (cs' := 0) (sl' := 0) (by omega) (by omega) ?_
          have hT277136 : RS D I P276926 F277129 γ el := RS_fr hT277108 hfr277135 ht277067 (by decide) ⟨f277127, he277132, x277128⟩
          have hs277137 : rStr γ [] F276927 F277129 := rStr_fr hT277108 hs277109 hfr277135 ht277067 (by decide)
          have kp277138 : F277129 q276928 = F276927 q276928 := (hfr277135 q276928 (RS_m hT277108 htq276928 (by decide)) (nm_c (rn_ty htq276928 ht277067 (by decide)) nm_n)).trans kp277110
          have kp277139 : F277129 (γ 9 3) = F276927 (γ 9 3) := (hfr277135 (γ 9 3) (RS_m hT277108 ht277068 (by decide)) (nm_c (rn_ty ht277068 ht277067 (by decide)) nm_n)).trans kp277111
          exact G_vretA dr_cX17_back_79 rfl (Nat.le_of_ble_eq_true rfl) (Nat.le_of_ble_eq_true rfl) ⟨F277129, rfl, rfl, hT277136, hs277137, (Nat.le_of_ble_eq_true rfl), (Nat.le_of_ble_eq_true rfl), kp277138, kp277139⟩
    · have r277140 : p276930.toInt ≠ 0 := gj_neq hc276954 (show Int32.toInt 0 = 0 by decide)
      have bp276930' : gB p276930 1 1 := gB_t1 bp276930 r277140
      refine G_aload_n 2 dr_cX17_back_22 rfl ?_
      refine Gp_get 0 hm276932 he276933 dr_cX17_back_23 (gk_X15 D I) (Nat.le_of_ble_eq_true rfl) wr_9_177 rfl ?_
      refine G_bipush 21 dr_cX17_back_26 (by decide +kernel) ?_
      refine G_icmp_ne 42 dr_cX17_back_28 (by decide +kernel) (fun hc277141 => ?_) (fun hc277141 => ?_)
      · have r277142 : p276934.toInt ≠ 21 := gj_neq hc277141 (show Int32.toInt 21 = 21 by decide)
        exact G_vretA dr_cX17_back_42 rfl (Nat.le_of_ble_eq_true rfl) (Nat.le_of_ble_eq_true rfl) ⟨F276927, rfl, rfl, hT, (rStr_rf (γ := γ) (W := []) (F := F276927)), (Nat.le_of_ble_eq_true rfl), (Nat.le_of_ble_eq_true rfl), rfl, rfl⟩
      · have r277143 : p276934.toInt = 21 := gj_eq hc277141 (show Int32.toInt 21 = 21 by decide)
        have bp276934' : gB p276934 21 21 := ⟨by omega, by omega⟩
        refine G_aload_n 1 dr_cX17_back_31 rfl ?_
        have hm277144 : q276928 ∈ P276926 := RS_m hT htq276928 (by decide)
        refine rk10_e (show rk_10 γ (F276927 q276928) from RS_o hT htq276928) (fun q277146 q277147 p277148 p277149 p277150 p277151 p277152 p277153 p277154 p277155 p277156 p277157 p277158 p277159 p277160 p277161 p277162 he277145 hB277189 ht277163 ht277164 ht277165 ht277166 ht277167 ht277168 ht277169 ht277170 ht277171 ht277172 ht277173 ht277174 ht277175 ht277176 ht277177 ht277178 ht277179 ht277180 ht277181 ht277182 ht277183 ht277184 ht277185 ht277186 hB277190 => ?_)
        refine Gp_get 2 hm277144 he277145 dr_cX17_back_32 (gk_X17 D I) (Nat.le_of_ble_eq_true rfl) wr_7_76 rfl ?_
        refine G_aload_n 2 dr_cX17_back_35 rfl ?_
        refine Gp_get 4 hm276932 he276933 dr_cX17_back_36 (gk_X15 D I) (Nat.le_of_ble_eq_true rfl) wr_9_193 rfl ?_
        have hm277191 : (γ 9 2) ∈ P276926 := RS_m hT ht277167 (by decide)
        obtain ⟨f277193, he277192, wf277193⟩ := show rk_35 I (F276927 (γ 9 2)) from RS_o hT ht277167
        refine Gw_callS (As := [.ref (γ 9 2), .int p276938]) (gV_ok D I) (cp_1853_SpillForgeModel_set l hl0 D I P276926 F276927 (γ 9 2) p276938 f277193 hm277191 he277192 bp276938 wf277193) dr_cX17_back_39 ⟨wr_10_189, wr_1_14, wr_10_191, by decide, rfl, (Nat.le_of_ble_eq_true rfl), (Nat.le_of_ble_eq_true rfl)⟩ wr_10_190 (show 0 + 0 ≤ 0 by first | omega | decide) (show 0 + 0 ≤ 0 by first | omega | decide) (Nat.le_of_ble_eq_true rfl) (fun r277197 w277198 dc277194 ds277195 hp277196 => ?_) (fun _ _ _ _ _ z => z.elim)
        obtain ⟨F277201, f277199, rfl, rfl, hfr277203, he277204, hdc, hds, x277200⟩ := hp277196
        have he277205 : F277201 q276929 = .inr (20, [.int p276934, .int p276935, .int p276936, .int p276937, .int p276938, .int p276939, .int p276940]) := (hfr277203 q276929 hm276932 (nm_c (rn_oa he276933 he277192) nm_n)).trans he276933
        have he277206 : F277201 q276928 = .inr (22, [.ref (γ 9 0), .ref (γ 9 1), .ref (γ 9 2), .ref (γ 9 3), .ref (γ 9 4), .ref (γ 9 5), .ref (γ 9 6), .ref (γ 9 7), .ref (γ 9 8), .int p277148, .int p277149, .int p277150, .int p277151, .int p277152, .int p277153, .ref (γ 9 15), .ref (γ 9 16), .ref (γ 9 17), .ref (γ 9 18), .ref (γ 9 19), .ref (γ 9 20), .ref (γ 9 21), .ref (γ 9 22), .int p277154, .int p277155, .int p277156, .int p277157, .int p277158, .ref q277146, .ref (γ 9 29), .int p277159, .ref (γ 9 31), .int p277160, .int p277161, .int p277162, .ref q277147]) := (hfr277203 q276928 hm277144 (nm_c (rn_oa he277145 he277192) nm_n)).trans he277145
        have hfr277207 : rFr [(γ 9 2)] P276926 F276927 F277201 := rFr_call (rSub_rf (P := P276926)) (rFr_rf (W := []) (P := P276926) (F := F276927)) hfr277203 (fun b hb hn => ⟨nm_n, (nm_c (fun e => hn (e ▸ List.mem_cons_self)) nm_n)⟩)
        change G _ _ _ _ _ _ _ _ _ _ _
        refine G_widen (cs' := 0) (sl' := 0) (by omega) (by omega) ?_
        have hT277208 : RS D I P276926 F277201 γ el := RS_fr hT hfr277207 ht277167 (by decide) ⟨f277199, he277204, x277200⟩
        have hs277209 : rStr γ [] F276927 F277201 := rStr_fr hT (rStr_rf (γ := γ) (W := []) (F := F276927)) hfr277207 ht277167 (by decide)
        have kp277210 : F277201 q276928 = F276927 q276928 := hfr277207 q276928 (RS_m hT htq276928 (by decide)) (nm_c (rn_ty htq276928 ht277167 (by decide)) nm_n)
        have kp277211 : F277201 (γ 9 3) = F276927 (γ 9 3) := hfr277207 (γ 9 3) (RS_m hT ht277168 (by decide)) (nm_c (rn_ty ht277168 ht277167 (by decide)) nm_n)
        exact G_vretA dr_cX17_back_42 rfl (Nat.le_of_ble_eq_true rfl) (Nat.le_of_ble_eq_true rfl) ⟨F277201, rfl, rfl, hT277208, hs277209, (Nat.le_of_ble_eq_true rfl), (Nat.le_of_ble_eq_true rfl), kp277210, kp277211⟩
  · have r277212 : 0 ≤ o276951.toInt := gj_nlt hc276952 (show Int32.toInt 0 = 0 by decide)
    have bo276951' : gB o276951 0 1999 := ⟨by omega, by omega⟩
    refine G_aload_n 1 dr_cX17_back_10 rfl ?_
    have hm277213 : q276928 ∈ P276926 := RS_m hT htq276928 (by decide)
    refine rk10_e (show rk_10 γ (F276927 q276928) from RS_o hT htq276928) (fun q277215 q277216 p277217 p277218 p277219 p277220 p277221 p277222 p277223 p277224 p277225 p277226 p277227 p277228 p277229 p277230 p277231 he277214 hB277258 ht277232 ht277233 ht277234 ht277235 ht277236 ht277237 ht277238 ht277239 ht277240 ht277241 ht277242 ht277243 ht277244 ht277245 ht277246 ht277247 ht277248 ht277249 ht277250 ht277251 ht277252 ht277253 ht277254 ht277255 hB277259 => ?_)
    refine Gp_get 2 hm277213 he277214 dr_cX17_back_11 (gk_X17 D I) (Nat.le_of_ble_eq_true rfl) wr_7_76 rfl ?_
    refine G_iload_n 0 dr_cX17_back_14 rfl ?_
    have hm277260 : (γ 9 2) ∈ P276926 := RS_m hT ht277236 (by decide)
    obtain ⟨f277262, he277261, wf277262⟩ := show rk_35 I (F276927 (γ 9 2)) from RS_o hT ht277236
    refine Gw_callS (As := [.ref (γ 9 2), .int o276951]) (gV_ok D I) (cp_1873_SpillForgeModel_clear l hl0 D I P276926 F276927 (γ 9 2) o276951 f277262 hm277260 he277261 bo276951' wf277262) dr_cX17_back_15 ⟨wr_10_185, wr_1_14, wr_10_187, by decide, rfl, (Nat.le_of_ble_eq_true rfl), (Nat.le_of_ble_eq_true rfl)⟩ wr_10_186 (show 0 + 0 ≤ 0 by first | omega | decide) (show 0 + 0 ≤ 0 by first | omega | decide) (Nat.le_of_ble_eq_true rfl) (fun r277266 w277267 dc277263 ds277264 hp277265 => ?_) (fun _ _ _ _ _ z => z.elim)
    obtain ⟨F277270, f277268, rfl, rfl, hfr277272, he277273, hdc, hds, x277269⟩ := hp277265
    have he277274 : F277270 q276929 = .inr (20, [.int p276934, .int p276935, .int p276936, .int p276937, .int p276938, .int p276939, .int p276940]) := (hfr277272 q276929 hm276932 (nm_c (rn_oa he276933 he277261) nm_n)).trans he276933
    have he277275 : F277270 q276928 = .inr (22, [.ref (γ 9 0), .ref (γ 9 1), .ref (γ 9 2), .ref (γ 9 3), .ref (γ 9 4), .ref (γ 9 5), .ref (γ 9 6), .ref (γ 9 7), .ref (γ 9 8), .int p277217, .int p277218, .int p277219, .int p277220, .int p277221, .int p277222, .ref (γ 9 15), .ref (γ 9 16), .ref (γ 9 17), .ref (γ 9 18), .ref (γ 9 19), .ref (γ 9 20), .ref (γ 9 21), .ref (γ 9 22), .int p277223, .int p277224, .int p277225, .int p277226, .int p277227, .ref q277215, .ref (γ 9 29), .int p277228, .ref (γ 9 31), .int p277229, .int p277230, .int p277231, .ref q277216]) := (hfr277272 q276928 hm277213 (nm_c (rn_oa he277214 he277261) nm_n)).trans he277214
    have hfr277276 : rFr [(γ 9 2)] P276926 F276927 F277270 := rFr_call (rSub_rf (P := P276926)) (rFr_rf (W := []) (P := P276926) (F := F276927)) hfr277272 (fun b hb hn => ⟨nm_n, (nm_c (fun e => hn (e ▸ List.mem_cons_self)) nm_n)⟩)
    change G _ _ _ _ _ _ _ _ _ _ _
    refine G_widen (cs' := 0) (sl' := 0) (by omega) (by omega) ?_
    have hT277277 : RS D I P276926 F277270 γ el := RS_fr hT hfr277276 ht277236 (by decide) ⟨f277268, he277273, x277269⟩
    have hs277278 : rStr γ [] F276927 F277270 := rStr_fr hT (rStr_rf (γ := γ) (W := []) (F := F276927)) hfr277276 ht277236 (by decide)
    have kp277279 : F277270 q276928 = F276927 q276928 := hfr277276 q276928 (RS_m hT htq276928 (by decide)) (nm_c (rn_ty htq276928 ht277236 (by decide)) nm_n)
    have kp277280 : F277270 (γ 9 3) = F276927 (γ 9 3) := hfr277276 (γ 9 3) (RS_m hT ht277237 (by decide)) (nm_c (rn_ty ht277237 ht277236 (by decide)) nm_n)
    refine G_iload_n 3 dr_cX17_back_18 rfl ?_
    refine G_if_eq 43 dr_cX17_back_19 (by decide +kernel) (fun hc277281 => ?_) (fun hc277281 => ?_)
    · have r277282 : p276930.toInt = 0 := gj_eq hc277281 (show Int32.toInt 0 = 0 by decide)
      have bp276930' : gB p276930 0 0 := gB_t0 r277282
      refine G_aload_n 2 dr_cX17_back_43 rfl ?_
      refine Gw_callV (As := []) (gV_ok D I) (cp_1669_Row_usesA l hl0 D I P276926 F277270 q276929 p276934 p276935 p276936 p276937 p276938 p276939 p276940 hm276932 he277274 bp276934 bp276935 bp276938 bp276939 bp276940) dr_cX17_back_44 ⟨wr_10_192, wr_1_39, wr_10_195, by decide, rfl, (Nat.le_of_ble_eq_true rfl), (Nat.le_of_ble_eq_true rfl)⟩ wr_10_193 wr_10_194 hm276932 he277274 rfl (show 0 + 0 ≤ 0 by first | omega | decide) (show 0 + 0 ≤ 0 by first | omega | decide) (Nat.le_of_ble_eq_true rfl) (fun r277286 w277287 dc277283 ds277284 hp277285 => ?_) (fun _ _ _ _ _ z => z.elim)
      obtain ⟨o277288, rfl, rfl, hdc, hds, bo277288, x277289⟩ := hp277285
      change G _ _ _ _ _ _ _ (.int o277288 :: _) _ _ _
      refine G_widen (cs' := 0) (sl' := 0) (by omega) (by omega) ?_
      refine G_if_eq 61 dr_cX17_back_47 (by decide +kernel) (fun hc277290 => ?_) (fun hc277290 => ?_)
      · have r277291 : o277288.toInt = 0 := gj_eq hc277290 (show Int32.toInt 0 = 0 by decide)
        have bo277288' : gB o277288 0 0 := gB_t0 r277291
        refine G_aload_n 2 dr_cX17_back_61 rfl ?_
        refine Gw_callV (As := []) (gV_ok D I) (cp_1693_Row_usesB l hl0 D I P276926 F277270 q276929 p276934 p276935 p276936 p276937 p276938 p276939 p276940 hm276932 he277274 bp276934 bp276935 bp276938 bp276939 bp276940) dr_cX17_back_62 ⟨wr_10_196, wr_1_39, wr_10_199, by decide, rfl, (Nat.le_of_ble_eq_true rfl), (Nat.le_of_ble_eq_true rfl)⟩ wr_10_197 wr_10_198 hm276932 he277274 rfl (show 0 + 0 ≤ 0 by first | omega | decide) (show 0 + 0 ≤ 0 by first | omega | decide) (Nat.le_of_ble_eq_true rfl) (fun r277295 w277296 dc277292 ds277293 hp277294 => ?_) (fun _ _ _ _ _ z => z.elim)
        obtain ⟨o277297, rfl, rfl, hdc, hds, bo277297, x277298⟩ := hp277294
        change G _ _ _ _ _ _ _ (.int o277297 :: _) _ _ _
        refine G_widen (cs' := 0) (sl' := 0) (by omega) (by omega) ?_
        refine G_if_eq 79 dr_cX17_back_65 (by decide +kernel) (fun hc277299 => ?_) (fun hc277299 => ?_)
        · have r277300 : o277297.toInt = 0 := gj_eq hc277299 (show Int32.toInt 0 = 0 by decide)
          have bo277297' : gB o277297 0 0 := gB_t0 r277300
          exact G_vretA dr_cX17_back_79 rfl (Nat.le_of_ble_eq_true rfl) (Nat.le_of_ble_eq_true rfl) ⟨F277270, rfl, rfl, hT277277, hs277278, (Nat.le_of_ble_eq_true rfl), (Nat.le_of_ble_eq_true rfl), kp277279, kp277280⟩
        · have r277301 : o277297.toInt ≠ 0 := gj_neq hc277299 (show Int32.toInt 0 = 0 by decide)
          have bo277297' : gB o277297 1 1 := gB_t1 bo277297 r277301
          refine G_aload_n 1 dr_cX17_back_68 rfl ?_
          refine Gp_get 2 hm277213 he277275 dr_cX17_back_69 (gk_X17 D I) (Nat.le_of_ble_eq_true rfl) wr_7_76 rfl ?_
          refine G_aload_n 2 dr_cX17_back_72 rfl ?_
          refine Gp_get 3 hm276932 he277274 dr_cX17_back_73 (gk_X15 D I) (Nat.le_of_ble_eq_true rfl) wr_9_190 rfl ?_
          refine Gw_callS (As := [.ref (γ 9 2), .int p276937]) (gV_ok D I) (cp_1853_SpillForgeModel_set l hl0 D I P276926 F277270 (γ 9 2) p276937 f277268 hm277260 he277273 ⟨by omega, by omega⟩ x277269) dr_cX17_back_76 ⟨wr_10_189, wr_1_14, wr_10_191, by decide, rfl, (Nat.le_of_ble_eq_true rfl), (Nat.le_of_ble_eq_true rfl)⟩ wr_10_190 (show 0 + 0 ≤ 0 by first | omega | decide) (show 0 + 0 ≤ 0 by first | omega | decide) (Nat.le_of_ble_eq_true rfl) (fun r277305 w277306 dc277302 ds277303 hp277304 => ?_) (fun _ _ _ _ _ z => z.elim)
          obtain ⟨F277309, f277307, rfl, rfl, hfr277311, he277312, hdc, hds, x277308⟩ := hp277304
          have he277313 : F277309 q276929 = .inr (20, [.int p276934, .int p276935, .int p276936, .int p276937, .int p276938, .int p276939, .int p276940]) := (hfr277311 q276929 hm276932 (nm_c (rn_oa he277274 he277273) nm_n)).trans he277274
          have he277314 : F277309 q276928 = .inr (22, [.ref (γ 9 0), .ref (γ 9 1), .ref (γ 9 2), .ref (γ 9 3), .ref (γ 9 4), .ref (γ 9 5), .ref (γ 9 6), .ref (γ 9 7), .ref (γ 9 8), .int p277217, .int p277218, .int p277219, .int p277220, .int p277221, .int p277222, .ref (γ 9 15), .ref (γ 9 16), .ref (γ 9 17), .ref (γ 9 18), .ref (γ 9 19), .ref (γ 9 20), .ref (γ 9 21), .ref (γ 9 22), .int p277223, .int p277224, .int p277225, .int p277226, .int p277227, .ref q277215, .ref (γ 9 29), .int p277228, .ref (γ 9 31), .int p277229, .int p277230, .int p277231, .ref q277216]) := (hfr277311 q276928 hm277213 (nm_c (rn_oa he277275 he277273) nm_n)).trans he277275
          have hfr277315 : rFr [(γ 9 2)] P276926 F277270 F277309 := rFr_call (rSub_rf (P := P276926)) (rFr_rf (W := []) (P := P276926) (F := F277270)) hfr277311 (fun b hb hn => ⟨nm_n, (nm_c (fun e => hn (e ▸ List.mem_cons_self)) nm_n)⟩)
          change G _ _ _ _ _ _ _ _ _ _ _
          refine G_widen (cs' := 0) (sl' := 0) (by omega) (by omega) ?_
          have hT277316 : RS D I P276926 F277309 γ el := RS_fr hT277277 hfr277315 ht277236 (by decide) ⟨f277307, he277312, x277308⟩
          have hs277317 : rStr γ [] F276927 F277309 := rStr_fr hT277277 hs277278 hfr277315 ht277236 (by decide)
          have kp277318 : F277309 q276928 = F276927 q276928 := (hfr277315 q276928 (RS_m hT277277 htq276928 (by decide)) (nm_c (rn_ty htq276928 ht277236 (by decide)) nm_n)).trans kp277279
          have kp277319 : F277309 (γ 9 3) = F276927 (γ 9 3) := (hfr277315 (γ 9 3) (RS_m hT277277 ht277237 (by decide)) (nm_c (rn_ty ht277237 ht277236 (by decide)) nm_n)).trans kp277280
          exact G_vretA dr_cX17_back_79 rfl (Nat.le_of_ble_eq_true rfl) (Nat.le_of_ble_eq_true rfl) ⟨F277309, rfl, rfl, hT277316, hs277317, (Nat.le_of_ble_eq_true rfl), (Nat.le_of_ble_eq_true rfl), kp277318, kp277319⟩
      · have r277320 : o277288.toInt ≠ 0 := gj_neq hc277290 (show Int32.toInt 0 = 0 by decide)
        have bo277288' : gB o277288 1 1 := gB_t1 bo277288 r277320
        refine G_aload_n 1 dr_cX17_back_50 rfl ?_
        refine Gp_get 2 hm277213 he277275 dr_cX17_back_51 (gk_X17 D I) (Nat.le_of_ble_eq_true rfl) wr_7_76 rfl ?_
        refine G_aload_n 2 dr_cX17_back_54 rfl ?_
        refine Gp_get 2 hm276932 he277274 dr_cX17_back_55 (gk_X15 D I) (Nat.le_of_ble_eq_true rfl) wr_9_186 rfl ?_
        refine Gw_callS (As := [.ref (γ 9 2), .int p276936]) (gV_ok D I) (cp_1853_SpillForgeModel_set l hl0 D I P276926 F277270 (γ 9 2) p276936 f277268 hm277260 he277273 ⟨by omega, by omega⟩ x277269) dr_cX17_back_58 ⟨wr_10_189, wr_1_14, wr_10_191, by decide, rfl, (Nat.le_of_ble_eq_true rfl), (Nat.le_of_ble_eq_true rfl)⟩ wr_10_190 (show 0 + 0 ≤ 0 by first | omega | decide) (show 0 + 0 ≤ 0 by first | omega | decide) (Nat.le_of_ble_eq_true rfl) (fun r277324 w277325 dc277321 ds277322 hp277323 => ?_) (fun _ _ _ _ _ z => z.elim)
        obtain ⟨F277328, f277326, rfl, rfl, hfr277330, he277331, hdc, hds, x277327⟩ := hp277323
        have he277332 : F277328 q276929 = .inr (20, [.int p276934, .int p276935, .int p276936, .int p276937, .int p276938, .int p276939, .int p276940]) := (hfr277330 q276929 hm276932 (nm_c (rn_oa he277274 he277273) nm_n)).trans he277274
        have he277333 : F277328 q276928 = .inr (22, [.ref (γ 9 0), .ref (γ 9 1), .ref (γ 9 2), .ref (γ 9 3), .ref (γ 9 4), .ref (γ 9 5), .ref (γ 9 6), .ref (γ 9 7), .ref (γ 9 8), .int p277217, .int p277218, .int p277219, .int p277220, .int p277221, .int p277222, .ref (γ 9 15), .ref (γ 9 16), .ref (γ 9 17), .ref (γ 9 18), .ref (γ 9 19), .ref (γ 9 20), .ref (γ 9 21), .ref (γ 9 22), .int p277223, .int p277224, .int p277225, .int p277226, .int p277227, .ref q277215, .ref (γ 9 29), .int p277228, .ref (γ 9 31), .int p277229, .int p277230, .int p277231, .ref q277216]) := (hfr277330 q276928 hm277213 (nm_c (rn_oa he277275 he277273) nm_n)).trans he277275
        have hfr277334 : rFr [(γ 9 2)] P276926 F277270 F277328 := rFr_call (rSub_rf (P := P276926)) (rFr_rf (W := []) (P := P276926) (F := F277270)) hfr277330 (fun b hb hn => ⟨nm_n, (nm_c (fun e => hn (e ▸ List.mem_cons_self)) nm_n)⟩)
        change G _ _ _ _ _ _ _ _ _ _ _
        refine G_widen (cs' := 0) (sl' := 0) (by omega) (by omega) ?_
        have hT277335 : RS D I P276926 F277328 γ el := RS_fr hT277277 hfr277334 ht277236 (by decide) ⟨f277326, he277331, x277327⟩
        have hs277336 : rStr γ [] F276927 F277328 := rStr_fr hT277277 hs277278 hfr277334 ht277236 (by decide)
        have kp277337 : F277328 q276928 = F276927 q276928 := (hfr277334 q276928 (RS_m hT277277 htq276928 (by decide)) (nm_c (rn_ty htq276928 ht277236 (by decide)) nm_n)).trans kp277279
        have kp277338 : F277328 (γ 9 3) = F276927 (γ 9 3) := (hfr277334 (γ 9 3) (RS_m hT277277 ht277237 (by decide)) (nm_c (rn_ty ht277237 ht277236 (by decide)) nm_n)).trans kp277280
        refine G_aload_n 2 dr_cX17_back_61 rfl ?_
        refine Gw_callV (As := []) (gV_ok D I) (cp_1693_Row_usesB l hl0 D I P276926 F277328 q276929 p276934 p276935 p276936 p276937 p276938 p276939 p276940 hm276932 he277332 bp276934 bp276935 bp276938 bp276939 bp276940) dr_cX17_back_62 ⟨wr_10_196, wr_1_39, wr_10_199, by decide, rfl, (Nat.le_of_ble_eq_true rfl), (Nat.le_of_ble_eq_true rfl)⟩ wr_10_197 wr_10_198 hm276932 he277332 rfl (show 0 + 0 ≤ 0 by first | omega | decide) (show 0 + 0 ≤ 0 by first | omega | decide) (Nat.le_of_ble_eq_true rfl) (fun r277342 w277343 dc277339 ds277340 hp277341 => ?_) (fun _ _ _ _ _ z => z.elim)
        obtain ⟨o277344, rfl, rfl, hdc, hds, bo277344, x277345⟩ := hp277341
        change G _ _ _ _ _ _ _ (.int o277344 :: _) _ _ _
        refine G_widen (cs' := 0) (sl' := 0) (by omega) (by omega) ?_
        refine G_if_eq 79 dr_cX17_back_65 (by decide +kernel) (fun hc277346 => ?_) (fun hc277346 => ?_)
        · have r277347 : o277344.toInt = 0 := gj_eq hc277346 (show Int32.toInt 0 = 0 by decide)
          have bo277344' : gB o277344 0 0 := gB_t0 r277347
          exact G_vretA dr_cX17_back_79 rfl (Nat.le_of_ble_eq_true rfl) (Nat.le_of_ble_eq_true rfl) ⟨F277328, rfl, rfl, hT277335, hs277336, (Nat.le_of_ble_eq_true rfl), (Nat.le_of_ble_eq_true rfl), kp277337, kp277338⟩
        · have r277348 : o277344.toInt ≠ 0 := gj_neq hc277346 (show Int32.toInt 0 = 0 by decide)
          have bo277344' : gB o277344 1 1 := gB_t1 bo277344 r277348
          refine G_aload_n 1 dr_cX17_back_68 rfl ?_
          refine Gp_get 2 hm277213 he277333 dr_cX17_back_69 (gk_X17 D I) (Nat.le_of_ble_eq_true rfl) wr_7_76 rfl ?_
          refine G_aload_n 2 dr_cX17_back_72 rfl ?_
          refine Gp_get 3 hm276932 he277332 dr_cX17_back_73 (gk_X15 D I) (Nat.le_of_ble_eq_true rfl) wr_9_190 rfl ?_
          refine Gw_callS (As := [.ref (γ 9 2), .int p276937]) (gV_ok D I) (cp_1853_SpillForgeModel_set l hl0 D I P276926 F277328 (γ 9 2) p276937 f277326 hm277260 he277331 ⟨by omega, by omega⟩ x277327) dr_cX17_back_76 ⟨wr_10_189, wr_1_14, wr_10_191, by decide, rfl, (Nat.le_of_ble_eq_true rfl), (Nat.le_of_ble_eq_true rfl)⟩ wr_10_190 (show 0 + 0 ≤ 0 by first | omega | decide) (show 0 + 0 ≤ 0 by first | omega | decide) (Nat.le_of_ble_eq_true rfl) (fun r277352 w277353 dc277349 ds277350 hp277351 => ?_) (fun _ _ _ _ _ z => z.elim)
          obtain ⟨F277356, f277354, rfl, rfl, hfr277358, he277359, hdc, hds, x277355⟩ := hp277351
          have he277360 : F277356 q276929 = .inr (20, [.int p276934, .int p276935, .int p276936, .int p276937, .int p276938, .int p276939, .int p276940]) := (hfr277358 q276929 hm276932 (nm_c (rn_oa he277332 he277331) nm_n)).trans he277332
          have he277361 : F277356 q276928 = .inr (22, [.ref (γ 9 0), .ref (γ 9 1), .ref (γ 9 2), .ref (γ 9 3), .ref (γ 9 4), .ref (γ 9 5), .ref (γ 9 6), .ref (γ 9 7), .ref (γ 9 8), .int p277217, .int p277218, .int p277219, .int p277220, .int p277221, .int p277222, .ref (γ 9 15), .ref (γ 9 16), .ref (γ 9 17), .ref (γ 9 18), .ref (γ 9 19), .ref (γ 9 20), .ref (γ 9 21), .ref (γ 9 22), .int p277223, .int p277224, .int p277225, .int p277226, .int p277227, .ref q277215, .ref (γ 9 29), .int p277228, .ref (γ 9 31), .int p277229, .int p277230, .int p277231, .ref q277216]) := (hfr277358 q276928 hm277213 (nm_c (rn_oa he277333 he277331) nm_n)).trans he277333
          have hfr277362 : rFr [(γ 9 2)] P276926 F277328 F277356 := rFr_call (rSub_rf (P := P276926)) (rFr_rf (W := []) (P := P276926) (F := F277328)) hfr277358 (fun b hb hn => ⟨nm_n, (nm_c (fun e => hn (e ▸ List.mem_cons_self)) nm_n)⟩)
          change G _ _ _ _ _ _ _ _ _ _ _
          refine G_widen (cs' := 0) (sl' := 0) (by omega) (by omega) ?_
          have hT277363 : RS D I P276926 F277356 γ el := RS_fr hT277335 hfr277362 ht277236 (by decide) ⟨f277354, he277359, x277355⟩
          have hs277364 : rStr γ [] F276927 F277356 := rStr_fr hT277335 hs277336 hfr277362 ht277236 (by decide)
          have kp277365 : F277356 q276928 = F276927 q276928 := (hfr277362 q276928 (RS_m hT277335 htq276928 (by decide)) (nm_c (rn_ty htq276928 ht277236 (by decide)) nm_n)).trans kp277337
          have kp277366 : F277356 (γ 9 3) = F276927 (γ 9 3) := (hfr277362 (γ 9 3) (RS_m hT277335 ht277237 (by decide)) (nm_c (rn_ty ht277237 ht277236 (by decide)) nm_n)).trans kp277338
          exact G_vretA dr_cX17_back_79 rfl (Nat.le_of_ble_eq_true rfl) (Nat.le_of_ble_eq_true rfl) ⟨F277356, rfl, rfl, hT277363, hs277364, (Nat.le_of_ble_eq_true rfl), (Nat.le_of_ble_eq_true rfl), kp277365, kp277366⟩
    · have r277367 : p276930.toInt ≠ 0 := gj_neq hc277281 (show Int32.toInt 0 = 0 by decide)
      have bp276930' : gB p276930 1 1 := gB_t1 bp276930 r277367
      refine G_aload_n 2 dr_cX17_back_22 rfl ?_
      refine Gp_get 0 hm276932 he277274 dr_cX17_back_23 (gk_X15 D I) (Nat.le_of_ble_eq_true rfl) wr_9_177 rfl ?_
      refine G_bipush 21 dr_cX17_back_26 (by decide +kernel) ?_
      refine G_icmp_ne 42 dr_cX17_back_28 (by decide +kernel) (fun hc277368 => ?_) (fun hc277368 => ?_)
      · have r277369 : p276934.toInt ≠ 21 := gj_neq hc277368 (show Int32.toInt 21 = 21 by decide)
        exact G_vretA dr_cX17_back_42 rfl (Nat.le_of_ble_eq_true rfl) (Nat.le_of_ble_eq_true rfl) ⟨F277270, rfl, rfl, hT277277, hs277278, (Nat.le_of_ble_eq_true rfl), (Nat.le_of_ble_eq_true rfl), kp277279, kp277280⟩
      · have r277370 : p276934.toInt = 21 := gj_eq hc277368 (show Int32.toInt 21 = 21 by decide)
        have bp276934' : gB p276934 21 21 := ⟨by omega, by omega⟩
        refine G_aload_n 1 dr_cX17_back_31 rfl ?_
        refine Gp_get 2 hm277213 he277275 dr_cX17_back_32 (gk_X17 D I) (Nat.le_of_ble_eq_true rfl) wr_7_76 rfl ?_
        refine G_aload_n 2 dr_cX17_back_35 rfl ?_
        refine Gp_get 4 hm276932 he277274 dr_cX17_back_36 (gk_X15 D I) (Nat.le_of_ble_eq_true rfl) wr_9_193 rfl ?_
        refine Gw_callS (As := [.ref (γ 9 2), .int p276938]) (gV_ok D I) (cp_1853_SpillForgeModel_set l hl0 D I P276926 F277270 (γ 9 2) p276938 f277268 hm277260 he277273 bp276938 x277269) dr_cX17_back_39 ⟨wr_10_189, wr_1_14, wr_10_191, by decide, rfl, (Nat.le_of_ble_eq_true rfl), (Nat.le_of_ble_eq_true rfl)⟩ wr_10_190 (show 0 + 0 ≤ 0 by first | omega | decide) (show 0 + 0 ≤ 0 by first | omega | decide) (Nat.le_of_ble_eq_true rfl) (fun r277374 w277375 dc277371 ds277372 hp277373 => ?_) (fun _ _ _ _ _ z => z.elim)
        obtain ⟨F277378, f277376, rfl, rfl, hfr277380, he277381, hdc, hds, x277377⟩ := hp277373
        have he277382 : F277378 q276929 = .inr (20, [.int p276934, .int p276935, .int p276936, .int p276937, .int p276938, .int p276939, .int p276940]) := (hfr277380 q276929 hm276932 (nm_c (rn_oa he277274 he277273) nm_n)).trans he277274
        have he277383 : F277378 q276928 = .inr (22, [.ref (γ 9 0), .ref (γ 9 1), .ref (γ 9 2), .ref (γ 9 3), .ref (γ 9 4), .ref (γ 9 5), .ref (γ 9 6), .ref (γ 9 7), .ref (γ 9 8), .int p277217, .int p277218, .int p277219, .int p277220, .int p277221, .int p277222, .ref (γ 9 15), .ref (γ 9 16), .ref (γ 9 17), .ref (γ 9 18), .ref (γ 9 19), .ref (γ 9 20), .ref (γ 9 21), .ref (γ 9 22), .int p277223, .int p277224, .int p277225, .int p277226, .int p277227, .ref q277215, .ref (γ 9 29), .int p277228, .ref (γ 9 31), .int p277229, .int p277230, .int p277231, .ref q277216]) := (hfr277380 q276928 hm277213 (nm_c (rn_oa he277275 he277273) nm_n)).trans he277275
        have hfr277384 : rFr [(γ 9 2)] P276926 F277270 F277378 := rFr_call (rSub_rf (P := P276926)) (rFr_rf (W := []) (P := P276926) (F := F277270)) hfr277380 (fun b hb hn => ⟨nm_n, (nm_c (fun e => hn (e ▸ List.mem_cons_self)) nm_n)⟩)
        change G _ _ _ _ _ _ _ _ _ _ _
        refine G_widen (cs' := 0) (sl' := 0) (by omega) (by omega) ?_
        have hT277385 : RS D I P276926 F277378 γ el := RS_fr hT277277 hfr277384 ht277236 (by decide) ⟨f277376, he277381, x277377⟩
        have hs277386 : rStr γ [] F276927 F277378 := rStr_fr hT277277 hs277278 hfr277384 ht277236 (by decide)
        have kp277387 : F277378 q276928 = F276927 q276928 := (hfr277384 q276928 (RS_m hT277277 htq276928 (by decide)) (nm_c (rn_ty htq276928 ht277236 (by decide)) nm_n)).trans kp277279
        have kp277388 : F277378 (γ 9 3) = F276927 (γ 9 3) := (hfr277384 (γ 9 3) (RS_m hT277277 ht277237 (by decide)) (nm_c (rn_ty ht277237 ht277236 (by decide)) nm_n)).trans kp277280
        exact G_vretA dr_cX17_back_42 rfl (Nat.le_of_ble_eq_true rfl) (Nat.le_of_ble_eq_true rfl) ⟨F277378, rfl, rfl, hT277385, hs277386, (Nat.le_of_ble_eq_true rfl), (Nat.le_of_ble_eq_true rfl), kp277387, kp277388⟩
abbrev ky_270222_SpillForgeModel_graph : gKey := (cX17_graph, 11, "SpillForgeModel", none, [], "graph", fun _ _ => True)
def pt_270222_SpillForgeModel_graph (D : va_G) (I : FieldType → ClassId) (γ el : Nat → Nat → Nat) (P270216 : List Nat) (F270217 : Nat → va_E) (q270218 : Nat) (q270219 : Nat) (p270220 : Int32) : Option Value → va_W → Nat → Nat → Prop := fun r w dc ds => ∃ (F327414 : Nat → va_E), r = none ∧ w = va_pl P270216 F327414 ∧ RS D I P270216 F327414 γ el ∧ rStr γ [] F270217 F327414 ∧ dc ≤ 0 ∧ ds ≤ 0 ∧ (gIp (p270220.toInt = 0) (rGr γ el F270217 q270219 (γ 6 (γ 1 q270219)) (cB (F327414 (γ 9 3))) (vA (γ 6 (γ 1 q270219))))) ∧ (F327414 q270218 = F270217 q270218)
set_option maxRecDepth 100000 in
set_option maxHeartbeats 4000000 in
theorem ct_270222_SpillForgeModel_graph (l : Launch) (hl0 : l.stackTraces = false) (D : va_G) (I : FieldType → ClassId) (γ el : Nat → Nat → Nat) (P270216 : List Nat) (F270217 : Nat → va_E) (q270218 : Nat) (q270219 : Nat) (p270220 : Int32) (hT : RS D I P270216 F270217 γ el) (htq270218 : rKd γ q270218 10) (htq270219 : rKd γ q270219 9) (bp270220 : gB p270220 0 1) (x270221 : 0 < γ 6 (γ 1 q270219)) : CtA (gV D I) l yX17_graph cX17_graph 11 none 5 111 0 0 [.ref q270218, .ref q270219, .int p270220] (va_pl P270216 F270217) (pt_270222_SpillForgeModel_graph D I γ el P270216 F270217 q270218 q270219 p270220) gNA := by
  refine CtA_of hl0 (by decide) (Nat.le_of_ble_eq_true rfl) ?_
  have hm270223 : q270218 ∈ P270216 := RS_m hT htq270218 (by decide)
  refine rk10_e (show rk_10 γ (F270217 q270218) from RS_o hT htq270218) (fun q270225 q270226 p270227 p270228 p270229 p270230 p270231 p270232 p270233 p270234 p270235 p270236 p270237 p270238 p270239 p270240 p270241 he270224 hB270268 ht270242 ht270243 ht270244 ht270245 ht270246 ht270247 ht270248 ht270249 ht270250 ht270251 ht270252 ht270253 ht270254 ht270255 ht270256 ht270257 ht270258 ht270259 ht270260 ht270261 ht270262 ht270263 ht270264 ht270265 hB270269 => ?_)
  refine G_aload_n 0 dr_cX17_graph_0 rfl ?_
  refine G_aload_n 1 dr_cX17_graph_1 rfl ?_
  refine G_iload_n 2 dr_cX17_graph_2 rfl ?_
  refine Gw_callV (As := [.ref q270219, .int p270220]) (gV_ok D I) (ct_218914_SpillForgeModel_findLive l hl0 D I γ el P270216 F270217 q270218 q270219 p270220 hT htq270218 htq270219 bp270220 (by omega)) dr_cX17_graph_3 ⟨wr_10_156, wr_1_14, wr_10_159, by decide, rfl, (Nat.le_of_ble_eq_true rfl), (Nat.le_of_ble_eq_true rfl)⟩ wr_10_158 wr_p_94 hm270223 he270224 rfl (show 0 + 0 ≤ 0 by first | omega | decide) (show 0 + 0 ≤ 0 by first | omega | decide) (Nat.le_of_ble_eq_true rfl) (fun r270273 w270274 dc270270 ds270271 hp270272 => ?_) (fun _ _ _ _ _ z => z.elim)
  obtain ⟨F270276, rfl, rfl, hT270277, hs270278, hdc, hds, x270275⟩ := hp270272
  have hs270279 : rStr γ [] F270217 F270276 := rStr_tr (rStr_rf (γ := γ) (W := []) (F := F270217)) hs270278
  have kp270280 : F270276 q270218 = F270217 q270218 := x270275
  have he270281 : F270276 q270218 = .inr (22, [.ref (γ 9 0), .ref (γ 9 1), .ref (γ 9 2), .ref (γ 9 3), .ref (γ 9 4), .ref (γ 9 5), .ref (γ 9 6), .ref (γ 9 7), .ref (γ 9 8), .int p270227, .int p270228, .int p270229, .int p270230, .int p270231, .int p270232, .ref (γ 9 15), .ref (γ 9 16), .ref (γ 9 17), .ref (γ 9 18), .ref (γ 9 19), .ref (γ 9 20), .ref (γ 9 21), .ref (γ 9 22), .int p270233, .int p270234, .int p270235, .int p270236, .int p270237, .ref q270225, .ref (γ 9 29), .int p270238, .ref (γ 9 31), .int p270239, .int p270240, .int p270241, .ref q270226]) := (x270275).trans he270224
  change G _ _ _ _ _ _ _ _ _ _ _
  refine G_widen (cs' := 0) (sl' := 0) (by omega) (by omega) ?_
  refine G_iconst 0 dr_cX17_graph_6 (by decide +kernel) ?_
  refine G_istore_n (L' := [(3, .int 0), (0, .ref q270218), (1, .ref q270219), (2, .int p270220)]) dr_cX17_graph_7 (Nat.le_of_ble_eq_true rfl) rfl ?_
  have hlp8_319203 : ∀ (n8_319203 : Nat) (F319199 : Nat → va_E) (g319198 : Int32), gB g319198 0 2000 → RS D I P270216 F319199 γ el → rStr γ [] F270217 F319199 → (∀ n : Nat, (n : Int) < g319198.toInt → ¬ rSd (cB (F319199 (γ 9 3))) n) → (F319199 q270218 = F270217 q270218) → ((2001 : Int) - g319198.toInt).toNat < n8_319203 → G (gV D I) l (gRm 5 111 0 0) (gMA (gV D I) (pt_270222_SpillForgeModel_graph D I γ el P270216 F270217 q270218 q270219 p270220) gNA 0 0) ky_270222_SpillForgeModel_graph 8 [(3, .int g319198), (0, .ref q270218), (1, .ref q270219), (2, .int p270220)] [] (va_pl P270216 F319199) 0 0 := by
    intro n8_319203
    induction n8_319203 with
    | zero => intro F319199 g319198 bg319198 hT319200 hs319201 x319202 x319203 hm8_319203; exact absurd hm8_319203 (Nat.not_lt_zero _)
    | succ n8_319203 ih8_319203 =>
      intro F319199 g319198 bg319198 hT319200 hs319201 x319202 x319203 hm8_319203
      have hs319205 : rStr γ [] F270276 F319199 := fun b h0 hb hw => (hs319201 b h0 hb hw).trans (hs270279 b h0 hb hw).symm
      have hs319206 : rStr γ [] F270217 F319199 := rStr_tr hs270279 hs319205
      have he319207 : F319199 q270218 = .inr (22, [.ref (γ 9 0), .ref (γ 9 1), .ref (γ 9 2), .ref (γ 9 3), .ref (γ 9 4), .ref (γ 9 5), .ref (γ 9 6), .ref (γ 9 7), .ref (γ 9 8), .int p270227, .int p270228, .int p270229, .int p270230, .int p270231, .int p270232, .ref (γ 9 15), .ref (γ 9 16), .ref (γ 9 17), .ref (γ 9 18), .ref (γ 9 19), .ref (γ 9 20), .ref (γ 9 21), .ref (γ 9 22), .int p270233, .int p270234, .int p270235, .int p270236, .int p270237, .ref q270225, .ref (γ 9 29), .int p270238, .ref (γ 9 31), .int p270239, .int p270240, .int p270241, .ref q270226]) := x319203.trans he270224
      have hm319208 : q270218 ∈ P270216 := RS_m hT319200 htq270218 (by decide)
      refine G_iload_n 0 dr_cX17_graph_8 rfl ?_
      refine G_sipush 2000 dr_cX17_graph_9 (by decide +kernel) ?_
      refine G_icmp_ge 54 dr_cX17_graph_12 (by decide +kernel) (fun hc319209 => ?_) (fun hc319209 => ?_)
      · have r319210 : 2000 ≤ g319198.toInt := gj_leL hc319209 (show Int32.toInt 2000 = 2000 by decide)
        have bg319198' : gB g319198 2000 2000 := ⟨by omega, by omega⟩
        refine G_iconst 0 dr_cX17_graph_54 (by decide +kernel) ?_
        refine G_istore_n (L' := [(3, .int 0), (0, .ref q270218), (1, .ref q270219), (2, .int p270220)]) dr_cX17_graph_55 (Nat.le_of_ble_eq_true rfl) rfl ?_
        have hlp56_323274 : ∀ (n56_323274 : Nat) (F323270 : Nat → va_E) (g323269 : Int32), gB g323269 0 1000000 → RS D I P270216 F323270 γ el → rStr γ [] F270217 F323270 → (gIp (p270220.toInt = 0) (rGr γ el F270217 q270219 (γ 6 (γ 1 q270219)) (cB (F323270 (γ 9 3))) (vA (g323269.toInt : Int).toNat))) → (F323270 q270218 = F270217 q270218) → ((1000001 : Int) - g323269.toInt).toNat < n56_323274 → G (gV D I) l (gRm 5 111 0 0) (gMA (gV D I) (pt_270222_SpillForgeModel_graph D I γ el P270216 F270217 q270218 q270219 p270220) gNA 0 0) ky_270222_SpillForgeModel_graph 56 [(3, .int g323269), (0, .ref q270218), (1, .ref q270219), (2, .int p270220)] [] (va_pl P270216 F323270) 0 0 := by
          intro n56_323274
          induction n56_323274 with
          | zero => intro F323270 g323269 bg323269 hT323271 hs323272 x323273 x323274 hm56_323274; exact absurd hm56_323274 (Nat.not_lt_zero _)
          | succ n56_323274 ih56_323274 =>
            intro F323270 g323269 bg323269 hT323271 hs323272 x323273 x323274 hm56_323274
            have hs323276 : rStr γ [] F319199 F323270 := fun b h0 hb hw => (hs323272 b h0 hb hw).trans (hs319201 b h0 hb hw).symm
            have hs323277 : rStr γ [] F270217 F323270 := rStr_tr hs319201 hs323276
            have he323278 : F323270 q270218 = .inr (22, [.ref (γ 9 0), .ref (γ 9 1), .ref (γ 9 2), .ref (γ 9 3), .ref (γ 9 4), .ref (γ 9 5), .ref (γ 9 6), .ref (γ 9 7), .ref (γ 9 8), .int p270227, .int p270228, .int p270229, .int p270230, .int p270231, .int p270232, .ref (γ 9 15), .ref (γ 9 16), .ref (γ 9 17), .ref (γ 9 18), .ref (γ 9 19), .ref (γ 9 20), .ref (γ 9 21), .ref (γ 9 22), .int p270233, .int p270234, .int p270235, .int p270236, .int p270237, .ref q270225, .ref (γ 9 29), .int p270238, .ref (γ 9 31), .int p270239, .int p270240, .int p270241, .ref q270226]) := x323274.trans he270224
            have hm323279 : q270218 ∈ P270216 := RS_m hT323271 htq270218 (by decide)
            refine G_iload_n 0 dr_cX17_graph_56 rfl ?_
            refine G_aload_n 2 dr_cX17_graph_57 rfl ?_
            have hm323280 : q270219 ∈ P270216 := RS_m hT323271 htq270219 (by decide)
            obtain ⟨q323282, q323283, p323284, p323285, he323281, ht323301, ht323286, ht323287, ht323288, ht323289, r323290, r323291, r323292, r323293, r323294, r323295, r323296, r323297, r323298, r323299, r323300⟩ := show rk_9 γ el q270219 (F323270 q270219) from RS_o hT323271 htq270219
            have bp323284 : gB p323284 0 1000000 := ⟨by omega, by omega⟩
            have bp323285 : gB p323285 0 1000000 := ⟨by omega, by omega⟩
            refine Gw_callV (As := []) (gV_ok D I) (cp_12496_Code_size l hl0 D I P270216 F323270 q270219 q323282 q323283 p323284 p323285 hm323280 he323281) dr_cX17_graph_58 ⟨wr_10_160, wr_1_15, wr_9_131, by decide, rfl, (Nat.le_of_ble_eq_true rfl), (Nat.le_of_ble_eq_true rfl)⟩ wr_9_129 wr_9_130 hm323280 he323281 rfl (show 0 + 0 ≤ 0 by first | omega | decide) (show 0 + 0 ≤ 0 by first | omega | decide) (Nat.le_of_ble_eq_true rfl) (fun r323305 w323306 dc323302 ds323303 hp323304 => ?_) (fun _ _ _ _ _ z => z.elim)
            obtain ⟨rfl, rfl, hdc, hds⟩ := hp323304
            change G _ _ _ _ _ _ _ (.int p323285 :: _) _ _ _
            refine G_widen (cs' := 0) (sl' := 0) (by omega) (by omega) ?_
            refine G_icmp_ge 296 dr_cX17_graph_61 (by decide +kernel) (fun hc323307 => ?_) (fun hc323307 => ?_)
            · have r323308 : p323285.toInt ≤ g323269.toInt := gC_le hc323307
              refine G_iconst 0 dr_cX17_graph_296 (by decide +kernel) ?_
              refine G_istore_n (L' := [(3, .int 0), (0, .ref q270218), (1, .ref q270219), (2, .int p270220)]) dr_cX17_graph_297 (Nat.le_of_ble_eq_true rfl) rfl ?_
              have hlp298_323613 : ∀ (n298_323613 : Nat) (F323609 : Nat → va_E) (g323608 : Int32), gB g323608 0 2000 → RS D I P270216 F323609 γ el → rStr γ [] F270217 F323609 → (gIp (p270220.toInt = 0) (rGr γ el F270217 q270219 (γ 6 (γ 1 q270219)) (cB (F323609 (γ 9 3))) (vA (γ 6 (γ 1 q270219))))) → (F323609 q270218 = F270217 q270218) → ((2001 : Int) - g323608.toInt).toNat < n298_323613 → G (gV D I) l (gRm 5 111 0 0) (gMA (gV D I) (pt_270222_SpillForgeModel_graph D I γ el P270216 F270217 q270218 q270219 p270220) gNA 0 0) ky_270222_SpillForgeModel_graph 298 [(3, .int g323608), (0, .ref q270218), (1, .ref q270219), (2, .int p270220)] [] (va_pl P270216 F323609) 0 0 := by
                intro n298_323613
                induction n298_323613 with
                | zero => intro F323609 g323608 bg323608 hT323610 hs323611 x323612 x323613 hm298_323613; exact absurd hm298_323613 (Nat.not_lt_zero _)
                | succ n298_323613 ih298_323613 =>
                  intro F323609 g323608 bg323608 hT323610 hs323611 x323612 x323613 hm298_323613
                  have hs323615 : rStr γ [] F323270 F323609 := fun b h0 hb hw => (hs323611 b h0 hb hw).trans (hs323272 b h0 hb hw).symm
                  have he323616 : F323609 q270219 = .inr (18, [.ref q323282, .ref q323283, .int p323284, .int p323285]) := (hs323615 q270219 (rT0 htq270219 (by decide)) (rT1 htq270219 (by decide)) (rT2 htq270219 (by decide))).trans he323281
                  have hs323617 : rStr γ [] F270217 F323609 := rStr_tr hs323272 hs323615
                  have he323618 : F323609 q270218 = .inr (22, [.ref (γ 9 0), .ref (γ 9 1), .ref (γ 9 2), .ref (γ 9 3), .ref (γ 9 4), .ref (γ 9 5), .ref (γ 9 6), .ref (γ 9 7), .ref (γ 9 8), .int p270227, .int p270228, .int p270229, .int p270230, .int p270231, .int p270232, .ref (γ 9 15), .ref (γ 9 16), .ref (γ 9 17), .ref (γ 9 18), .ref (γ 9 19), .ref (γ 9 20), .ref (γ 9 21), .ref (γ 9 22), .int p270233, .int p270234, .int p270235, .int p270236, .int p270237, .ref q270225, .ref (γ 9 29), .int p270238, .ref (γ 9 31), .int p270239, .int p270240, .int p270241, .ref q270226]) := x323613.trans he270224
                  have hm323619 : q270218 ∈ P270216 := RS_m hT323610 htq270218 (by decide)
                  refine G_iload_n 0 dr_cX17_graph_298 rfl ?_
                  refine G_sipush 2000 dr_cX17_graph_299 (by decide +kernel) ?_
                  refine G_icmp_ge 389 dr_cX17_graph_302 (by decide +kernel) (fun hc323620 => ?_) (fun hc323620 => ?_)
                  · have r323621 : 2000 ≤ g323608.toInt := gj_leL hc323620 (show Int32.toInt 2000 = 2000 by decide)
                    have bg323608' : gB g323608 2000 2000 := ⟨by omega, by omega⟩
                    exact G_vretA dr_cX17_graph_389 rfl (Nat.le_of_ble_eq_true rfl) (Nat.le_of_ble_eq_true rfl) ⟨F323609, rfl, rfl, hT323610, hs323611, (Nat.le_of_ble_eq_true rfl), (Nat.le_of_ble_eq_true rfl), x323612, x323613⟩
                  · have r323622 : g323608.toInt < 2000 := gj_nleL hc323620 (show Int32.toInt 2000 = 2000 by decide)
                    have bg323608' : gB g323608 0 1999 := ⟨by omega, by omega⟩
                    refine G_aload_n 1 dr_cX17_graph_305 rfl ?_
                    refine Gp_get 3 hm323619 he323618 dr_cX17_graph_306 (gk_X17 D I) (Nat.le_of_ble_eq_true rfl) wr_7_77 rfl ?_
                    refine G_iload_n 0 dr_cX17_graph_309 rfl ?_
                    have hm323623 : (γ 9 3) ∈ P270216 := RS_m hT323610 ht270247 (by decide)
                    obtain ⟨f323625, he323624, bf323625⟩ := show rk_14 I (F323609 (γ 9 3)) from RS_o hT323610 ht270247
                    refine Gp_zald 3 hm323623 he323624 dr_cX17_graph_310 rfl (gB_in bg323608' (by decide) (by decide)) (G_nam fun z323626 hz323626 => ?_)
                    have bz323626 : gB z323626 0 1 := by rw [hz323626]; exact bf323625 _
                    refine G_if_ne 317 dr_cX17_graph_311 (by decide +kernel) (fun hc323627 => ?_) (fun hc323627 => ?_)
                    · have r323628 : z323626.toInt ≠ 0 := gj_neq hc323627 (show Int32.toInt 0 = 0 by decide)
                      have bz323626' : gB z323626 1 1 := gB_t1 bz323626 r323628
                      refine G_iconst 0 dr_cX17_graph_317 (by decide +kernel) ?_
                      refine G_istore (L' := [(4, .int 0), (3, .int g323608), (0, .ref q270218), (1, .ref q270219), (2, .int p270220)]) dr_cX17_graph_318 (Nat.le_of_ble_eq_true rfl) rfl ?_
                      have hlp320_323772 : ∀ (n320_323772 : Nat) (F323768 : Nat → va_E) (g323767 : Int32), gB g323767 0 32 → RS D I P270216 F323768 γ el → rStr γ [] F270217 F323768 → (gIp (p270220.toInt = 0) (rGr γ el F270217 q270219 (γ 6 (γ 1 q270219)) (cB (F323768 (γ 9 3))) (vA (γ 6 (γ 1 q270219))))) → (F323768 q270218 = F270217 q270218) → ((33 : Int) - g323767.toInt).toNat < n320_323772 → G (gV D I) l (gRm 5 111 0 0) (gMA (gV D I) (pt_270222_SpillForgeModel_graph D I γ el P270216 F270217 q270218 q270219 p270220) gNA 0 0) ky_270222_SpillForgeModel_graph 320 [(4, .int g323767), (3, .int g323608), (0, .ref q270218), (1, .ref q270219), (2, .int p270220)] [] (va_pl P270216 F323768) 0 0 := by
                        intro n320_323772
                        induction n320_323772 with
                        | zero => intro F323768 g323767 bg323767 hT323769 hs323770 x323771 x323772 hm320_323772; exact absurd hm320_323772 (Nat.not_lt_zero _)
                        | succ n320_323772 ih320_323772 =>
                          intro F323768 g323767 bg323767 hT323769 hs323770 x323771 x323772 hm320_323772
                          have hs323774 : rStr γ [] F323609 F323768 := fun b h0 hb hw => (hs323770 b h0 hb hw).trans (hs323611 b h0 hb hw).symm
                          have he323775 : F323768 q270219 = .inr (18, [.ref q323282, .ref q323283, .int p323284, .int p323285]) := (hs323774 q270219 (rT0 htq270219 (by decide)) (rT1 htq270219 (by decide)) (rT2 htq270219 (by decide))).trans he323616
                          have hs323776 : rStr γ [] F270217 F323768 := rStr_tr hs323611 hs323774
                          have he323777 : F323768 q270218 = .inr (22, [.ref (γ 9 0), .ref (γ 9 1), .ref (γ 9 2), .ref (γ 9 3), .ref (γ 9 4), .ref (γ 9 5), .ref (γ 9 6), .ref (γ 9 7), .ref (γ 9 8), .int p270227, .int p270228, .int p270229, .int p270230, .int p270231, .int p270232, .ref (γ 9 15), .ref (γ 9 16), .ref (γ 9 17), .ref (γ 9 18), .ref (γ 9 19), .ref (γ 9 20), .ref (γ 9 21), .ref (γ 9 22), .int p270233, .int p270234, .int p270235, .int p270236, .int p270237, .ref q270225, .ref (γ 9 29), .int p270238, .ref (γ 9 31), .int p270239, .int p270240, .int p270241, .ref q270226]) := x323772.trans he270224
                          have hm323778 : q270218 ∈ P270216 := RS_m hT323769 htq270218 (by decide)
                          refine G_iload 0 dr_cX17_graph_320 rfl ?_
                          refine G_bipush 32 dr_cX17_graph_322 (by decide +kernel) ?_
                          refine G_icmp_ge 383 dr_cX17_graph_324 (by decide +kernel) (fun hc323779 => ?_) (fun hc323779 => ?_)
                          · have r323780 : 32 ≤ g323767.toInt := gj_leL hc323779 (show Int32.toInt 32 = 32 by decide)
                            have bg323767' : gB g323767 32 32 := ⟨by omega, by omega⟩
                            obtain ⟨z323781, hz323781⟩ : ∃ z : Int32, z = g323608 + Int32.ofInt 1 := ⟨_, rfl⟩
                            have ez323781 : z323781.toInt = g323608.toInt + 1 := gI_inc hz323781 (by decide) bg323608' (by decide) (by decide)
                            have bz323781 : gB z323781 1 2000 := ⟨by omega, by omega⟩
                            refine G_iinc (L' := [(3, .int z323781), (4, .int g323767), (0, .ref q270218), (1, .ref q270219), (2, .int p270220)]) z323781 1 dr_cX17_graph_383 rfl hz323781.symm (Nat.le_of_ble_eq_true rfl) rfl ?_
                            refine G_goto 298 dr_cX17_graph_386 (by decide +kernel) ?_
                            refine G_lv (L' := [(3, .int z323781), (0, .ref q270218), (1, .ref q270219), (2, .int p270220)]) [0, 2, 3, 4] rfl ?_
                            exact ih298_323613 F323768 z323781 (gB_w bz323781 (by decide) (by decide)) hT323769 hs323770 x323771 x323772 (mz_up ez323781 (Int.le_trans bg323608'.2 (by decide)) hm298_323613)
                          · have r323782 : g323767.toInt < 32 := gj_nleL hc323779 (show Int32.toInt 32 = 32 by decide)
                            have bg323767' : gB g323767 0 31 := ⟨by omega, by omega⟩
                            refine G_aload_n 2 dr_cX17_graph_327 rfl ?_
                            refine Gp_get 1 hm323778 he323777 dr_cX17_graph_328 (gk_X17 D I) (Nat.le_of_ble_eq_true rfl) wr_7_75 rfl ?_
                            refine G_iload_n 1 dr_cX17_graph_331 rfl ?_
                            have hm323783 : (γ 9 1) ∈ P270216 := RS_m hT323769 ht270245 (by decide)
                            obtain ⟨f323785, he323784, hg323786⟩ := show rk_13 I γ (F323768 (γ 9 1)) from RS_o hT323769 ht270245
                            obtain ⟨q323787, hx323789⟩ : ∃ x, x = γ 11 g323608.toInt.toNat := ⟨_, rfl⟩
                            have ht323788 : rKd γ q323787 36 := by rw [hx323789]; exact (hg323786 _ (show g323608.toInt.toNat < 2000 by omega)).2.1
                            refine Gp_aald 5 hm323783 he323784 dr_cX17_graph_332 rfl rfl (gB_in bg323608' (by decide) (by decide)) ?_
                            rw [show f323785 g323608.toNatClampNeg = some q323787 from (hg323786 _ (show g323608.toInt.toNat < 2000 by omega)).1.trans (by rw [hx323789])]
                            change G _ _ _ _ _ _ _ (.ref q323787 :: _) _ _ _
                            refine G_iload 0 dr_cX17_graph_333 rfl ?_
                            have hm323790 : q323787 ∈ P270216 := RS_m hT323769 ht323788 (by decide)
                            obtain ⟨f323792, he323791, wf323792⟩ := show rk_36 I (F323768 q323787) from RS_o hT323769 ht323788
                            refine Gp_lald 2 hm323790 he323791 dr_cX17_graph_335 rfl (gB_in bg323767' (by decide) (by decide)) (G_namL fun u323793 hu323793 => ?_)
                            have qu323793 : lb_Q u323793 (2000 - 64 * g323767.toInt) := lb_Wld hu323793 wf323792 (by omega) (by omega) (lb_Mod0 (by omega) (by omega))
                            refine G_lstore (L' := [(5, .long u323793), (4, .int g323767), (3, .int g323608), (0, .ref q270218), (1, .ref q270219), (2, .int p270220)]) dr_cX17_graph_336 (Nat.le_of_ble_eq_true rfl) rfl ?_
                            have hlp338_323855 : ∀ (n338_323855 : Nat) (F323850 : Nat → va_E) (gl323849 : Int64), RS D I P270216 F323850 γ el → rStr γ [] F270217 F323850 → (lb_Q gl323849 (2000 - 64 * g323767.toInt)) → (gIp (p270220.toInt = 0) (rGr γ el F270217 q270219 (γ 6 (γ 1 q270219)) (cB (F323850 (γ 9 3))) (vA (γ 6 (γ 1 q270219))))) → (F323850 q270218 = F270217 q270218) → (rpop gl323849) < n338_323855 → G (gV D I) l (gRm 5 111 0 0) (gMA (gV D I) (pt_270222_SpillForgeModel_graph D I γ el P270216 F270217 q270218 q270219 p270220) gNA 0 0) ky_270222_SpillForgeModel_graph 338 [(5, .long gl323849), (4, .int g323767), (3, .int g323608), (0, .ref q270218), (1, .ref q270219), (2, .int p270220)] [] (va_pl P270216 F323850) 0 0 := by
                              intro n338_323855
                              induction n338_323855 with
                              | zero => intro F323850 gl323849 hT323851 hs323852 x323853 x323854 x323855 hm338_323855; exact absurd hm338_323855 (Nat.not_lt_zero _)
                              | succ n338_323855 ih338_323855 =>
                                intro F323850 gl323849 hT323851 hs323852 x323853 x323854 x323855 hm338_323855
                                have hs323857 : rStr γ [] F323768 F323850 := fun b h0 hb hw => (hs323852 b h0 hb hw).trans (hs323770 b h0 hb hw).symm
                                have he323858 : F323850 q270219 = .inr (18, [.ref q323282, .ref q323283, .int p323284, .int p323285]) := (hs323857 q270219 (rT0 htq270219 (by decide)) (rT1 htq270219 (by decide)) (rT2 htq270219 (by decide))).trans he323775
                                have hs323859 : rStr γ [] F270217 F323850 := rStr_tr hs323770 hs323857
                                have he323860 : F323850 q270218 = .inr (22, [.ref (γ 9 0), .ref (γ 9 1), .ref (γ 9 2), .ref (γ 9 3), .ref (γ 9 4), .ref (γ 9 5), .ref (γ 9 6), .ref (γ 9 7), .ref (γ 9 8), .int p270227, .int p270228, .int p270229, .int p270230, .int p270231, .int p270232, .ref (γ 9 15), .ref (γ 9 16), .ref (γ 9 17), .ref (γ 9 18), .ref (γ 9 19), .ref (γ 9 20), .ref (γ 9 21), .ref (γ 9 22), .int p270233, .int p270234, .int p270235, .int p270236, .int p270237, .ref q270225, .ref (γ 9 29), .int p270238, .ref (γ 9 31), .int p270239, .int p270240, .int p270241, .ref q270226]) := x323855.trans he270224
                                have hm323861 : q270218 ∈ P270216 := RS_m hT323851 htq270218 (by decide)
                                refine G_lload 0 dr_cX17_graph_338 rfl ?_
                                refine G_lconst 0 dr_cX17_graph_340 rfl ?_
                                refine G_lcmp dr_cX17_graph_341 (G_nam fun z323862 hz323862 => ?_)
                                have bz323862 : gB z323862 (-1) 1 := gB_cmp hz323862
                                refine G_if_eq 377 dr_cX17_graph_342 (by decide +kernel) (fun hc323863 => ?_) (fun hc323863 => ?_)
                                · have r323864 : z323862.toInt = 0 := gj_eq hc323863 (show Int32.toInt 0 = 0 by decide)
                                  have bz323862' : gB z323862 0 0 := ⟨by omega, by omega⟩
                                  have lhc323863 := gC_cmpE hz323862 hc323863
                                  obtain ⟨z323865, hz323865⟩ : ∃ z : Int32, z = g323767 + Int32.ofInt 1 := ⟨_, rfl⟩
                                  have ez323865 : z323865.toInt = g323767.toInt + 1 := gI_inc hz323865 (by decide) bg323767' (by decide) (by decide)
                                  have bz323865 : gB z323865 1 32 := ⟨by omega, by omega⟩
                                  refine G_iinc (L' := [(4, .int z323865), (5, .long gl323849), (3, .int g323608), (0, .ref q270218), (1, .ref q270219), (2, .int p270220)]) z323865 1 dr_cX17_graph_377 rfl hz323865.symm (Nat.le_of_ble_eq_true rfl) rfl ?_
                                  refine G_goto 320 dr_cX17_graph_380 (by decide +kernel) ?_
                                  refine G_lv (L' := [(4, .int z323865), (3, .int g323608), (0, .ref q270218), (1, .ref q270219), (2, .int p270220)]) [0, 2, 3, 4, 5] rfl ?_
                                  exact ih320_323772 F323850 z323865 (gB_w bz323865 (by decide) (by decide)) hT323851 hs323852 x323854 x323855 (mz_up ez323865 (Int.le_trans bg323767'.2 (by decide)) hm320_323772)
                                · have r323866 : z323862.toInt ≠ 0 := gj_neq hc323863 (show Int32.toInt 0 = 0 by decide)
                                  have lhc323863 := gC_cmpN hz323862 hc323863
                                  refine G_aload_n 3 dr_cX17_graph_345 rfl ?_
                                  refine Gp_get 1 hm323861 he323860 dr_cX17_graph_346 (gk_X17 D I) (Nat.le_of_ble_eq_true rfl) wr_7_75 rfl ?_
                                  refine G_bipush 64 dr_cX17_graph_349 (by decide +kernel) ?_
                                  refine G_iload 1 dr_cX17_graph_351 rfl ?_
                                  refine G_imul dr_cX17_graph_353 (G_nam fun z323867 hz323867 => ?_)
                                  have ez323867 : z323867.toInt = 64 * g323767.toInt := by rw [gI_mul hz323867 (gBl (show Int32.toInt 64 = 64 by decide)) bg323767' (by decide) (by decide) (by decide), show Int32.toInt 64 = 64 from by decide]
                                  have bz323867 : gB z323867 0 1984 := gB_mul hz323867 (gBl (show Int32.toInt 64 = 64 by decide)) bg323767' (by decide) (by decide) (by decide) (by decide)
                                  refine G_lload 0 dr_cX17_graph_354 rfl ?_
                                  refine Gw_callS (As := [.long gl323849]) (gV_ok D I) (nzc_Long_numberOfTrailingZeros l hl0 D I P270216 F323850 gl323849) dr_cX17_graph_356 ⟨wr_11_1, wr_1_31, wr_11_3, by decide, rfl, (Nat.le_of_ble_eq_true rfl), (Nat.le_of_ble_eq_true rfl)⟩ wr_11_2 (show 0 + 0 ≤ 0 by first | omega | decide) (show 0 + 0 ≤ 0 by first | omega | decide) (Nat.le_of_ble_eq_true rfl) (fun r323871 w323872 dc323868 ds323869 hp323870 => ?_) (fun _ _ _ _ _ z => z.elim)
                                  obtain ⟨o323875, rfl, rfl, hdc, hds, hO323873⟩ := hp323870
                                  have hO323873 := hO323873 lhc323863
                                  have bo323875 : gB o323875 0 63 := ⟨hO323873.1, hO323873.2.1⟩
                                  have r323874 : o323875.toInt < 2000 - 64 * g323767.toInt := lb_Qlt x323853 hO323873.1 hO323873.2.2
                                  change G _ _ _ _ _ _ _ (.int o323875 :: _) _ _ _
                                  refine G_widen (cs' := 0) (sl' := 0) (by omega) (by omega) ?_
                                  refine G_iadd dr_cX17_graph_359 (G_nam fun z323876 hz323876 => ?_)
                                  have ez323876 : z323876.toInt = z323867.toInt + o323875.toInt := by rw [gI_add hz323876 bz323867 bo323875 (by decide) (by decide)]
                                  have bz323876 : gB z323876 0 2047 := gB_add (gI_add hz323876 bz323867 bo323875 (by decide) (by decide)) bz323867 bo323875 (by decide) (by decide)
                                  have hm323877 : (γ 9 1) ∈ P270216 := RS_m hT323851 ht270245 (by decide)
                                  obtain ⟨f323879, he323878, hg323880⟩ := show rk_13 I γ (F323850 (γ 9 1)) from RS_o hT323851 ht270245
                                  obtain ⟨q323881, hx323883⟩ : ∃ x, x = γ 11 z323876.toInt.toNat := ⟨_, rfl⟩
                                  have ht323882 : rKd γ q323881 36 := by rw [hx323883]; exact (hg323880 _ (show z323876.toInt.toNat < 2000 by omega)).2.1
                                  refine Gp_aald 5 hm323877 he323878 dr_cX17_graph_360 rfl rfl (gB_inr (by omega) (by omega)) ?_
                                  rw [show f323879 z323876.toNatClampNeg = some q323881 from (hg323880 _ (show z323876.toInt.toNat < 2000 by omega)).1.trans (by rw [hx323883])]
                                  change G _ _ _ _ _ _ _ (.ref q323881 :: _) _ _ _
                                  refine G_iload_n 2 dr_cX17_graph_361 rfl ?_
                                  have hm323884 : q323881 ∈ P270216 := RS_m hT323851 ht323882 (by decide)
                                  obtain ⟨f323886, he323885, wf323886⟩ := show rk_36 I (F323850 q323881) from RS_o hT323851 ht323882
                                  refine Gw_callS (As := [.ref q323881, .int g323608]) (gV_ok D I) (cp_1853_SpillForgeModel_set l hl0 D I P270216 F323850 q323881 g323608 f323886 hm323884 he323885 bg323608' wf323886) dr_cX17_graph_362 ⟨wr_10_189, wr_1_14, wr_10_191, by decide, rfl, (Nat.le_of_ble_eq_true rfl), (Nat.le_of_ble_eq_true rfl)⟩ wr_10_190 (show 0 + 0 ≤ 0 by first | omega | decide) (show 0 + 0 ≤ 0 by first | omega | decide) (Nat.le_of_ble_eq_true rfl) (fun r323890 w323891 dc323887 ds323888 hp323889 => ?_) (fun _ _ _ _ _ z => z.elim)
                                  obtain ⟨F323894, f323892, rfl, rfl, hfr323896, he323897, hdc, hds, x323893⟩ := hp323889
                                  have he323898 : F323894 q270219 = .inr (18, [.ref q323282, .ref q323283, .int p323284, .int p323285]) := (hfr323896 q270219 hm323280 (nm_c (rn_oa he323858 he323885) nm_n)).trans he323858
                                  have he323899 : F323894 q270218 = .inr (22, [.ref (γ 9 0), .ref (γ 9 1), .ref (γ 9 2), .ref (γ 9 3), .ref (γ 9 4), .ref (γ 9 5), .ref (γ 9 6), .ref (γ 9 7), .ref (γ 9 8), .int p270227, .int p270228, .int p270229, .int p270230, .int p270231, .int p270232, .ref (γ 9 15), .ref (γ 9 16), .ref (γ 9 17), .ref (γ 9 18), .ref (γ 9 19), .ref (γ 9 20), .ref (γ 9 21), .ref (γ 9 22), .int p270233, .int p270234, .int p270235, .int p270236, .int p270237, .ref q270225, .ref (γ 9 29), .int p270238, .ref (γ 9 31), .int p270239, .int p270240, .int p270241, .ref q270226]) := (hfr323896 q270218 hm323861 (nm_c (rn_oa he323860 he323885) nm_n)).trans he323860
                                  have he323900 : F323894 (γ 9 1) = .inl (I (.array .long), 2000, .inr (.inr (.inr (.inr f323879)))) := (hfr323896 (γ 9 1) hm323877 (nm_c (rn_ref_long he323878 he323885) nm_n)).trans he323878
                                  have hfr323901 : rFr [q323881] P270216 F323850 F323894 := rFr_call (rSub_rf (P := P270216)) (rFr_rf (W := []) (P := P270216) (F := F323850)) hfr323896 (fun b hb hn => ⟨nm_n, (nm_c (fun e => hn (e ▸ List.mem_cons_self)) nm_n)⟩)
                                  change G _ _ _ _ _ _ _ _ _ _ _
                                  refine G_widen (cs' := 0) (sl' := 0) (by omega) (by omega) ?_
                                  have hT323902 : RS D I P270216 F323894 γ el := RS_fr hT323851 hfr323901 ht323882 (by decide) ⟨f323892, he323897, x323893⟩
                                  have hs323903 : rStr γ [] F270217 F323894 := rStr_fr hT323851 hs323852 hfr323901 ht323882 (by decide)
                                  have kp323904 : F323894 q270218 = F270217 q270218 := (hfr323901 q270218 (RS_m hT323851 htq270218 (by decide)) (nm_c (rn_ty htq270218 ht323882 (by decide)) nm_n)).trans x323855
                                  have kp323905 : F323894 (γ 9 3) = F323850 (γ 9 3) := hfr323901 (γ 9 3) (RS_m hT323851 ht270247 (by decide)) (nm_c (rn_ty ht270247 ht323882 (by decide)) nm_n)
                                  refine G_lload 0 dr_cX17_graph_365 rfl ?_
                                  refine G_lload 0 dr_cX17_graph_367 rfl ?_
                                  refine G_lconst 1 dr_cX17_graph_369 rfl ?_
                                  refine G_lsub dr_cX17_graph_370 (G_namL fun u323906 hu323906 => ?_)
                                  refine G_land dr_cX17_graph_371 (G_namL fun u323907 hu323907 => ?_)
                                  refine G_lstore (L' := [(5, .long u323907), (4, .int g323767), (3, .int g323608), (0, .ref q270218), (1, .ref q270219), (2, .int p270220)]) dr_cX17_graph_372 (Nat.le_of_ble_eq_true rfl) rfl ?_
                                  refine G_goto 338 dr_cX17_graph_374 (by decide +kernel) ?_
                                  exact ih338_323855 F323894 u323907 hT323902 hs323903 (lb_QandL hu323907 x323853) (by rw [kp323905]; exact x323854) kp323904 (by have q := rpop_low lhc323863 hu323906 hu323907; omega)
                            exact hlp338_323855 ((rpop u323793) + 1) F323768 u323793 hT323769 hs323770 qu323793 x323771 x323772 (Nat.lt_succ_self _)
                      exact hlp320_323772 (((33 : Int) - 0).toNat + 1) F323609 0 (gB_w (gBl (show Int32.toInt 0 = 0 by decide)) (by decide) (by decide)) hT323610 hs323611 x323612 x323613 (Nat.lt_succ_self _)
                    · have r323908 : z323626.toInt = 0 := gj_eq hc323627 (show Int32.toInt 0 = 0 by decide)
                      have bz323626' : gB z323626 0 0 := gB_t0 r323908
                      refine G_goto 383 dr_cX17_graph_314 (by decide +kernel) ?_
                      obtain ⟨z323909, hz323909⟩ : ∃ z : Int32, z = g323608 + Int32.ofInt 1 := ⟨_, rfl⟩
                      have ez323909 : z323909.toInt = g323608.toInt + 1 := gI_inc hz323909 (by decide) bg323608' (by decide) (by decide)
                      have bz323909 : gB z323909 1 2000 := ⟨by omega, by omega⟩
                      refine G_iinc (L' := [(3, .int z323909), (0, .ref q270218), (1, .ref q270219), (2, .int p270220)]) z323909 0 dr_cX17_graph_383 rfl hz323909.symm (Nat.le_of_ble_eq_true rfl) rfl ?_
                      refine G_goto 298 dr_cX17_graph_386 (by decide +kernel) ?_
                      exact ih298_323613 F323609 z323909 (gB_w bz323909 (by decide) (by decide)) hT323610 hs323611 x323612 x323613 (mz_up ez323909 (Int.le_trans bg323608'.2 (by decide)) hm298_323613)
              exact hlp298_323613 (((2001 : Int) - 0).toNat + 1) F323270 0 (gB_w (gBl (show Int32.toInt 0 = 0 by decide)) (by decide) (by decide)) hT323271 hs323272 (fun h0 => by have z := x323273 h0; exact gq_al z (by omega)) x323274 (Nat.lt_succ_self _)
            · have r323910 : g323269.toInt < p323285.toInt := gC_nle hc323307
              have bg323269' : gB g323269 0 999999 := ⟨by omega, by omega⟩
              have bp323285' : gB p323285 1 1000000 := ⟨by omega, by omega⟩
              refine G_aload_n 2 dr_cX17_graph_64 rfl ?_
              refine G_iload_n 0 dr_cX17_graph_65 rfl ?_
              have hm323911 : q323282 ∈ P270216 := RS_m hT323271 ht323286 (by decide)
              obtain ⟨⟨p323913, p323914, q323915, he323912, r323916, r323917, r323918, r323920⟩, r323919⟩ := show rk_4 D I γ el F323270 q323282 from RS_o hT323271 ht323286
              have bp323913 := gB_any p323913
              have bp323914 : gB p323914 0 1000000 := ⟨by omega, by omega⟩
              obtain ⟨r323921, r323922, n323929, f323930, r323923, r323924, r323925, r323926, r323927, r323928⟩ := rLC_n r323918 (by omega)
              have hm323931 : q323915 ∈ P270216 := RS_m hT323271 r323921 (by decide)
              obtain ⟨q323932, hx323933⟩ : ∃ x, x = el q323282 g323269.toInt.toNat := ⟨_, rfl⟩
              have hx323934 : f323930 g323269.toNatClampNeg = some q323932 := (r323927 _ (show g323269.toInt.toNat < γ 2 q323282 by omega)).trans (by rw [hx323933])
              have ht323937 : rKd γ q323932 2 := by rw [hx323933]; exact (r323297 _ (by omega)).resolve_right (fun z => absurd z.1 (by omega))
              have ht323938 : rFm γ q323932 q323282 := by rw [hx323933]; exact (r323919 _ (show g323269.toInt.toNat < γ 2 q323282 by omega)).2.1
              have hm323939 : q323932 ∈ P270216 := RS_m hT323271 ht323937 (by decide)
              obtain ⟨q323941, q323942, p323943, p323944, he323940, ht323951, ht323945, ht323946, ht323947, ht323948, ht323949, bp323943, bp323944, r323950, r323952, r323953⟩ := show rk_2 γ q323932 (F323270 q323932) from RS_o hT323271 ht323937
              refine Gw_callV (As := [.int g323269]) (gV_ok D I) (cp_7737_Code_get l hl0 D I P270216 F323270 q270219 q323282 q323915 g323269 q323283 p323284 p323285 p323913 p323914 f323930 n323929 q323932 q323941 q323942 p323943 p323944 hm323280 hm323911 hm323931 hm323939 he323281 he323912 r323923 he323940 (gB_w bg323269' (by decide) (by decide)) (gB_w bp323914 (by decide) (by decide)) (by omega) (by omega) (by assumption) (by omega)) dr_cX17_graph_66 ⟨wr_10_161, wr_1_15, wr_10_141, by decide, rfl, (Nat.le_of_ble_eq_true rfl), (Nat.le_of_ble_eq_true rfl)⟩ wr_10_139 wr_10_140 hm323280 he323281 rfl (show 0 + 0 ≤ 0 by first | omega | decide) (show 0 + 0 ≤ 0 by first | omega | decide) (Nat.le_of_ble_eq_true rfl) (fun r323957 w323958 dc323954 ds323955 hp323956 => ?_) (fun _ _ _ _ _ z => z.elim)
              obtain ⟨rfl, rfl, hdc, hds⟩ := hp323956
              change G _ _ _ _ _ _ _ (.ref q323932 :: _) _ _ _
              refine G_widen (cs' := 0) (sl' := 0) (by omega) (by omega) ?_
              have hb323959 : el (γ 14 q270219) (g323269.toInt : Int).toNat = q323932 := by rw [ht323301.1, hx323933]
              refine G_astore (L' := [(4, .ref q323932), (3, .int g323269), (0, .ref q270218), (1, .ref q270219), (2, .int p270220)]) dr_cX17_graph_69 (Nat.le_of_ble_eq_true rfl) rfl ?_
              refine G_aload_n 2 dr_cX17_graph_71 rfl ?_
              refine G_aload 0 dr_cX17_graph_72 rfl ?_
              refine Gw_callV (As := [.ref q323932]) (gV_ok D I) (ct_273958_SpillForgeModel_behind l hl0 D I γ el P270216 F323270 q270218 q323932 hT323271 htq270218 ht323937) dr_cX17_graph_74 ⟨wr_10_162, wr_1_14, wr_10_165, by decide, rfl, (Nat.le_of_ble_eq_true rfl), (Nat.le_of_ble_eq_true rfl)⟩ wr_10_164 wr_p_95 hm323279 he323278 rfl (show 0 + 0 ≤ 0 by first | omega | decide) (show 0 + 0 ≤ 0 by first | omega | decide) (Nat.le_of_ble_eq_true rfl) (fun r323963 w323964 dc323960 ds323961 hp323962 => ?_) (fun _ _ _ _ _ z => z.elim)
              obtain ⟨F323967, rfl, rfl, hT323968, hs323969, hdc, hds, x323965, x323966⟩ := hp323962
              have he323970 : F323967 q270219 = .inr (18, [.ref q323282, .ref q323283, .int p323284, .int p323285]) := (hs323969 q270219 (rT0 htq270219 (by decide)) (rT1 htq270219 (by decide)) (rT2 htq270219 (by decide))).trans he323281
              have he323971 : F323967 q323282 = .inr (4, [.int p323913, .ref q323915, .int p323914]) := (hs323969 q323282 (rT0 ht323286 (by decide)) (rT1 ht323286 (by decide)) (rT2 ht323286 (by decide))).trans he323912
              have he323972 : F323967 q323915 = .inl (I (.object "java/lang/Object"), n323929, .inr (.inr (.inr (.inr f323930)))) := (hs323969 q323915 (rT0 r323921 (by decide)) (rT1 r323921 (by decide)) (rT2 r323921 (by decide))).trans r323923
              have he323973 : F323967 q323932 = .inr (17, [.ref q323941, .ref q323942, .int p323943, .int p323944]) := (hs323969 q323932 (rT0 ht323937 (by decide)) (rT1 ht323937 (by decide)) (rT2 ht323937 (by decide))).trans he323940
              have hs323974 : rStr γ [] F270217 F323967 := rStr_tr hs323272 hs323969
              have kp323975 : F323967 q270218 = F270217 q270218 := (x323965).trans x323274
              have kp323976 : F323967 (γ 9 3) = F323270 (γ 9 3) := x323966
              have he323977 : F323967 q270218 = .inr (22, [.ref (γ 9 0), .ref (γ 9 1), .ref (γ 9 2), .ref (γ 9 3), .ref (γ 9 4), .ref (γ 9 5), .ref (γ 9 6), .ref (γ 9 7), .ref (γ 9 8), .int p270227, .int p270228, .int p270229, .int p270230, .int p270231, .int p270232, .ref (γ 9 15), .ref (γ 9 16), .ref (γ 9 17), .ref (γ 9 18), .ref (γ 9 19), .ref (γ 9 20), .ref (γ 9 21), .ref (γ 9 22), .int p270233, .int p270234, .int p270235, .int p270236, .int p270237, .ref q270225, .ref (γ 9 29), .int p270238, .ref (γ 9 31), .int p270239, .int p270240, .int p270241, .ref q270226]) := (x323965).trans he323278
              change G _ _ _ _ _ _ _ _ _ _ _
              refine G_widen (cs' := 0) (sl' := 0) (by omega) (by omega) ?_
              refine G_aload_n 2 dr_cX17_graph_77 rfl ?_
              refine G_aload 0 dr_cX17_graph_78 rfl ?_
              refine Gp_get 1 hm323939 he323973 dr_cX17_graph_80 (gk_X12 D I) (Nat.le_of_ble_eq_true rfl) wr_9_223 rfl ?_
              refine G_iload_n 4 dr_cX17_graph_83 rfl ?_
              refine Gw_callV (As := [.ref q323942, .int p270220]) (gV_ok D I) (ct_276665_SpillForgeModel_stand l hl0 D I γ el P270216 F323967 q270218 q323942 p270220 hT323968 htq270218 ht323947 bp270220) dr_cX17_graph_84 ⟨wr_10_237, wr_1_14, wr_11_0, by decide, rfl, (Nat.le_of_ble_eq_true rfl), (Nat.le_of_ble_eq_true rfl)⟩ wr_10_239 wr_p_100 hm323279 he323977 rfl (show 0 + 0 ≤ 0 by first | omega | decide) (show 0 + 0 ≤ 0 by first | omega | decide) (Nat.le_of_ble_eq_true rfl) (fun r323981 w323982 dc323978 ds323979 hp323980 => ?_) (fun _ _ _ _ _ z => z.elim)
              obtain ⟨F323985, rfl, rfl, hT323986, hs323987, hdc, hds, x323983, x323984⟩ := hp323980
              have he323988 : F323985 q270219 = .inr (18, [.ref q323282, .ref q323283, .int p323284, .int p323285]) := (hs323987 q270219 (rT0 htq270219 (by decide)) (rT1 htq270219 (by decide)) (rT2 htq270219 (by decide))).trans he323970
              have he323989 : F323985 q323282 = .inr (4, [.int p323913, .ref q323915, .int p323914]) := (hs323987 q323282 (rT0 ht323286 (by decide)) (rT1 ht323286 (by decide)) (rT2 ht323286 (by decide))).trans he323971
              have he323990 : F323985 q323915 = .inl (I (.object "java/lang/Object"), n323929, .inr (.inr (.inr (.inr f323930)))) := (hs323987 q323915 (rT0 r323921 (by decide)) (rT1 r323921 (by decide)) (rT2 r323921 (by decide))).trans he323972
              have he323991 : F323985 q323932 = .inr (17, [.ref q323941, .ref q323942, .int p323943, .int p323944]) := (hs323987 q323932 (rT0 ht323937 (by decide)) (rT1 ht323937 (by decide)) (rT2 ht323937 (by decide))).trans he323973
              have hs323992 : rStr γ [] F270217 F323985 := rStr_tr hs323974 hs323987
              have kp323993 : F323985 q270218 = F270217 q270218 := (x323984).trans kp323975
              have he323994 : F323985 q270218 = .inr (22, [.ref (γ 9 0), .ref (γ 9 1), .ref (γ 9 2), .ref (γ 9 3), .ref (γ 9 4), .ref (γ 9 5), .ref (γ 9 6), .ref (γ 9 7), .ref (γ 9 8), .int p270227, .int p270228, .int p270229, .int p270230, .int p270231, .int p270232, .ref (γ 9 15), .ref (γ 9 16), .ref (γ 9 17), .ref (γ 9 18), .ref (γ 9 19), .ref (γ 9 20), .ref (γ 9 21), .ref (γ 9 22), .int p270233, .int p270234, .int p270235, .int p270236, .int p270237, .ref q270225, .ref (γ 9 29), .int p270238, .ref (γ 9 31), .int p270239, .int p270240, .int p270241, .ref q270226]) := (x323984).trans he323977
              change G _ _ _ _ _ _ _ _ _ _ _
              refine G_widen (cs' := 0) (sl' := 0) (by omega) (by omega) ?_
              have hb323995 : el (γ 14 q270219) (g323269.toInt : Int).toNat = q323932 := hb323959
              have hL323996 : rwL γ el q270219 (g323269.toInt : Int).toNat = q323941 := by unfold rwL; rw [hb323995]; exact ht323951.1
              have hs323997 : F323967 q323942 = F270217 q323942 := hs323974 q323942 (rT0 ht323947 (by decide)) (rT1 ht323947 (by decide)) (rT2 ht323947 (by decide))
              have gr323998 : gIp (p270220.toInt = 0) (rGr γ el F270217 q270219 (γ 6 (γ 1 q270219)) (cB (F323985 (γ 9 3))) (vB (g323269.toInt : Int).toNat (γ 2 q323941))) := fun h0 => gq_end (x323273 h0) (fun m => by have z := x323983 h0 m; rw [kp323976, hs323997] at z; exact z) ((rAt_e hb323995 ht323951.1 (Nat.le_refl _)).trans ht323951.2.1) (show (g323269.toInt : Int).toNat < γ 6 (γ 1 q270219) by omega) (by rw [hL323996])
              refine G_aload_n 2 dr_cX17_graph_87 rfl ?_
              refine G_aload 0 dr_cX17_graph_88 rfl ?_
              refine Gp_get 1 hm323939 he323991 dr_cX17_graph_90 (gk_X12 D I) (Nat.le_of_ble_eq_true rfl) wr_9_223 rfl ?_
              refine G_iload_n 4 dr_cX17_graph_93 rfl ?_
              refine Gw_callV (As := [.ref q323942, .int p270220]) (gV_ok D I) (ct_276931_SpillForgeModel_back l hl0 D I γ el P270216 F323985 q270218 q323942 p270220 hT323986 htq270218 ht323947 bp270220) dr_cX17_graph_94 ⟨wr_10_174, wr_1_14, wr_10_177, by decide, rfl, (Nat.le_of_ble_eq_true rfl), (Nat.le_of_ble_eq_true rfl)⟩ wr_10_176 wr_p_96 hm323279 he323994 rfl (show 0 + 0 ≤ 0 by first | omega | decide) (show 0 + 0 ≤ 0 by first | omega | decide) (Nat.le_of_ble_eq_true rfl) (fun r324002 w324003 dc323999 ds324000 hp324001 => ?_) (fun _ _ _ _ _ z => z.elim)
              obtain ⟨F324006, rfl, rfl, hT324007, hs324008, hdc, hds, x324004, x324005⟩ := hp324001
              have he324009 : F324006 q270219 = .inr (18, [.ref q323282, .ref q323283, .int p323284, .int p323285]) := (hs324008 q270219 (rT0 htq270219 (by decide)) (rT1 htq270219 (by decide)) (rT2 htq270219 (by decide))).trans he323988
              have he324010 : F324006 q323282 = .inr (4, [.int p323913, .ref q323915, .int p323914]) := (hs324008 q323282 (rT0 ht323286 (by decide)) (rT1 ht323286 (by decide)) (rT2 ht323286 (by decide))).trans he323989
              have he324011 : F324006 q323915 = .inl (I (.object "java/lang/Object"), n323929, .inr (.inr (.inr (.inr f323930)))) := (hs324008 q323915 (rT0 r323921 (by decide)) (rT1 r323921 (by decide)) (rT2 r323921 (by decide))).trans he323990
              have he324012 : F324006 q323932 = .inr (17, [.ref q323941, .ref q323942, .int p323943, .int p323944]) := (hs324008 q323932 (rT0 ht323937 (by decide)) (rT1 ht323937 (by decide)) (rT2 ht323937 (by decide))).trans he323991
              have hs324013 : rStr γ [] F270217 F324006 := rStr_tr hs323992 hs324008
              have kp324014 : F324006 q270218 = F270217 q270218 := (x324004).trans kp323993
              have kp324015 : F324006 (γ 9 3) = F323985 (γ 9 3) := x324005
              have he324016 : F324006 q270218 = .inr (22, [.ref (γ 9 0), .ref (γ 9 1), .ref (γ 9 2), .ref (γ 9 3), .ref (γ 9 4), .ref (γ 9 5), .ref (γ 9 6), .ref (γ 9 7), .ref (γ 9 8), .int p270227, .int p270228, .int p270229, .int p270230, .int p270231, .int p270232, .ref (γ 9 15), .ref (γ 9 16), .ref (γ 9 17), .ref (γ 9 18), .ref (γ 9 19), .ref (γ 9 20), .ref (γ 9 21), .ref (γ 9 22), .int p270233, .int p270234, .int p270235, .int p270236, .int p270237, .ref q270225, .ref (γ 9 29), .int p270238, .ref (γ 9 31), .int p270239, .int p270240, .int p270241, .ref q270226]) := (x324004).trans he323994
              change G _ _ _ _ _ _ _ _ _ _ _
              refine G_widen (cs' := 0) (sl' := 0) (by omega) (by omega) ?_
              refine G_aload 0 dr_cX17_graph_97 rfl ?_
              refine Gp_get 0 hm323939 he324012 dr_cX17_graph_99 (gk_X12 D I) (Nat.le_of_ble_eq_true rfl) wr_9_220 rfl ?_
              have fl324017 : γ 2 (γ 14 q323932) = γ 2 q323941 := by rw [ht323951.1]
              have hm324018 : q323941 ∈ P270216 := RS_m hT324007 ht323945 (by decide)
              obtain ⟨⟨p324020, p324021, q324022, he324019, r324023, r324024, r324025, r324027⟩, r324026⟩ := show rk_3 D I γ el F324006 q323941 from RS_o hT324007 ht323945
              have bp324020 := gB_any p324020
              have bp324021 : gB p324021 0 1000000 := ⟨by omega, by omega⟩
              refine Gw_callV (As := []) (gV_ok D I) (cp_7_ArrayList_size l hl0 D I P270216 F324006 q323941 p324020 q324022 p324021 hm324018 he324019 (gB_w bp324021 (by decide) (by decide))) dr_cX17_graph_102 ⟨wr_10_200, wr_1_18, wr_9_160, by decide, rfl, (Nat.le_of_ble_eq_true rfl), (Nat.le_of_ble_eq_true rfl)⟩ wr_9_158 wr_9_159 hm324018 he324019 rfl (show 0 + 0 ≤ 0 by first | omega | decide) (show 0 + 0 ≤ 0 by first | omega | decide) (Nat.le_of_ble_eq_true rfl) (fun r324031 w324032 dc324028 ds324029 hp324030 => ?_) (fun _ _ _ _ _ z => z.elim)
              obtain ⟨rfl, rfl, hdc, hds⟩ := hp324030
              change G _ _ _ _ _ _ _ (.int p324021 :: _) _ _ _
              refine G_widen (cs' := 0) (sl' := 0) (by omega) (by omega) ?_
              refine G_iconst 1 dr_cX17_graph_105 (by decide +kernel) ?_
              refine G_isub dr_cX17_graph_106 (G_nam fun z324033 hz324033 => ?_)
              have ez324033 : z324033.toInt = p324021.toInt - 1 := by rw [gI_sub hz324033 bp324021 (gBl (show Int32.toInt 1 = 1 by decide)) (by decide) (by decide), show Int32.toInt 1 = 1 from by decide]
              have bz324033 : gB z324033 (-1) 999999 := gB_sub (gI_sub hz324033 bp324021 (gBl (show Int32.toInt 1 = 1 by decide)) (by decide) (by decide)) bp324021 (gBl (show Int32.toInt 1 = 1 by decide)) (by decide) (by decide)
              refine G_istore (L' := [(5, .int z324033), (4, .ref q323932), (3, .int g323269), (0, .ref q270218), (1, .ref q270219), (2, .int p270220)]) dr_cX17_graph_107 (Nat.le_of_ble_eq_true rfl) rfl ?_
              have hlp109_325686 : ∀ (n109_325686 : Nat) (F325681 : Nat → va_E) (g325680 : Int32), gB g325680 (-1) 999999 → RS D I P270216 F325681 γ el → rStr γ [] F270217 F325681 → ((g325680.toInt : Int) < γ 2 (γ 14 q323932)) → (gIp (p270220.toInt = 0) (rGr γ el F270217 q270219 (γ 6 (γ 1 q270219)) (cB (F325681 (γ 9 3))) (vB (g323269.toInt : Int).toNat (g325680.toInt + 1 : Int).toNat))) → (F325681 q270218 = F270217 q270218) → ((g325680.toInt : Int) - (-2)).toNat < n109_325686 → G (gV D I) l (gRm 5 111 0 0) (gMA (gV D I) (pt_270222_SpillForgeModel_graph D I γ el P270216 F270217 q270218 q270219 p270220) gNA 0 0) ky_270222_SpillForgeModel_graph 109 [(5, .int g325680), (4, .ref q323932), (3, .int g323269), (0, .ref q270218), (1, .ref q270219), (2, .int p270220)] [] (va_pl P270216 F325681) 0 0 := by
                intro n109_325686
                induction n109_325686 with
                | zero => intro F325681 g325680 bg325680 hT325682 hs325683 x325684 x325685 x325686 hm109_325686; exact absurd hm109_325686 (Nat.not_lt_zero _)
                | succ n109_325686 ih109_325686 =>
                  intro F325681 g325680 bg325680 hT325682 hs325683 x325684 x325685 x325686 hm109_325686
                  have hs325688 : rStr γ [] F324006 F325681 := fun b h0 hb hw => (hs325683 b h0 hb hw).trans (hs324013 b h0 hb hw).symm
                  have he325689 : F325681 q270219 = .inr (18, [.ref q323282, .ref q323283, .int p323284, .int p323285]) := (hs325688 q270219 (rT0 htq270219 (by decide)) (rT1 htq270219 (by decide)) (rT2 htq270219 (by decide))).trans he324009
                  have he325690 : F325681 q323282 = .inr (4, [.int p323913, .ref q323915, .int p323914]) := (hs325688 q323282 (rT0 ht323286 (by decide)) (rT1 ht323286 (by decide)) (rT2 ht323286 (by decide))).trans he324010
                  have he325691 : F325681 q323915 = .inl (I (.object "java/lang/Object"), n323929, .inr (.inr (.inr (.inr f323930)))) := (hs325688 q323915 (rT0 r323921 (by decide)) (rT1 r323921 (by decide)) (rT2 r323921 (by decide))).trans he324011
                  have he325692 : F325681 q323932 = .inr (17, [.ref q323941, .ref q323942, .int p323943, .int p323944]) := (hs325688 q323932 (rT0 ht323937 (by decide)) (rT1 ht323937 (by decide)) (rT2 ht323937 (by decide))).trans he324012
                  have he325693 : F325681 q323941 = .inr (4, [.int p324020, .ref q324022, .int p324021]) := (hs325688 q323941 (rT0 ht323945 (by decide)) (rT1 ht323945 (by decide)) (rT2 ht323945 (by decide))).trans he324019
                  have hs325694 : rStr γ [] F270217 F325681 := rStr_tr hs324013 hs325688
                  have he325695 : F325681 q270218 = .inr (22, [.ref (γ 9 0), .ref (γ 9 1), .ref (γ 9 2), .ref (γ 9 3), .ref (γ 9 4), .ref (γ 9 5), .ref (γ 9 6), .ref (γ 9 7), .ref (γ 9 8), .int p270227, .int p270228, .int p270229, .int p270230, .int p270231, .int p270232, .ref (γ 9 15), .ref (γ 9 16), .ref (γ 9 17), .ref (γ 9 18), .ref (γ 9 19), .ref (γ 9 20), .ref (γ 9 21), .ref (γ 9 22), .int p270233, .int p270234, .int p270235, .int p270236, .int p270237, .ref q270225, .ref (γ 9 29), .int p270238, .ref (γ 9 31), .int p270239, .int p270240, .int p270241, .ref q270226]) := x325686.trans he270224
                  have hm325696 : q270218 ∈ P270216 := RS_m hT325682 htq270218 (by decide)
                  refine G_iload 0 dr_cX17_graph_109 rfl ?_
                  refine G_if_lt 290 dr_cX17_graph_111 (by decide +kernel) (fun hc325697 => ?_) (fun hc325697 => ?_)
                  · have r325698 : g325680.toInt < 0 := gj_lt hc325697 (show Int32.toInt 0 = 0 by decide)
                    have bg325680' : gB g325680 (-1) (-1) := ⟨by omega, by omega⟩
                    obtain ⟨z325699, hz325699⟩ : ∃ z : Int32, z = g323269 + Int32.ofInt 1 := ⟨_, rfl⟩
                    have ez325699 : z325699.toInt = g323269.toInt + 1 := gI_inc hz325699 (by decide) bg323269' (by decide) (by decide)
                    have bz325699 : gB z325699 1 1000000 := ⟨by omega, by omega⟩
                    refine G_iinc (L' := [(3, .int z325699), (5, .int g325680), (4, .ref q323932), (0, .ref q270218), (1, .ref q270219), (2, .int p270220)]) z325699 2 dr_cX17_graph_290 rfl hz325699.symm (Nat.le_of_ble_eq_true rfl) rfl ?_
                    refine G_goto 56 dr_cX17_graph_293 (by decide +kernel) ?_
                    refine G_lv (L' := [(3, .int z325699), (0, .ref q270218), (1, .ref q270219), (2, .int p270220)]) [0, 3, 4, 5] rfl ?_
                    exact ih56_323274 F325681 z325699 (gB_w bz325699 (by decide) (by decide)) hT325682 hs325683 (fun h0 => by have z := x325685 h0; exact gq_nx z (by omega) (by rw [ez325699]; omega)) x325686 (mz_up ez325699 (Int.le_trans bg323269'.2 (by decide)) hm56_323274)
                  · have r325700 : 0 ≤ g325680.toInt := gj_nlt hc325697 (show Int32.toInt 0 = 0 by decide)
                    have bg325680' : gB g325680 0 999999 := ⟨by omega, by omega⟩
                    refine G_aload 1 dr_cX17_graph_114 rfl ?_
                    refine Gp_get 0 hm323939 he325692 dr_cX17_graph_116 (gk_X12 D I) (Nat.le_of_ble_eq_true rfl) wr_9_220 rfl ?_
                    refine G_iload 0 dr_cX17_graph_119 rfl ?_
                    have fl325701 : γ 2 (γ 14 q323932) = γ 2 q323941 := by rw [ht323951.1]
                    have hm325702 : q323941 ∈ P270216 := RS_m hT325682 ht323945 (by decide)
                    obtain ⟨⟨p325704, p325705, q325706, he325703, r325707, r325708, r325709, r325711⟩, r325710⟩ := show rk_3 D I γ el F325681 q323941 from RS_o hT325682 ht323945
                    have bp325704 := gB_any p325704
                    have bp325705 : gB p325705 0 1000000 := ⟨by omega, by omega⟩
                    obtain ⟨r325712, r325713, n325720, f325721, r325714, r325715, r325716, r325717, r325718, r325719⟩ := rLC_n r325709 (by omega)
                    have hm325722 : q325706 ∈ P270216 := RS_m hT325682 r325712 (by decide)
                    obtain ⟨q325723, hx325724⟩ : ∃ x, x = el q323941 g325680.toInt.toNat := ⟨_, rfl⟩
                    have hx325725 : f325721 g325680.toNatClampNeg = some q325723 := (r325718 _ (show g325680.toInt.toNat < γ 2 q323941 by omega)).trans (by rw [hx325724])
                    have ht325726 : rKd γ q325723 1 := by rw [hx325724]; exact (r325710 _ (show g325680.toInt.toNat < γ 2 q323941 by omega)).1
                    have ht325727 : rFm γ q325723 q323941 := by rw [hx325724]; exact (r325710 _ (show g325680.toInt.toNat < γ 2 q323941 by omega)).2.1
                    refine Gw_callV (As := [.int g325680]) (gV_ok D I) (cp_22_ArrayList_get l hl0 D I P270216 F325681 q323941 q325706 g325680 p325704 p325705 f325721 n325720 q325723 hm325702 hm325722 he325703 r325714 (gB_w bg325680' (by decide) (by decide)) (gB_w bp325705 (by decide) (by decide)) (by omega) (by omega) (by assumption) (by omega)) dr_cX17_graph_121 ⟨wr_10_201, wr_1_18, wr_10_65, by decide, rfl, (Nat.le_of_ble_eq_true rfl), (Nat.le_of_ble_eq_true rfl)⟩ wr_10_63 wr_10_64 hm325702 he325703 rfl (show 0 + 0 ≤ 0 by first | omega | decide) (show 0 + 0 ≤ 0 by first | omega | decide) (Nat.le_of_ble_eq_true rfl) (fun r325731 w325732 dc325728 ds325729 hp325730 => ?_) (fun _ _ _ _ _ z => z.elim)
                    obtain ⟨rfl, rfl, hdc, hds⟩ := hp325730
                    change G _ _ _ _ _ _ _ (.ref q325723 :: _) _ _ _
                    refine G_widen (cs' := 0) (sl' := 0) (by omega) (by omega) ?_
                    have hr325733 : el q323941 (g325680.toInt : Int).toNat = q325723 := by rw [hx325724]
                    have hm325734 : q325723 ∈ P270216 := RS_m hT325682 ht325726 (by decide)
                    obtain ⟨p325736, p325737, p325738, p325739, p325740, p325741, p325742, he325735, bp325736, bp325737, bp325740, bp325741, bp325742, r325743, r325744, r325745, r325746, r325747⟩ := show rk_1 γ q325723 (F325681 q325723) from RS_o hT325682 ht325726
                    have bp325738 := gB_any p325738
                    have bp325739 := gB_any p325739
                    refine Gp_cast hm325734 he325735 rfl dr_cX17_graph_124 wr_10_202 (gr_cast 1 rfl) ?_
                    refine G_astore (L' := [(6, .ref q325723), (5, .int g325680), (4, .ref q323932), (3, .int g323269), (0, .ref q270218), (1, .ref q270219), (2, .int p270220)]) dr_cX17_graph_127 (Nat.le_of_ble_eq_true rfl) rfl ?_
                    refine G_aload_n 4 dr_cX17_graph_129 rfl ?_
                    refine G_aload 0 dr_cX17_graph_130 rfl ?_
                    refine G_iload_n 6 dr_cX17_graph_132 rfl ?_
                    refine Gw_callV (As := [.ref q325723, .int p270220]) (gV_ok D I) (ct_276665_SpillForgeModel_stand l hl0 D I γ el P270216 F325681 q270218 q325723 p270220 hT325682 htq270218 ht325726 bp270220) dr_cX17_graph_133 ⟨wr_10_237, wr_1_14, wr_11_0, by decide, rfl, (Nat.le_of_ble_eq_true rfl), (Nat.le_of_ble_eq_true rfl)⟩ wr_10_239 wr_p_100 hm325696 he325695 rfl (show 0 + 0 ≤ 0 by first | omega | decide) (show 0 + 0 ≤ 0 by first | omega | decide) (Nat.le_of_ble_eq_true rfl) (fun r325751 w325752 dc325748 ds325749 hp325750 => ?_) (fun _ _ _ _ _ z => z.elim)
                    obtain ⟨F325755, rfl, rfl, hT325756, hs325757, hdc, hds, x325753, x325754⟩ := hp325750
                    have he325758 : F325755 q270219 = .inr (18, [.ref q323282, .ref q323283, .int p323284, .int p323285]) := (hs325757 q270219 (rT0 htq270219 (by decide)) (rT1 htq270219 (by decide)) (rT2 htq270219 (by decide))).trans he325689
                    have he325759 : F325755 q323282 = .inr (4, [.int p323913, .ref q323915, .int p323914]) := (hs325757 q323282 (rT0 ht323286 (by decide)) (rT1 ht323286 (by decide)) (rT2 ht323286 (by decide))).trans he325690
                    have he325760 : F325755 q323915 = .inl (I (.object "java/lang/Object"), n323929, .inr (.inr (.inr (.inr f323930)))) := (hs325757 q323915 (rT0 r323921 (by decide)) (rT1 r323921 (by decide)) (rT2 r323921 (by decide))).trans he325691
                    have he325761 : F325755 q323932 = .inr (17, [.ref q323941, .ref q323942, .int p323943, .int p323944]) := (hs325757 q323932 (rT0 ht323937 (by decide)) (rT1 ht323937 (by decide)) (rT2 ht323937 (by decide))).trans he325692
                    have he325762 : F325755 q323941 = .inr (4, [.int p325704, .ref q325706, .int p325705]) := (hs325757 q323941 (rT0 ht323945 (by decide)) (rT1 ht323945 (by decide)) (rT2 ht323945 (by decide))).trans he325703
                    have he325763 : F325755 q325706 = .inl (I (.object "java/lang/Object"), n325720, .inr (.inr (.inr (.inr f325721)))) := (hs325757 q325706 (rT0 r325712 (by decide)) (rT1 r325712 (by decide)) (rT2 r325712 (by decide))).trans r325714
                    have he325764 : F325755 q325723 = .inr (20, [.int p325736, .int p325737, .int p325738, .int p325739, .int p325740, .int p325741, .int p325742]) := (hs325757 q325723 (rT0 ht325726 (by decide)) (rT1 ht325726 (by decide)) (rT2 ht325726 (by decide))).trans he325735
                    have hs325765 : rStr γ [] F270217 F325755 := rStr_tr hs325683 hs325757
                    have kp325766 : F325755 q270218 = F270217 q270218 := (x325754).trans x325686
                    have he325767 : F325755 q270218 = .inr (22, [.ref (γ 9 0), .ref (γ 9 1), .ref (γ 9 2), .ref (γ 9 3), .ref (γ 9 4), .ref (γ 9 5), .ref (γ 9 6), .ref (γ 9 7), .ref (γ 9 8), .int p270227, .int p270228, .int p270229, .int p270230, .int p270231, .int p270232, .ref (γ 9 15), .ref (γ 9 16), .ref (γ 9 17), .ref (γ 9 18), .ref (γ 9 19), .ref (γ 9 20), .ref (γ 9 21), .ref (γ 9 22), .int p270233, .int p270234, .int p270235, .int p270236, .int p270237, .ref q270225, .ref (γ 9 29), .int p270238, .ref (γ 9 31), .int p270239, .int p270240, .int p270241, .ref q270226]) := (x325754).trans he325695
                    change G _ _ _ _ _ _ _ _ _ _ _
                    refine G_widen (cs' := 0) (sl' := 0) (by omega) (by omega) ?_
                    have hb325768 : el (γ 14 q270219) (g323269.toInt : Int).toNat = q323932 := hb323959
                    have hL325769 : rwL γ el q270219 (g323269.toInt : Int).toNat = q323941 := by unfold rwL; rw [hb325768]; exact ht323951.1
                    have hs325770 : F325681 q325723 = F270217 q325723 := hs325683 q325723 (rT0 ht325726 (by decide)) (rT1 ht325726 (by decide)) (rT2 ht325726 (by decide))
                    have gr325771 : gIp (p270220.toInt = 0) (rGr γ el F270217 q270219 (γ 6 (γ 1 q270219)) (cB (F325755 (γ 9 3))) (vB (g323269.toInt : Int).toNat (g325680.toInt : Int).toNat)) := fun h0 => gq_row (x325685 h0) (fun m => by have z := x325753 h0 m; rw [hs325770] at z; exact z) ((rAt_r hb325768 ht323951.1 (by omega)).trans hr325733) (show (g323269.toInt : Int).toNat < γ 6 (γ 1 q270219) by omega) (by rw [hL325769]; omega) (by omega)
                    refine G_aload 0 dr_cX17_graph_136 rfl ?_
                    refine G_iload_n 6 dr_cX17_graph_138 rfl ?_
                    refine Gw_callS (As := [.ref q325723, .int p270220]) (gV_ok D I) (cp_1778_SpillForgeModel_setOf l hl0 D I P270216 F325755 q325723 p270220 p325736 p325737 p325738 p325739 p325740 p325741 p325742 hm325734 he325764 bp270220 bp325736 bp325737 bp325740 bp325741 bp325742) dr_cX17_graph_139 ⟨wr_10_178, wr_1_14, wr_10_180, by decide, rfl, (Nat.le_of_ble_eq_true rfl), (Nat.le_of_ble_eq_true rfl)⟩ wr_10_179 (show 0 + 0 ≤ 0 by first | omega | decide) (show 0 + 0 ≤ 0 by first | omega | decide) (Nat.le_of_ble_eq_true rfl) (fun r325775 w325776 dc325772 ds325773 hp325774 => ?_) (fun _ _ _ _ _ z => z.elim)
                    obtain ⟨o325777, rfl, rfl, hdc, hds, bo325777⟩ := hp325774
                    change G _ _ _ _ _ _ _ (.int o325777 :: _) _ _ _
                    refine G_widen (cs' := 0) (sl' := 0) (by omega) (by omega) ?_
                    refine G_istore (L' := [(7, .int o325777), (6, .ref q325723), (5, .int g325680), (4, .ref q323932), (3, .int g323269), (0, .ref q270218), (1, .ref q270219), (2, .int p270220)]) dr_cX17_graph_142 (Nat.le_of_ble_eq_true rfl) rfl ?_
                    refine G_iload_n 7 dr_cX17_graph_144 rfl ?_
                    refine G_if_ne 172 dr_cX17_graph_145 (by decide +kernel) (fun hc325778 => ?_) (fun hc325778 => ?_)
                    · have r325779 : p270220.toInt ≠ 0 := gj_neq hc325778 (show Int32.toInt 0 = 0 by decide)
                      have bp270220' : gB p270220 1 1 := gB_t1 bp270220 r325779
                      refine G_iconst (-1) dr_cX17_graph_172 (by decide +kernel) ?_
                      refine G_istore (L' := [(8, .int (-1)), (7, .int o325777), (6, .ref q325723), (5, .int g325680), (4, .ref q323932), (3, .int g323269), (0, .ref q270218), (1, .ref q270219), (2, .int p270220)]) dr_cX17_graph_173 (Nat.le_of_ble_eq_true rfl) rfl ?_
                      refine G_iload 1 dr_cX17_graph_175 rfl ?_
                      refine G_if_lt 277 dr_cX17_graph_177 (by decide +kernel) (fun hc325780 => ?_) (fun hc325780 => ?_)
                      · have r325781 : o325777.toInt < 0 := gj_lt hc325780 (show Int32.toInt 0 = 0 by decide)
                        have bo325777' : gB o325777 (-1) (-1) := ⟨by omega, by omega⟩
                        refine G_aload_n 6 dr_cX17_graph_277 rfl ?_
                        refine G_aload 2 dr_cX17_graph_278 rfl ?_
                        refine G_iload_n 8 dr_cX17_graph_280 rfl ?_
                        refine Gw_callV (As := [.ref q325723, .int p270220]) (gV_ok D I) (ct_276931_SpillForgeModel_back l hl0 D I γ el P270216 F325755 q270218 q325723 p270220 hT325756 htq270218 ht325726 (gB_w bp270220' (by decide) (by decide))) dr_cX17_graph_281 ⟨wr_10_174, wr_1_14, wr_10_177, by decide, rfl, (Nat.le_of_ble_eq_true rfl), (Nat.le_of_ble_eq_true rfl)⟩ wr_10_176 wr_p_96 hm325696 he325767 rfl (show 0 + 0 ≤ 0 by first | omega | decide) (show 0 + 0 ≤ 0 by first | omega | decide) (Nat.le_of_ble_eq_true rfl) (fun r325785 w325786 dc325782 ds325783 hp325784 => ?_) (fun _ _ _ _ _ z => z.elim)
                        obtain ⟨F325789, rfl, rfl, hT325790, hs325791, hdc, hds, x325787, x325788⟩ := hp325784
                        have he325792 : F325789 q270219 = .inr (18, [.ref q323282, .ref q323283, .int p323284, .int p323285]) := (hs325791 q270219 (rT0 htq270219 (by decide)) (rT1 htq270219 (by decide)) (rT2 htq270219 (by decide))).trans he325758
                        have he325793 : F325789 q323282 = .inr (4, [.int p323913, .ref q323915, .int p323914]) := (hs325791 q323282 (rT0 ht323286 (by decide)) (rT1 ht323286 (by decide)) (rT2 ht323286 (by decide))).trans he325759
                        have he325794 : F325789 q323915 = .inl (I (.object "java/lang/Object"), n323929, .inr (.inr (.inr (.inr f323930)))) := (hs325791 q323915 (rT0 r323921 (by decide)) (rT1 r323921 (by decide)) (rT2 r323921 (by decide))).trans he325760
                        have he325795 : F325789 q323932 = .inr (17, [.ref q323941, .ref q323942, .int p323943, .int p323944]) := (hs325791 q323932 (rT0 ht323937 (by decide)) (rT1 ht323937 (by decide)) (rT2 ht323937 (by decide))).trans he325761
                        have he325796 : F325789 q323941 = .inr (4, [.int p325704, .ref q325706, .int p325705]) := (hs325791 q323941 (rT0 ht323945 (by decide)) (rT1 ht323945 (by decide)) (rT2 ht323945 (by decide))).trans he325762
                        have he325797 : F325789 q325706 = .inl (I (.object "java/lang/Object"), n325720, .inr (.inr (.inr (.inr f325721)))) := (hs325791 q325706 (rT0 r325712 (by decide)) (rT1 r325712 (by decide)) (rT2 r325712 (by decide))).trans he325763
                        have he325798 : F325789 q325723 = .inr (20, [.int p325736, .int p325737, .int p325738, .int p325739, .int p325740, .int p325741, .int p325742]) := (hs325791 q325723 (rT0 ht325726 (by decide)) (rT1 ht325726 (by decide)) (rT2 ht325726 (by decide))).trans he325764
                        have hs325799 : rStr γ [] F270217 F325789 := rStr_tr hs325765 hs325791
                        have kp325800 : F325789 q270218 = F270217 q270218 := (x325787).trans kp325766
                        have kp325801 : F325789 (γ 9 3) = F325755 (γ 9 3) := x325788
                        have he325802 : F325789 q270218 = .inr (22, [.ref (γ 9 0), .ref (γ 9 1), .ref (γ 9 2), .ref (γ 9 3), .ref (γ 9 4), .ref (γ 9 5), .ref (γ 9 6), .ref (γ 9 7), .ref (γ 9 8), .int p270227, .int p270228, .int p270229, .int p270230, .int p270231, .int p270232, .ref (γ 9 15), .ref (γ 9 16), .ref (γ 9 17), .ref (γ 9 18), .ref (γ 9 19), .ref (γ 9 20), .ref (γ 9 21), .ref (γ 9 22), .int p270233, .int p270234, .int p270235, .int p270236, .int p270237, .ref q270225, .ref (γ 9 29), .int p270238, .ref (γ 9 31), .int p270239, .int p270240, .int p270241, .ref q270226]) := (x325787).trans he325767
                        change G _ _ _ _ _ _ _ _ _ _ _
                        refine G_widen (cs' := 0) (sl' := 0) (by omega) (by omega) ?_
                        obtain ⟨z325803, hz325803⟩ : ∃ z : Int32, z = g325680 + Int32.ofInt (-1) := ⟨_, rfl⟩
                        have ez325803 : z325803.toInt = g325680.toInt + (-1) := gI_inc hz325803 (by decide) bg325680' (by decide) (by decide)
                        have bz325803 : gB z325803 (-1) 999998 := ⟨by omega, by omega⟩
                        refine G_iinc (L' := [(5, .int z325803), (8, .int (-1)), (7, .int o325777), (6, .ref q325723), (4, .ref q323932), (3, .int g323269), (0, .ref q270218), (1, .ref q270219), (2, .int p270220)]) z325803 3 dr_cX17_graph_284 rfl hz325803.symm (Nat.le_of_ble_eq_true rfl) rfl ?_
                        refine G_goto 109 dr_cX17_graph_287 (by decide +kernel) ?_
                        refine G_lv (L' := [(5, .int z325803), (4, .ref q323932), (3, .int g323269), (0, .ref q270218), (1, .ref q270219), (2, .int p270220)]) [0, 4, 5, 6, 7, 8] rfl ?_
                        exact ih109_325686 F325789 z325803 (gB_w bz325803 (by decide) (by decide)) hT325790 hs325799 (by omega) (fun h0 => by have z := gr325771 h0; rw [← kp325801] at z; rw [show ((g325680.toInt : Int).toNat : Nat) = (z325803.toInt + 1 : Int).toNat by omega] at z; exact z) kp325800 (mz_dn ez325803 (Int.le_trans (by decide) bg325680'.1) hm109_325686)
                      · have r325804 : 0 ≤ o325777.toInt := gj_nlt hc325780 (show Int32.toInt 0 = 0 by decide)
                        have bo325777' : gB o325777 0 1999 := ⟨by omega, by omega⟩
                        refine G_iload 0 dr_cX17_graph_180 rfl ?_
                        refine G_if_lt 204 dr_cX17_graph_182 (by decide +kernel) (fun _ => ?_) (fun hc => absurd hc (by decide))
                        refine G_iconst 0 dr_cX17_graph_204 (by decide +kernel) ?_
                        refine G_istore (L' := [(9, .int 0), (8, .int (-1)), (7, .int o325777), (6, .ref q325723), (5, .int g325680), (4, .ref q323932), (3, .int g323269), (0, .ref q270218), (1, .ref q270219), (2, .int p270220)]) dr_cX17_graph_205 (Nat.le_of_ble_eq_true rfl) rfl ?_
                        refine G_iconst 0 dr_cX17_graph_207 (by decide +kernel) ?_
                        refine G_istore (L' := [(10, .int 0), (9, .int 0), (8, .int (-1)), (7, .int o325777), (6, .ref q325723), (5, .int g325680), (4, .ref q323932), (3, .int g323269), (0, .ref q270218), (1, .ref q270219), (2, .int p270220)]) dr_cX17_graph_208 (Nat.le_of_ble_eq_true rfl) rfl ?_
                        have hlp210_325921 : ∀ (n210_325921 : Nat) (F325917 : Nat → va_E) (g325916 : Int32), gB g325916 0 32 → RS D I P270216 F325917 γ el → rStr γ [] F270217 F325917 → (gIp (p270220.toInt = 0) (rGr γ el F270217 q270219 (γ 6 (γ 1 q270219)) (cB (F325917 (γ 9 3))) (vB (g323269.toInt : Int).toNat (g325680.toInt : Int).toNat))) → (F325917 q270218 = F270217 q270218) → ((33 : Int) - g325916.toInt).toNat < n210_325921 → G (gV D I) l (gRm 5 111 0 0) (gMA (gV D I) (pt_270222_SpillForgeModel_graph D I γ el P270216 F270217 q270218 q270219 p270220) gNA 0 0) ky_270222_SpillForgeModel_graph 210 [(10, .int g325916), (9, .int 0), (8, .int (-1)), (7, .int o325777), (6, .ref q325723), (5, .int g325680), (4, .ref q323932), (3, .int g323269), (0, .ref q270218), (1, .ref q270219), (2, .int p270220)] [] (va_pl P270216 F325917) 0 0 := by
                          intro n210_325921
                          induction n210_325921 with
                          | zero => intro F325917 g325916 bg325916 hT325918 hs325919 x325920 x325921 hm210_325921; exact absurd hm210_325921 (Nat.not_lt_zero _)
                          | succ n210_325921 ih210_325921 =>
                            intro F325917 g325916 bg325916 hT325918 hs325919 x325920 x325921 hm210_325921
                            have hs325923 : rStr γ [] F325755 F325917 := fun b h0 hb hw => (hs325919 b h0 hb hw).trans (hs325765 b h0 hb hw).symm
                            have he325924 : F325917 q270219 = .inr (18, [.ref q323282, .ref q323283, .int p323284, .int p323285]) := (hs325923 q270219 (rT0 htq270219 (by decide)) (rT1 htq270219 (by decide)) (rT2 htq270219 (by decide))).trans he325758
                            have he325925 : F325917 q323282 = .inr (4, [.int p323913, .ref q323915, .int p323914]) := (hs325923 q323282 (rT0 ht323286 (by decide)) (rT1 ht323286 (by decide)) (rT2 ht323286 (by decide))).trans he325759
                            have he325926 : F325917 q323915 = .inl (I (.object "java/lang/Object"), n323929, .inr (.inr (.inr (.inr f323930)))) := (hs325923 q323915 (rT0 r323921 (by decide)) (rT1 r323921 (by decide)) (rT2 r323921 (by decide))).trans he325760
                            have he325927 : F325917 q323932 = .inr (17, [.ref q323941, .ref q323942, .int p323943, .int p323944]) := (hs325923 q323932 (rT0 ht323937 (by decide)) (rT1 ht323937 (by decide)) (rT2 ht323937 (by decide))).trans he325761
                            have he325928 : F325917 q323941 = .inr (4, [.int p325704, .ref q325706, .int p325705]) := (hs325923 q323941 (rT0 ht323945 (by decide)) (rT1 ht323945 (by decide)) (rT2 ht323945 (by decide))).trans he325762
                            have he325929 : F325917 q325706 = .inl (I (.object "java/lang/Object"), n325720, .inr (.inr (.inr (.inr f325721)))) := (hs325923 q325706 (rT0 r325712 (by decide)) (rT1 r325712 (by decide)) (rT2 r325712 (by decide))).trans he325763
                            have he325930 : F325917 q325723 = .inr (20, [.int p325736, .int p325737, .int p325738, .int p325739, .int p325740, .int p325741, .int p325742]) := (hs325923 q325723 (rT0 ht325726 (by decide)) (rT1 ht325726 (by decide)) (rT2 ht325726 (by decide))).trans he325764
                            have hs325931 : rStr γ [] F270217 F325917 := rStr_tr hs325765 hs325923
                            have he325932 : F325917 q270218 = .inr (22, [.ref (γ 9 0), .ref (γ 9 1), .ref (γ 9 2), .ref (γ 9 3), .ref (γ 9 4), .ref (γ 9 5), .ref (γ 9 6), .ref (γ 9 7), .ref (γ 9 8), .int p270227, .int p270228, .int p270229, .int p270230, .int p270231, .int p270232, .ref (γ 9 15), .ref (γ 9 16), .ref (γ 9 17), .ref (γ 9 18), .ref (γ 9 19), .ref (γ 9 20), .ref (γ 9 21), .ref (γ 9 22), .int p270233, .int p270234, .int p270235, .int p270236, .int p270237, .ref q270225, .ref (γ 9 29), .int p270238, .ref (γ 9 31), .int p270239, .int p270240, .int p270241, .ref q270226]) := x325921.trans he270224
                            have hm325933 : q270218 ∈ P270216 := RS_m hT325918 htq270218 (by decide)
                            refine G_iload 0 dr_cX17_graph_210 rfl ?_
                            refine G_bipush 32 dr_cX17_graph_212 (by decide +kernel) ?_
                            refine G_icmp_ge 243 dr_cX17_graph_214 (by decide +kernel) (fun hc325934 => ?_) (fun hc325934 => ?_)
                            · have r325935 : 32 ≤ g325916.toInt := gj_leL hc325934 (show Int32.toInt 32 = 32 by decide)
                              have bg325916' : gB g325916 32 32 := ⟨by omega, by omega⟩
                              refine G_iload 2 dr_cX17_graph_243 rfl ?_
                              refine G_if_lt 265 dr_cX17_graph_245 (by decide +kernel) (fun _ => ?_) (fun hc => absurd hc (by decide))
                              refine G_aload_n 8 dr_cX17_graph_265 rfl ?_
                              refine Gp_get 1 hm325933 he325932 dr_cX17_graph_266 (gk_X17 D I) (Nat.le_of_ble_eq_true rfl) wr_7_75 rfl ?_
                              refine G_iload 3 dr_cX17_graph_269 rfl ?_
                              have hm325936 : (γ 9 1) ∈ P270216 := RS_m hT325918 ht270245 (by decide)
                              obtain ⟨f325938, he325937, hg325939⟩ := show rk_13 I γ (F325917 (γ 9 1)) from RS_o hT325918 ht270245
                              obtain ⟨q325940, hx325942⟩ : ∃ x, x = γ 11 o325777.toInt.toNat := ⟨_, rfl⟩
                              have ht325941 : rKd γ q325940 36 := by rw [hx325942]; exact (hg325939 _ (show o325777.toInt.toNat < 2000 by omega)).2.1
                              refine Gp_aald 5 hm325936 he325937 dr_cX17_graph_271 rfl rfl (gB_in bo325777' (by decide) (by decide)) ?_
                              rw [show f325938 o325777.toNatClampNeg = some q325940 from (hg325939 _ (show o325777.toInt.toNat < 2000 by omega)).1.trans (by rw [hx325942])]
                              change G _ _ _ _ _ _ _ (.ref q325940 :: _) _ _ _
                              refine G_iload 3 dr_cX17_graph_272 rfl ?_
                              have hm325943 : q325940 ∈ P270216 := RS_m hT325918 ht325941 (by decide)
                              obtain ⟨f325945, he325944, wf325945⟩ := show rk_36 I (F325917 q325940) from RS_o hT325918 ht325941
                              refine Gw_callS (As := [.ref q325940, .int o325777]) (gV_ok D I) (cp_1873_SpillForgeModel_clear l hl0 D I P270216 F325917 q325940 o325777 f325945 hm325943 he325944 bo325777' wf325945) dr_cX17_graph_274 ⟨wr_10_185, wr_1_14, wr_10_187, by decide, rfl, (Nat.le_of_ble_eq_true rfl), (Nat.le_of_ble_eq_true rfl)⟩ wr_10_186 (show 0 + 0 ≤ 0 by first | omega | decide) (show 0 + 0 ≤ 0 by first | omega | decide) (Nat.le_of_ble_eq_true rfl) (fun r325949 w325950 dc325946 ds325947 hp325948 => ?_) (fun _ _ _ _ _ z => z.elim)
                              obtain ⟨F325953, f325951, rfl, rfl, hfr325955, he325956, hdc, hds, x325952⟩ := hp325948
                              have he325957 : F325953 q270219 = .inr (18, [.ref q323282, .ref q323283, .int p323284, .int p323285]) := (hfr325955 q270219 hm323280 (nm_c (rn_oa he325924 he325944) nm_n)).trans he325924
                              have he325958 : F325953 q323282 = .inr (4, [.int p323913, .ref q323915, .int p323914]) := (hfr325955 q323282 hm323911 (nm_c (rn_oa he325925 he325944) nm_n)).trans he325925
                              have he325959 : F325953 q323915 = .inl (I (.object "java/lang/Object"), n323929, .inr (.inr (.inr (.inr f323930)))) := (hfr325955 q323915 hm323931 (nm_c (rn_ref_long he325926 he325944) nm_n)).trans he325926
                              have he325960 : F325953 q323932 = .inr (17, [.ref q323941, .ref q323942, .int p323943, .int p323944]) := (hfr325955 q323932 hm323939 (nm_c (rn_oa he325927 he325944) nm_n)).trans he325927
                              have he325961 : F325953 q323941 = .inr (4, [.int p325704, .ref q325706, .int p325705]) := (hfr325955 q323941 hm325702 (nm_c (rn_oa he325928 he325944) nm_n)).trans he325928
                              have he325962 : F325953 q325706 = .inl (I (.object "java/lang/Object"), n325720, .inr (.inr (.inr (.inr f325721)))) := (hfr325955 q325706 hm325722 (nm_c (rn_ref_long he325929 he325944) nm_n)).trans he325929
                              have he325963 : F325953 q325723 = .inr (20, [.int p325736, .int p325737, .int p325738, .int p325739, .int p325740, .int p325741, .int p325742]) := (hfr325955 q325723 hm325734 (nm_c (rn_oa he325930 he325944) nm_n)).trans he325930
                              have he325964 : F325953 q270218 = .inr (22, [.ref (γ 9 0), .ref (γ 9 1), .ref (γ 9 2), .ref (γ 9 3), .ref (γ 9 4), .ref (γ 9 5), .ref (γ 9 6), .ref (γ 9 7), .ref (γ 9 8), .int p270227, .int p270228, .int p270229, .int p270230, .int p270231, .int p270232, .ref (γ 9 15), .ref (γ 9 16), .ref (γ 9 17), .ref (γ 9 18), .ref (γ 9 19), .ref (γ 9 20), .ref (γ 9 21), .ref (γ 9 22), .int p270233, .int p270234, .int p270235, .int p270236, .int p270237, .ref q270225, .ref (γ 9 29), .int p270238, .ref (γ 9 31), .int p270239, .int p270240, .int p270241, .ref q270226]) := (hfr325955 q270218 hm325933 (nm_c (rn_oa he325932 he325944) nm_n)).trans he325932
                              have he325965 : F325953 (γ 9 1) = .inl (I (.array .long), 2000, .inr (.inr (.inr (.inr f325938)))) := (hfr325955 (γ 9 1) hm325936 (nm_c (rn_ref_long he325937 he325944) nm_n)).trans he325937
                              have hfr325966 : rFr [q325940] P270216 F325917 F325953 := rFr_call (rSub_rf (P := P270216)) (rFr_rf (W := []) (P := P270216) (F := F325917)) hfr325955 (fun b hb hn => ⟨nm_n, (nm_c (fun e => hn (e ▸ List.mem_cons_self)) nm_n)⟩)
                              change G _ _ _ _ _ _ _ _ _ _ _
                              refine G_widen (cs' := 0) (sl' := 0) (by omega) (by omega) ?_
                              have hT325967 : RS D I P270216 F325953 γ el := RS_fr hT325918 hfr325966 ht325941 (by decide) ⟨f325951, he325956, x325952⟩
                              have hs325968 : rStr γ [] F270217 F325953 := rStr_fr hT325918 hs325919 hfr325966 ht325941 (by decide)
                              have kp325969 : F325953 q270218 = F270217 q270218 := (hfr325966 q270218 (RS_m hT325918 htq270218 (by decide)) (nm_c (rn_ty htq270218 ht325941 (by decide)) nm_n)).trans x325921
                              have kp325970 : F325953 (γ 9 3) = F325917 (γ 9 3) := hfr325966 (γ 9 3) (RS_m hT325918 ht270247 (by decide)) (nm_c (rn_ty ht270247 ht325941 (by decide)) nm_n)
                              refine G_aload_n 8 dr_cX17_graph_277 rfl ?_
                              refine G_aload 4 dr_cX17_graph_278 rfl ?_
                              refine G_iload_n 10 dr_cX17_graph_280 rfl ?_
                              refine Gw_callV (As := [.ref q325723, .int p270220]) (gV_ok D I) (ct_276931_SpillForgeModel_back l hl0 D I γ el P270216 F325953 q270218 q325723 p270220 hT325967 htq270218 ht325726 (gB_w bp270220' (by decide) (by decide))) dr_cX17_graph_281 ⟨wr_10_174, wr_1_14, wr_10_177, by decide, rfl, (Nat.le_of_ble_eq_true rfl), (Nat.le_of_ble_eq_true rfl)⟩ wr_10_176 wr_p_96 hm325933 he325964 rfl (show 0 + 0 ≤ 0 by first | omega | decide) (show 0 + 0 ≤ 0 by first | omega | decide) (Nat.le_of_ble_eq_true rfl) (fun r325974 w325975 dc325971 ds325972 hp325973 => ?_) (fun _ _ _ _ _ z => z.elim)
                              obtain ⟨F325978, rfl, rfl, hT325979, hs325980, hdc, hds, x325976, x325977⟩ := hp325973
                              have he325981 : F325978 q270219 = .inr (18, [.ref q323282, .ref q323283, .int p323284, .int p323285]) := (hs325980 q270219 (rT0 htq270219 (by decide)) (rT1 htq270219 (by decide)) (rT2 htq270219 (by decide))).trans he325957
                              have he325982 : F325978 q323282 = .inr (4, [.int p323913, .ref q323915, .int p323914]) := (hs325980 q323282 (rT0 ht323286 (by decide)) (rT1 ht323286 (by decide)) (rT2 ht323286 (by decide))).trans he325958
                              have he325983 : F325978 q323915 = .inl (I (.object "java/lang/Object"), n323929, .inr (.inr (.inr (.inr f323930)))) := (hs325980 q323915 (rT0 r323921 (by decide)) (rT1 r323921 (by decide)) (rT2 r323921 (by decide))).trans he325959
                              have he325984 : F325978 q323932 = .inr (17, [.ref q323941, .ref q323942, .int p323943, .int p323944]) := (hs325980 q323932 (rT0 ht323937 (by decide)) (rT1 ht323937 (by decide)) (rT2 ht323937 (by decide))).trans he325960
                              have he325985 : F325978 q323941 = .inr (4, [.int p325704, .ref q325706, .int p325705]) := (hs325980 q323941 (rT0 ht323945 (by decide)) (rT1 ht323945 (by decide)) (rT2 ht323945 (by decide))).trans he325961
                              have he325986 : F325978 q325706 = .inl (I (.object "java/lang/Object"), n325720, .inr (.inr (.inr (.inr f325721)))) := (hs325980 q325706 (rT0 r325712 (by decide)) (rT1 r325712 (by decide)) (rT2 r325712 (by decide))).trans he325962
                              have he325987 : F325978 q325723 = .inr (20, [.int p325736, .int p325737, .int p325738, .int p325739, .int p325740, .int p325741, .int p325742]) := (hs325980 q325723 (rT0 ht325726 (by decide)) (rT1 ht325726 (by decide)) (rT2 ht325726 (by decide))).trans he325963
                              have hs325988 : rStr γ [] F270217 F325978 := rStr_tr hs325968 hs325980
                              have kp325989 : F325978 q270218 = F270217 q270218 := (x325976).trans kp325969
                              have kp325990 : F325978 (γ 9 3) = F325917 (γ 9 3) := (x325977).trans kp325970
                              have he325991 : F325978 q270218 = .inr (22, [.ref (γ 9 0), .ref (γ 9 1), .ref (γ 9 2), .ref (γ 9 3), .ref (γ 9 4), .ref (γ 9 5), .ref (γ 9 6), .ref (γ 9 7), .ref (γ 9 8), .int p270227, .int p270228, .int p270229, .int p270230, .int p270231, .int p270232, .ref (γ 9 15), .ref (γ 9 16), .ref (γ 9 17), .ref (γ 9 18), .ref (γ 9 19), .ref (γ 9 20), .ref (γ 9 21), .ref (γ 9 22), .int p270233, .int p270234, .int p270235, .int p270236, .int p270237, .ref q270225, .ref (γ 9 29), .int p270238, .ref (γ 9 31), .int p270239, .int p270240, .int p270241, .ref q270226]) := (x325976).trans he325964
                              change G _ _ _ _ _ _ _ _ _ _ _
                              refine G_widen (cs' := 0) (sl' := 0) (by omega) (by omega) ?_
                              obtain ⟨z325992, hz325992⟩ : ∃ z : Int32, z = g325680 + Int32.ofInt (-1) := ⟨_, rfl⟩
                              have ez325992 : z325992.toInt = g325680.toInt + (-1) := gI_inc hz325992 (by decide) bg325680' (by decide) (by decide)
                              have bz325992 : gB z325992 (-1) 999998 := ⟨by omega, by omega⟩
                              refine G_iinc (L' := [(5, .int z325992), (10, .int g325916), (9, .int 0), (8, .int (-1)), (7, .int o325777), (6, .ref q325723), (4, .ref q323932), (3, .int g323269), (0, .ref q270218), (1, .ref q270219), (2, .int p270220)]) z325992 5 dr_cX17_graph_284 rfl hz325992.symm (Nat.le_of_ble_eq_true rfl) rfl ?_
                              refine G_goto 109 dr_cX17_graph_287 (by decide +kernel) ?_
                              refine G_lv (L' := [(5, .int z325992), (4, .ref q323932), (3, .int g323269), (0, .ref q270218), (1, .ref q270219), (2, .int p270220)]) [0, 6, 7, 8, 9, 10] rfl ?_
                              exact ih109_325686 F325978 z325992 (gB_w bz325992 (by decide) (by decide)) hT325979 hs325988 (by omega) (fun h0 => by have z := x325920 h0; rw [← kp325990] at z; rw [show ((g325680.toInt : Int).toNat : Nat) = (z325992.toInt + 1 : Int).toNat by omega] at z; exact z) kp325989 (mz_dn ez325992 (Int.le_trans (by decide) bg325680'.1) hm109_325686)
                            · have r325993 : g325916.toInt < 32 := gj_nleL hc325934 (show Int32.toInt 32 = 32 by decide)
                              have bg325916' : gB g325916 0 31 := ⟨by omega, by omega⟩
                              refine G_aload_n 8 dr_cX17_graph_217 rfl ?_
                              refine Gp_get 1 hm325933 he325932 dr_cX17_graph_218 (gk_X17 D I) (Nat.le_of_ble_eq_true rfl) wr_7_75 rfl ?_
                              refine G_iload 3 dr_cX17_graph_221 rfl ?_
                              have hm325994 : (γ 9 1) ∈ P270216 := RS_m hT325918 ht270245 (by decide)
                              obtain ⟨f325996, he325995, hg325997⟩ := show rk_13 I γ (F325917 (γ 9 1)) from RS_o hT325918 ht270245
                              obtain ⟨q325998, hx326000⟩ : ∃ x, x = γ 11 o325777.toInt.toNat := ⟨_, rfl⟩
                              have ht325999 : rKd γ q325998 36 := by rw [hx326000]; exact (hg325997 _ (show o325777.toInt.toNat < 2000 by omega)).2.1
                              refine Gp_aald 5 hm325994 he325995 dr_cX17_graph_223 rfl rfl (gB_in bo325777' (by decide) (by decide)) ?_
                              rw [show f325996 o325777.toNatClampNeg = some q325998 from (hg325997 _ (show o325777.toInt.toNat < 2000 by omega)).1.trans (by rw [hx326000])]
                              change G _ _ _ _ _ _ _ (.ref q325998 :: _) _ _ _
                              refine G_iload 0 dr_cX17_graph_224 rfl ?_
                              refine G_dup2_11 dr_cX17_graph_226 rfl rfl ?_
                              have hm326001 : q325998 ∈ P270216 := RS_m hT325918 ht325999 (by decide)
                              obtain ⟨f326003, he326002, wf326003⟩ := show rk_36 I (F325917 q325998) from RS_o hT325918 ht325999
                              refine Gp_lald 2 hm326001 he326002 dr_cX17_graph_227 rfl (gB_in bg325916' (by decide) (by decide)) (G_namL fun u326004 hu326004 => ?_)
                              have qu326004 : lb_Q u326004 (2000 - 64 * g325916.toInt) := lb_Wld hu326004 wf326003 (by omega) (by omega) (lb_Mod0 (by omega) (by omega))
                              refine G_aload_n 8 dr_cX17_graph_228 rfl ?_
                              refine Gp_get 2 hm325933 he325932 dr_cX17_graph_229 (gk_X17 D I) (Nat.le_of_ble_eq_true rfl) wr_7_76 rfl ?_
                              refine G_iload 0 dr_cX17_graph_232 rfl ?_
                              have hm326005 : (γ 9 2) ∈ P270216 := RS_m hT325918 ht270246 (by decide)
                              obtain ⟨f326007, he326006, wf326007⟩ := show rk_35 I (F325917 (γ 9 2)) from RS_o hT325918 ht270246
                              refine Gp_lald 2 hm326005 he326006 dr_cX17_graph_234 rfl (gB_in bg325916' (by decide) (by decide)) (G_namL fun u326008 hu326008 => ?_)
                              have qu326008 : lb_Q u326008 (2000 - 64 * g325916.toInt) := lb_Wld hu326008 wf326007 (by omega) (by omega) (lb_Mod0 (by omega) (by omega))
                              refine G_lor dr_cX17_graph_235 (G_namL fun u326009 hu326009 => ?_)
                              have qu326009 : lb_Q u326009 (2000 - 64 * g325916.toInt) := lb_Qor hu326009 qu326004 qu326008
                              refine Gp_last 2 hm326001 he326002 dr_cX17_graph_236 rfl (gB_in bg325916' (by decide) (by decide)) (fun F326010 e326011 n326012 => ?_)
                              obtain ⟨f326013, hf326013⟩ : ∃ z, z = vp_updL f326003 g325916.toNatClampNeg u326009 := ⟨_, rfl⟩
                              rw [← hf326013] at e326011
                              have he326014 : F326010 q270219 = .inr (18, [.ref q323282, .ref q323283, .int p323284, .int p323285]) := (n326012 q270219 (rn_oa he325924 he326002)).trans he325924
                              have he326015 : F326010 q323282 = .inr (4, [.int p323913, .ref q323915, .int p323914]) := (n326012 q323282 (rn_oa he325925 he326002)).trans he325925
                              have he326016 : F326010 q323915 = .inl (I (.object "java/lang/Object"), n323929, .inr (.inr (.inr (.inr f323930)))) := (n326012 q323915 (rn_ref_long he325926 he326002)).trans he325926
                              have he326017 : F326010 q323932 = .inr (17, [.ref q323941, .ref q323942, .int p323943, .int p323944]) := (n326012 q323932 (rn_oa he325927 he326002)).trans he325927
                              have he326018 : F326010 q323941 = .inr (4, [.int p325704, .ref q325706, .int p325705]) := (n326012 q323941 (rn_oa he325928 he326002)).trans he325928
                              have he326019 : F326010 q325706 = .inl (I (.object "java/lang/Object"), n325720, .inr (.inr (.inr (.inr f325721)))) := (n326012 q325706 (rn_ref_long he325929 he326002)).trans he325929
                              have he326020 : F326010 q325723 = .inr (20, [.int p325736, .int p325737, .int p325738, .int p325739, .int p325740, .int p325741, .int p325742]) := (n326012 q325723 (rn_oa he325930 he326002)).trans he325930
                              have he326021 : F326010 q270218 = .inr (22, [.ref (γ 9 0), .ref (γ 9 1), .ref (γ 9 2), .ref (γ 9 3), .ref (γ 9 4), .ref (γ 9 5), .ref (γ 9 6), .ref (γ 9 7), .ref (γ 9 8), .int p270227, .int p270228, .int p270229, .int p270230, .int p270231, .int p270232, .ref (γ 9 15), .ref (γ 9 16), .ref (γ 9 17), .ref (γ 9 18), .ref (γ 9 19), .ref (γ 9 20), .ref (γ 9 21), .ref (γ 9 22), .int p270233, .int p270234, .int p270235, .int p270236, .int p270237, .ref q270225, .ref (γ 9 29), .int p270238, .ref (γ 9 31), .int p270239, .int p270240, .int p270241, .ref q270226]) := (n326012 q270218 (rn_oa he325932 he326002)).trans he325932
                              have he326022 : F326010 (γ 9 1) = .inl (I (.array .long), 2000, .inr (.inr (.inr (.inr f325996)))) := (n326012 (γ 9 1) (rn_ref_long he325995 he326002)).trans he325995
                              have he326023 : F326010 (γ 9 2) = .inl (I .long, 32, .inr (.inl f326007)) := (n326012 (γ 9 2) (rn_ty ht270246 ht325999 (by decide))).trans he326006
                              have he326024 : F326010 q325998 = .inl (I .long, 32, .inr (.inl f326013)) := e326011
                              have hs326025 : rStr γ [] F270217 F326010 := rStr_put hs325919 n326012 ht325999 (by decide)
                              have kp326026 : F326010 q270218 = F270217 q270218 := (n326012 q270218 (rn_ty htq270218 ht325999 (by decide))).trans x325921
                              have kp326027 : F326010 (γ 9 3) = F325917 (γ 9 3) := n326012 (γ 9 3) (rn_ty ht270247 ht325999 (by decide))
                              have wf326013 : lb_W f326013 (32) (32) (2000) := lb_Wst hf326013 wf326003 (by omega) (lb_Mod0 (by omega) (by omega)) qu326009
                              obtain ⟨z326028, hz326028⟩ : ∃ z : Int32, z = g325916 + Int32.ofInt 1 := ⟨_, rfl⟩
                              have ez326028 : z326028.toInt = g325916.toInt + 1 := gI_inc hz326028 (by decide) bg325916' (by decide) (by decide)
                              have bz326028 : gB z326028 1 32 := ⟨by omega, by omega⟩
                              refine G_iinc (L' := [(10, .int z326028), (9, .int 0), (8, .int (-1)), (7, .int o325777), (6, .ref q325723), (5, .int g325680), (4, .ref q323932), (3, .int g323269), (0, .ref q270218), (1, .ref q270219), (2, .int p270220)]) z326028 0 dr_cX17_graph_237 rfl hz326028.symm (Nat.le_of_ble_eq_true rfl) rfl ?_
                              refine G_goto 210 dr_cX17_graph_240 (by decide +kernel) ?_
                              have hT326029 : RS D I P270216 F326010 γ el := RS_set hT325918 n326012 ht325999 (by decide) ⟨f326013, he326024, wf326013⟩
                              exact ih210_325921 F326010 z326028 (gB_w bz326028 (by decide) (by decide)) hT326029 hs326025 (by rw [kp326027]; exact x325920) kp326026 (mz_up ez326028 (Int.le_trans bg325916'.2 (by decide)) hm210_325921)
                        exact hlp210_325921 (((33 : Int) - 0).toNat + 1) F325755 0 (gB_w (gBl (show Int32.toInt 0 = 0 by decide)) (by decide) (by decide)) hT325756 hs325765 gr325771 kp325766 (Nat.lt_succ_self _)
                    · have r326030 : p270220.toInt = 0 := gj_eq hc325778 (show Int32.toInt 0 = 0 by decide)
                      have bp270220' : gB p270220 0 0 := gB_t0 r326030
                      refine G_aload 1 dr_cX17_graph_148 rfl ?_
                      refine Gp_get 0 hm325734 he325764 dr_cX17_graph_150 (gk_X15 D I) (Nat.le_of_ble_eq_true rfl) wr_9_177 rfl ?_
                      refine G_if_ne 172 dr_cX17_graph_153 (by decide +kernel) (fun hc326031 => ?_) (fun hc326031 => ?_)
                      · have r326032 : p325736.toInt ≠ 0 := gj_neq hc326031 (show Int32.toInt 0 = 0 by decide)
                        have bp325736' : gB p325736 1 32 := ⟨by omega, by omega⟩
                        refine G_iconst (-1) dr_cX17_graph_172 (by decide +kernel) ?_
                        refine G_istore (L' := [(8, .int (-1)), (7, .int o325777), (6, .ref q325723), (5, .int g325680), (4, .ref q323932), (3, .int g323269), (0, .ref q270218), (1, .ref q270219), (2, .int p270220)]) dr_cX17_graph_173 (Nat.le_of_ble_eq_true rfl) rfl ?_
                        refine G_iload 1 dr_cX17_graph_175 rfl ?_
                        refine G_if_lt 277 dr_cX17_graph_177 (by decide +kernel) (fun hc326033 => ?_) (fun hc326033 => ?_)
                        · have r326034 : o325777.toInt < 0 := gj_lt hc326033 (show Int32.toInt 0 = 0 by decide)
                          have bo325777' : gB o325777 (-1) (-1) := ⟨by omega, by omega⟩
                          refine G_aload_n 6 dr_cX17_graph_277 rfl ?_
                          refine G_aload 2 dr_cX17_graph_278 rfl ?_
                          refine G_iload_n 8 dr_cX17_graph_280 rfl ?_
                          refine Gw_callV (As := [.ref q325723, .int p270220]) (gV_ok D I) (ct_276931_SpillForgeModel_back l hl0 D I γ el P270216 F325755 q270218 q325723 p270220 hT325756 htq270218 ht325726 (gB_w bp270220' (by decide) (by decide))) dr_cX17_graph_281 ⟨wr_10_174, wr_1_14, wr_10_177, by decide, rfl, (Nat.le_of_ble_eq_true rfl), (Nat.le_of_ble_eq_true rfl)⟩ wr_10_176 wr_p_96 hm325696 he325767 rfl (show 0 + 0 ≤ 0 by first | omega | decide) (show 0 + 0 ≤ 0 by first | omega | decide) (Nat.le_of_ble_eq_true rfl) (fun r326038 w326039 dc326035 ds326036 hp326037 => ?_) (fun _ _ _ _ _ z => z.elim)
                          obtain ⟨F326042, rfl, rfl, hT326043, hs326044, hdc, hds, x326040, x326041⟩ := hp326037
                          have he326045 : F326042 q270219 = .inr (18, [.ref q323282, .ref q323283, .int p323284, .int p323285]) := (hs326044 q270219 (rT0 htq270219 (by decide)) (rT1 htq270219 (by decide)) (rT2 htq270219 (by decide))).trans he325758
                          have he326046 : F326042 q323282 = .inr (4, [.int p323913, .ref q323915, .int p323914]) := (hs326044 q323282 (rT0 ht323286 (by decide)) (rT1 ht323286 (by decide)) (rT2 ht323286 (by decide))).trans he325759
                          have he326047 : F326042 q323915 = .inl (I (.object "java/lang/Object"), n323929, .inr (.inr (.inr (.inr f323930)))) := (hs326044 q323915 (rT0 r323921 (by decide)) (rT1 r323921 (by decide)) (rT2 r323921 (by decide))).trans he325760
                          have he326048 : F326042 q323932 = .inr (17, [.ref q323941, .ref q323942, .int p323943, .int p323944]) := (hs326044 q323932 (rT0 ht323937 (by decide)) (rT1 ht323937 (by decide)) (rT2 ht323937 (by decide))).trans he325761
                          have he326049 : F326042 q323941 = .inr (4, [.int p325704, .ref q325706, .int p325705]) := (hs326044 q323941 (rT0 ht323945 (by decide)) (rT1 ht323945 (by decide)) (rT2 ht323945 (by decide))).trans he325762
                          have he326050 : F326042 q325706 = .inl (I (.object "java/lang/Object"), n325720, .inr (.inr (.inr (.inr f325721)))) := (hs326044 q325706 (rT0 r325712 (by decide)) (rT1 r325712 (by decide)) (rT2 r325712 (by decide))).trans he325763
                          have he326051 : F326042 q325723 = .inr (20, [.int p325736, .int p325737, .int p325738, .int p325739, .int p325740, .int p325741, .int p325742]) := (hs326044 q325723 (rT0 ht325726 (by decide)) (rT1 ht325726 (by decide)) (rT2 ht325726 (by decide))).trans he325764
                          have hs326052 : rStr γ [] F270217 F326042 := rStr_tr hs325765 hs326044
                          have kp326053 : F326042 q270218 = F270217 q270218 := (x326040).trans kp325766
                          have kp326054 : F326042 (γ 9 3) = F325755 (γ 9 3) := x326041
                          have he326055 : F326042 q270218 = .inr (22, [.ref (γ 9 0), .ref (γ 9 1), .ref (γ 9 2), .ref (γ 9 3), .ref (γ 9 4), .ref (γ 9 5), .ref (γ 9 6), .ref (γ 9 7), .ref (γ 9 8), .int p270227, .int p270228, .int p270229, .int p270230, .int p270231, .int p270232, .ref (γ 9 15), .ref (γ 9 16), .ref (γ 9 17), .ref (γ 9 18), .ref (γ 9 19), .ref (γ 9 20), .ref (γ 9 21), .ref (γ 9 22), .int p270233, .int p270234, .int p270235, .int p270236, .int p270237, .ref q270225, .ref (γ 9 29), .int p270238, .ref (γ 9 31), .int p270239, .int p270240, .int p270241, .ref q270226]) := (x326040).trans he325767
                          change G _ _ _ _ _ _ _ _ _ _ _
                          refine G_widen (cs' := 0) (sl' := 0) (by omega) (by omega) ?_
                          obtain ⟨z326056, hz326056⟩ : ∃ z : Int32, z = g325680 + Int32.ofInt (-1) := ⟨_, rfl⟩
                          have ez326056 : z326056.toInt = g325680.toInt + (-1) := gI_inc hz326056 (by decide) bg325680' (by decide) (by decide)
                          have bz326056 : gB z326056 (-1) 999998 := ⟨by omega, by omega⟩
                          refine G_iinc (L' := [(5, .int z326056), (8, .int (-1)), (7, .int o325777), (6, .ref q325723), (4, .ref q323932), (3, .int g323269), (0, .ref q270218), (1, .ref q270219), (2, .int p270220)]) z326056 3 dr_cX17_graph_284 rfl hz326056.symm (Nat.le_of_ble_eq_true rfl) rfl ?_
                          refine G_goto 109 dr_cX17_graph_287 (by decide +kernel) ?_
                          refine G_lv (L' := [(5, .int z326056), (4, .ref q323932), (3, .int g323269), (0, .ref q270218), (1, .ref q270219), (2, .int p270220)]) [0, 4, 5, 6, 7, 8] rfl ?_
                          exact ih109_325686 F326042 z326056 (gB_w bz326056 (by decide) (by decide)) hT326043 hs326052 (by omega) (fun h0 => by have z := gr325771 h0; rw [← kp326054] at z; rw [show ((g325680.toInt : Int).toNat : Nat) = (z326056.toInt + 1 : Int).toNat by omega] at z; exact z) kp326053 (mz_dn ez326056 (Int.le_trans (by decide) bg325680'.1) hm109_325686)
                        · have r326057 : 0 ≤ o325777.toInt := gj_nlt hc326033 (show Int32.toInt 0 = 0 by decide)
                          have bo325777' : gB o325777 0 1999 := ⟨by omega, by omega⟩
                          refine G_iload 0 dr_cX17_graph_180 rfl ?_
                          refine G_if_lt 204 dr_cX17_graph_182 (by decide +kernel) (fun _ => ?_) (fun hc => absurd hc (by decide))
                          refine G_iconst 0 dr_cX17_graph_204 (by decide +kernel) ?_
                          refine G_istore (L' := [(9, .int 0), (8, .int (-1)), (7, .int o325777), (6, .ref q325723), (5, .int g325680), (4, .ref q323932), (3, .int g323269), (0, .ref q270218), (1, .ref q270219), (2, .int p270220)]) dr_cX17_graph_205 (Nat.le_of_ble_eq_true rfl) rfl ?_
                          refine G_iconst 0 dr_cX17_graph_207 (by decide +kernel) ?_
                          refine G_istore (L' := [(10, .int 0), (9, .int 0), (8, .int (-1)), (7, .int o325777), (6, .ref q325723), (5, .int g325680), (4, .ref q323932), (3, .int g323269), (0, .ref q270218), (1, .ref q270219), (2, .int p270220)]) dr_cX17_graph_208 (Nat.le_of_ble_eq_true rfl) rfl ?_
                          have hlp210_326174 : ∀ (n210_326174 : Nat) (F326170 : Nat → va_E) (g326169 : Int32), gB g326169 0 32 → RS D I P270216 F326170 γ el → rStr γ [] F270217 F326170 → (gIp (p270220.toInt = 0) (rGr γ el F270217 q270219 (γ 6 (γ 1 q270219)) (cB (F326170 (γ 9 3))) (vB (g323269.toInt : Int).toNat (g325680.toInt : Int).toNat))) → (F326170 q270218 = F270217 q270218) → ((33 : Int) - g326169.toInt).toNat < n210_326174 → G (gV D I) l (gRm 5 111 0 0) (gMA (gV D I) (pt_270222_SpillForgeModel_graph D I γ el P270216 F270217 q270218 q270219 p270220) gNA 0 0) ky_270222_SpillForgeModel_graph 210 [(10, .int g326169), (9, .int 0), (8, .int (-1)), (7, .int o325777), (6, .ref q325723), (5, .int g325680), (4, .ref q323932), (3, .int g323269), (0, .ref q270218), (1, .ref q270219), (2, .int p270220)] [] (va_pl P270216 F326170) 0 0 := by
                            intro n210_326174
                            induction n210_326174 with
                            | zero => intro F326170 g326169 bg326169 hT326171 hs326172 x326173 x326174 hm210_326174; exact absurd hm210_326174 (Nat.not_lt_zero _)
                            | succ n210_326174 ih210_326174 =>
                              intro F326170 g326169 bg326169 hT326171 hs326172 x326173 x326174 hm210_326174
                              have hs326176 : rStr γ [] F325755 F326170 := fun b h0 hb hw => (hs326172 b h0 hb hw).trans (hs325765 b h0 hb hw).symm
                              have he326177 : F326170 q270219 = .inr (18, [.ref q323282, .ref q323283, .int p323284, .int p323285]) := (hs326176 q270219 (rT0 htq270219 (by decide)) (rT1 htq270219 (by decide)) (rT2 htq270219 (by decide))).trans he325758
                              have he326178 : F326170 q323282 = .inr (4, [.int p323913, .ref q323915, .int p323914]) := (hs326176 q323282 (rT0 ht323286 (by decide)) (rT1 ht323286 (by decide)) (rT2 ht323286 (by decide))).trans he325759
                              have he326179 : F326170 q323915 = .inl (I (.object "java/lang/Object"), n323929, .inr (.inr (.inr (.inr f323930)))) := (hs326176 q323915 (rT0 r323921 (by decide)) (rT1 r323921 (by decide)) (rT2 r323921 (by decide))).trans he325760
                              have he326180 : F326170 q323932 = .inr (17, [.ref q323941, .ref q323942, .int p323943, .int p323944]) := (hs326176 q323932 (rT0 ht323937 (by decide)) (rT1 ht323937 (by decide)) (rT2 ht323937 (by decide))).trans he325761
                              have he326181 : F326170 q323941 = .inr (4, [.int p325704, .ref q325706, .int p325705]) := (hs326176 q323941 (rT0 ht323945 (by decide)) (rT1 ht323945 (by decide)) (rT2 ht323945 (by decide))).trans he325762
                              have he326182 : F326170 q325706 = .inl (I (.object "java/lang/Object"), n325720, .inr (.inr (.inr (.inr f325721)))) := (hs326176 q325706 (rT0 r325712 (by decide)) (rT1 r325712 (by decide)) (rT2 r325712 (by decide))).trans he325763
                              have he326183 : F326170 q325723 = .inr (20, [.int p325736, .int p325737, .int p325738, .int p325739, .int p325740, .int p325741, .int p325742]) := (hs326176 q325723 (rT0 ht325726 (by decide)) (rT1 ht325726 (by decide)) (rT2 ht325726 (by decide))).trans he325764
                              have hs326184 : rStr γ [] F270217 F326170 := rStr_tr hs325765 hs326176
                              have he326185 : F326170 q270218 = .inr (22, [.ref (γ 9 0), .ref (γ 9 1), .ref (γ 9 2), .ref (γ 9 3), .ref (γ 9 4), .ref (γ 9 5), .ref (γ 9 6), .ref (γ 9 7), .ref (γ 9 8), .int p270227, .int p270228, .int p270229, .int p270230, .int p270231, .int p270232, .ref (γ 9 15), .ref (γ 9 16), .ref (γ 9 17), .ref (γ 9 18), .ref (γ 9 19), .ref (γ 9 20), .ref (γ 9 21), .ref (γ 9 22), .int p270233, .int p270234, .int p270235, .int p270236, .int p270237, .ref q270225, .ref (γ 9 29), .int p270238, .ref (γ 9 31), .int p270239, .int p270240, .int p270241, .ref q270226]) := x326174.trans he270224
                              have hm326186 : q270218 ∈ P270216 := RS_m hT326171 htq270218 (by decide)
                              refine G_iload 0 dr_cX17_graph_210 rfl ?_
                              refine G_bipush 32 dr_cX17_graph_212 (by decide +kernel) ?_
                              refine G_icmp_ge 243 dr_cX17_graph_214 (by decide +kernel) (fun hc326187 => ?_) (fun hc326187 => ?_)
                              · have r326188 : 32 ≤ g326169.toInt := gj_leL hc326187 (show Int32.toInt 32 = 32 by decide)
                                have bg326169' : gB g326169 32 32 := ⟨by omega, by omega⟩
                                refine G_iload 2 dr_cX17_graph_243 rfl ?_
                                refine G_if_lt 265 dr_cX17_graph_245 (by decide +kernel) (fun _ => ?_) (fun hc => absurd hc (by decide))
                                refine G_aload_n 8 dr_cX17_graph_265 rfl ?_
                                refine Gp_get 1 hm326186 he326185 dr_cX17_graph_266 (gk_X17 D I) (Nat.le_of_ble_eq_true rfl) wr_7_75 rfl ?_
                                refine G_iload 3 dr_cX17_graph_269 rfl ?_
                                have hm326189 : (γ 9 1) ∈ P270216 := RS_m hT326171 ht270245 (by decide)
                                obtain ⟨f326191, he326190, hg326192⟩ := show rk_13 I γ (F326170 (γ 9 1)) from RS_o hT326171 ht270245
                                obtain ⟨q326193, hx326195⟩ : ∃ x, x = γ 11 o325777.toInt.toNat := ⟨_, rfl⟩
                                have ht326194 : rKd γ q326193 36 := by rw [hx326195]; exact (hg326192 _ (show o325777.toInt.toNat < 2000 by omega)).2.1
                                refine Gp_aald 5 hm326189 he326190 dr_cX17_graph_271 rfl rfl (gB_in bo325777' (by decide) (by decide)) ?_
                                rw [show f326191 o325777.toNatClampNeg = some q326193 from (hg326192 _ (show o325777.toInt.toNat < 2000 by omega)).1.trans (by rw [hx326195])]
                                change G _ _ _ _ _ _ _ (.ref q326193 :: _) _ _ _
                                refine G_iload 3 dr_cX17_graph_272 rfl ?_
                                have hm326196 : q326193 ∈ P270216 := RS_m hT326171 ht326194 (by decide)
                                obtain ⟨f326198, he326197, wf326198⟩ := show rk_36 I (F326170 q326193) from RS_o hT326171 ht326194
                                refine Gw_callS (As := [.ref q326193, .int o325777]) (gV_ok D I) (cp_1873_SpillForgeModel_clear l hl0 D I P270216 F326170 q326193 o325777 f326198 hm326196 he326197 bo325777' wf326198) dr_cX17_graph_274 ⟨wr_10_185, wr_1_14, wr_10_187, by decide, rfl, (Nat.le_of_ble_eq_true rfl), (Nat.le_of_ble_eq_true rfl)⟩ wr_10_186 (show 0 + 0 ≤ 0 by first | omega | decide) (show 0 + 0 ≤ 0 by first | omega | decide) (Nat.le_of_ble_eq_true rfl) (fun r326202 w326203 dc326199 ds326200 hp326201 => ?_) (fun _ _ _ _ _ z => z.elim)
                                obtain ⟨F326206, f326204, rfl, rfl, hfr326208, he326209, hdc, hds, x326205⟩ := hp326201
                                have he326210 : F326206 q270219 = .inr (18, [.ref q323282, .ref q323283, .int p323284, .int p323285]) := (hfr326208 q270219 hm323280 (nm_c (rn_oa he326177 he326197) nm_n)).trans he326177
                                have he326211 : F326206 q323282 = .inr (4, [.int p323913, .ref q323915, .int p323914]) := (hfr326208 q323282 hm323911 (nm_c (rn_oa he326178 he326197) nm_n)).trans he326178
                                have he326212 : F326206 q323915 = .inl (I (.object "java/lang/Object"), n323929, .inr (.inr (.inr (.inr f323930)))) := (hfr326208 q323915 hm323931 (nm_c (rn_ref_long he326179 he326197) nm_n)).trans he326179
                                have he326213 : F326206 q323932 = .inr (17, [.ref q323941, .ref q323942, .int p323943, .int p323944]) := (hfr326208 q323932 hm323939 (nm_c (rn_oa he326180 he326197) nm_n)).trans he326180
                                have he326214 : F326206 q323941 = .inr (4, [.int p325704, .ref q325706, .int p325705]) := (hfr326208 q323941 hm325702 (nm_c (rn_oa he326181 he326197) nm_n)).trans he326181
                                have he326215 : F326206 q325706 = .inl (I (.object "java/lang/Object"), n325720, .inr (.inr (.inr (.inr f325721)))) := (hfr326208 q325706 hm325722 (nm_c (rn_ref_long he326182 he326197) nm_n)).trans he326182
                                have he326216 : F326206 q325723 = .inr (20, [.int p325736, .int p325737, .int p325738, .int p325739, .int p325740, .int p325741, .int p325742]) := (hfr326208 q325723 hm325734 (nm_c (rn_oa he326183 he326197) nm_n)).trans he326183
                                have he326217 : F326206 q270218 = .inr (22, [.ref (γ 9 0), .ref (γ 9 1), .ref (γ 9 2), .ref (γ 9 3), .ref (γ 9 4), .ref (γ 9 5), .ref (γ 9 6), .ref (γ 9 7), .ref (γ 9 8), .int p270227, .int p270228, .int p270229, .int p270230, .int p270231, .int p270232, .ref (γ 9 15), .ref (γ 9 16), .ref (γ 9 17), .ref (γ 9 18), .ref (γ 9 19), .ref (γ 9 20), .ref (γ 9 21), .ref (γ 9 22), .int p270233, .int p270234, .int p270235, .int p270236, .int p270237, .ref q270225, .ref (γ 9 29), .int p270238, .ref (γ 9 31), .int p270239, .int p270240, .int p270241, .ref q270226]) := (hfr326208 q270218 hm326186 (nm_c (rn_oa he326185 he326197) nm_n)).trans he326185
                                have he326218 : F326206 (γ 9 1) = .inl (I (.array .long), 2000, .inr (.inr (.inr (.inr f326191)))) := (hfr326208 (γ 9 1) hm326189 (nm_c (rn_ref_long he326190 he326197) nm_n)).trans he326190
                                have hfr326219 : rFr [q326193] P270216 F326170 F326206 := rFr_call (rSub_rf (P := P270216)) (rFr_rf (W := []) (P := P270216) (F := F326170)) hfr326208 (fun b hb hn => ⟨nm_n, (nm_c (fun e => hn (e ▸ List.mem_cons_self)) nm_n)⟩)
                                change G _ _ _ _ _ _ _ _ _ _ _
                                refine G_widen (cs' := 0) (sl' := 0) (by omega) (by omega) ?_
                                have hT326220 : RS D I P270216 F326206 γ el := RS_fr hT326171 hfr326219 ht326194 (by decide) ⟨f326204, he326209, x326205⟩
                                have hs326221 : rStr γ [] F270217 F326206 := rStr_fr hT326171 hs326172 hfr326219 ht326194 (by decide)
                                have kp326222 : F326206 q270218 = F270217 q270218 := (hfr326219 q270218 (RS_m hT326171 htq270218 (by decide)) (nm_c (rn_ty htq270218 ht326194 (by decide)) nm_n)).trans x326174
                                have kp326223 : F326206 (γ 9 3) = F326170 (γ 9 3) := hfr326219 (γ 9 3) (RS_m hT326171 ht270247 (by decide)) (nm_c (rn_ty ht270247 ht326194 (by decide)) nm_n)
                                refine G_aload_n 8 dr_cX17_graph_277 rfl ?_
                                refine G_aload 4 dr_cX17_graph_278 rfl ?_
                                refine G_iload_n 10 dr_cX17_graph_280 rfl ?_
                                refine Gw_callV (As := [.ref q325723, .int p270220]) (gV_ok D I) (ct_276931_SpillForgeModel_back l hl0 D I γ el P270216 F326206 q270218 q325723 p270220 hT326220 htq270218 ht325726 (gB_w bp270220' (by decide) (by decide))) dr_cX17_graph_281 ⟨wr_10_174, wr_1_14, wr_10_177, by decide, rfl, (Nat.le_of_ble_eq_true rfl), (Nat.le_of_ble_eq_true rfl)⟩ wr_10_176 wr_p_96 hm326186 he326217 rfl (show 0 + 0 ≤ 0 by first | omega | decide) (show 0 + 0 ≤ 0 by first | omega | decide) (Nat.le_of_ble_eq_true rfl) (fun r326227 w326228 dc326224 ds326225 hp326226 => ?_) (fun _ _ _ _ _ z => z.elim)
                                obtain ⟨F326231, rfl, rfl, hT326232, hs326233, hdc, hds, x326229, x326230⟩ := hp326226
                                have he326234 : F326231 q270219 = .inr (18, [.ref q323282, .ref q323283, .int p323284, .int p323285]) := (hs326233 q270219 (rT0 htq270219 (by decide)) (rT1 htq270219 (by decide)) (rT2 htq270219 (by decide))).trans he326210
                                have he326235 : F326231 q323282 = .inr (4, [.int p323913, .ref q323915, .int p323914]) := (hs326233 q323282 (rT0 ht323286 (by decide)) (rT1 ht323286 (by decide)) (rT2 ht323286 (by decide))).trans he326211
                                have he326236 : F326231 q323915 = .inl (I (.object "java/lang/Object"), n323929, .inr (.inr (.inr (.inr f323930)))) := (hs326233 q323915 (rT0 r323921 (by decide)) (rT1 r323921 (by decide)) (rT2 r323921 (by decide))).trans he326212
                                have he326237 : F326231 q323932 = .inr (17, [.ref q323941, .ref q323942, .int p323943, .int p323944]) := (hs326233 q323932 (rT0 ht323937 (by decide)) (rT1 ht323937 (by decide)) (rT2 ht323937 (by decide))).trans he326213
                                have he326238 : F326231 q323941 = .inr (4, [.int p325704, .ref q325706, .int p325705]) := (hs326233 q323941 (rT0 ht323945 (by decide)) (rT1 ht323945 (by decide)) (rT2 ht323945 (by decide))).trans he326214
                                have he326239 : F326231 q325706 = .inl (I (.object "java/lang/Object"), n325720, .inr (.inr (.inr (.inr f325721)))) := (hs326233 q325706 (rT0 r325712 (by decide)) (rT1 r325712 (by decide)) (rT2 r325712 (by decide))).trans he326215
                                have he326240 : F326231 q325723 = .inr (20, [.int p325736, .int p325737, .int p325738, .int p325739, .int p325740, .int p325741, .int p325742]) := (hs326233 q325723 (rT0 ht325726 (by decide)) (rT1 ht325726 (by decide)) (rT2 ht325726 (by decide))).trans he326216
                                have hs326241 : rStr γ [] F270217 F326231 := rStr_tr hs326221 hs326233
                                have kp326242 : F326231 q270218 = F270217 q270218 := (x326229).trans kp326222
                                have kp326243 : F326231 (γ 9 3) = F326170 (γ 9 3) := (x326230).trans kp326223
                                have he326244 : F326231 q270218 = .inr (22, [.ref (γ 9 0), .ref (γ 9 1), .ref (γ 9 2), .ref (γ 9 3), .ref (γ 9 4), .ref (γ 9 5), .ref (γ 9 6), .ref (γ 9 7), .ref (γ 9 8), .int p270227, .int p270228, .int p270229, .int p270230, .int p270231, .int p270232, .ref (γ 9 15), .ref (γ 9 16), .ref (γ 9 17), .ref (γ 9 18), .ref (γ 9 19), .ref (γ 9 20), .ref (γ 9 21), .ref (γ 9 22), .int p270233, .int p270234, .int p270235, .int p270236, .int p270237, .ref q270225, .ref (γ 9 29), .int p270238, .ref (γ 9 31), .int p270239, .int p270240, .int p270241, .ref q270226]) := (x326229).trans he326217
                                change G _ _ _ _ _ _ _ _ _ _ _
                                refine G_widen (cs' := 0) (sl' := 0) (by omega) (by omega) ?_
                                obtain ⟨z326245, hz326245⟩ : ∃ z : Int32, z = g325680 + Int32.ofInt (-1) := ⟨_, rfl⟩
                                have ez326245 : z326245.toInt = g325680.toInt + (-1) := gI_inc hz326245 (by decide) bg325680' (by decide) (by decide)
                                have bz326245 : gB z326245 (-1) 999998 := ⟨by omega, by omega⟩
                                refine G_iinc (L' := [(5, .int z326245), (10, .int g326169), (9, .int 0), (8, .int (-1)), (7, .int o325777), (6, .ref q325723), (4, .ref q323932), (3, .int g323269), (0, .ref q270218), (1, .ref q270219), (2, .int p270220)]) z326245 5 dr_cX17_graph_284 rfl hz326245.symm (Nat.le_of_ble_eq_true rfl) rfl ?_
                                refine G_goto 109 dr_cX17_graph_287 (by decide +kernel) ?_
                                refine G_lv (L' := [(5, .int z326245), (4, .ref q323932), (3, .int g323269), (0, .ref q270218), (1, .ref q270219), (2, .int p270220)]) [0, 6, 7, 8, 9, 10] rfl ?_
                                exact ih109_325686 F326231 z326245 (gB_w bz326245 (by decide) (by decide)) hT326232 hs326241 (by omega) (fun h0 => by have z := x326173 h0; rw [← kp326243] at z; rw [show ((g325680.toInt : Int).toNat : Nat) = (z326245.toInt + 1 : Int).toNat by omega] at z; exact z) kp326242 (mz_dn ez326245 (Int.le_trans (by decide) bg325680'.1) hm109_325686)
                              · have r326246 : g326169.toInt < 32 := gj_nleL hc326187 (show Int32.toInt 32 = 32 by decide)
                                have bg326169' : gB g326169 0 31 := ⟨by omega, by omega⟩
                                refine G_aload_n 8 dr_cX17_graph_217 rfl ?_
                                refine Gp_get 1 hm326186 he326185 dr_cX17_graph_218 (gk_X17 D I) (Nat.le_of_ble_eq_true rfl) wr_7_75 rfl ?_
                                refine G_iload 3 dr_cX17_graph_221 rfl ?_
                                have hm326247 : (γ 9 1) ∈ P270216 := RS_m hT326171 ht270245 (by decide)
                                obtain ⟨f326249, he326248, hg326250⟩ := show rk_13 I γ (F326170 (γ 9 1)) from RS_o hT326171 ht270245
                                obtain ⟨q326251, hx326253⟩ : ∃ x, x = γ 11 o325777.toInt.toNat := ⟨_, rfl⟩
                                have ht326252 : rKd γ q326251 36 := by rw [hx326253]; exact (hg326250 _ (show o325777.toInt.toNat < 2000 by omega)).2.1
                                refine Gp_aald 5 hm326247 he326248 dr_cX17_graph_223 rfl rfl (gB_in bo325777' (by decide) (by decide)) ?_
                                rw [show f326249 o325777.toNatClampNeg = some q326251 from (hg326250 _ (show o325777.toInt.toNat < 2000 by omega)).1.trans (by rw [hx326253])]
                                change G _ _ _ _ _ _ _ (.ref q326251 :: _) _ _ _
                                refine G_iload 0 dr_cX17_graph_224 rfl ?_
                                refine G_dup2_11 dr_cX17_graph_226 rfl rfl ?_
                                have hm326254 : q326251 ∈ P270216 := RS_m hT326171 ht326252 (by decide)
                                obtain ⟨f326256, he326255, wf326256⟩ := show rk_36 I (F326170 q326251) from RS_o hT326171 ht326252
                                refine Gp_lald 2 hm326254 he326255 dr_cX17_graph_227 rfl (gB_in bg326169' (by decide) (by decide)) (G_namL fun u326257 hu326257 => ?_)
                                have qu326257 : lb_Q u326257 (2000 - 64 * g326169.toInt) := lb_Wld hu326257 wf326256 (by omega) (by omega) (lb_Mod0 (by omega) (by omega))
                                refine G_aload_n 8 dr_cX17_graph_228 rfl ?_
                                refine Gp_get 2 hm326186 he326185 dr_cX17_graph_229 (gk_X17 D I) (Nat.le_of_ble_eq_true rfl) wr_7_76 rfl ?_
                                refine G_iload 0 dr_cX17_graph_232 rfl ?_
                                have hm326258 : (γ 9 2) ∈ P270216 := RS_m hT326171 ht270246 (by decide)
                                obtain ⟨f326260, he326259, wf326260⟩ := show rk_35 I (F326170 (γ 9 2)) from RS_o hT326171 ht270246
                                refine Gp_lald 2 hm326258 he326259 dr_cX17_graph_234 rfl (gB_in bg326169' (by decide) (by decide)) (G_namL fun u326261 hu326261 => ?_)
                                have qu326261 : lb_Q u326261 (2000 - 64 * g326169.toInt) := lb_Wld hu326261 wf326260 (by omega) (by omega) (lb_Mod0 (by omega) (by omega))
                                refine G_lor dr_cX17_graph_235 (G_namL fun u326262 hu326262 => ?_)
                                have qu326262 : lb_Q u326262 (2000 - 64 * g326169.toInt) := lb_Qor hu326262 qu326257 qu326261
                                refine Gp_last 2 hm326254 he326255 dr_cX17_graph_236 rfl (gB_in bg326169' (by decide) (by decide)) (fun F326263 e326264 n326265 => ?_)
                                obtain ⟨f326266, hf326266⟩ : ∃ z, z = vp_updL f326256 g326169.toNatClampNeg u326262 := ⟨_, rfl⟩
                                rw [← hf326266] at e326264
                                have he326267 : F326263 q270219 = .inr (18, [.ref q323282, .ref q323283, .int p323284, .int p323285]) := (n326265 q270219 (rn_oa he326177 he326255)).trans he326177
                                have he326268 : F326263 q323282 = .inr (4, [.int p323913, .ref q323915, .int p323914]) := (n326265 q323282 (rn_oa he326178 he326255)).trans he326178
                                have he326269 : F326263 q323915 = .inl (I (.object "java/lang/Object"), n323929, .inr (.inr (.inr (.inr f323930)))) := (n326265 q323915 (rn_ref_long he326179 he326255)).trans he326179
                                have he326270 : F326263 q323932 = .inr (17, [.ref q323941, .ref q323942, .int p323943, .int p323944]) := (n326265 q323932 (rn_oa he326180 he326255)).trans he326180
                                have he326271 : F326263 q323941 = .inr (4, [.int p325704, .ref q325706, .int p325705]) := (n326265 q323941 (rn_oa he326181 he326255)).trans he326181
                                have he326272 : F326263 q325706 = .inl (I (.object "java/lang/Object"), n325720, .inr (.inr (.inr (.inr f325721)))) := (n326265 q325706 (rn_ref_long he326182 he326255)).trans he326182
                                have he326273 : F326263 q325723 = .inr (20, [.int p325736, .int p325737, .int p325738, .int p325739, .int p325740, .int p325741, .int p325742]) := (n326265 q325723 (rn_oa he326183 he326255)).trans he326183
                                have he326274 : F326263 q270218 = .inr (22, [.ref (γ 9 0), .ref (γ 9 1), .ref (γ 9 2), .ref (γ 9 3), .ref (γ 9 4), .ref (γ 9 5), .ref (γ 9 6), .ref (γ 9 7), .ref (γ 9 8), .int p270227, .int p270228, .int p270229, .int p270230, .int p270231, .int p270232, .ref (γ 9 15), .ref (γ 9 16), .ref (γ 9 17), .ref (γ 9 18), .ref (γ 9 19), .ref (γ 9 20), .ref (γ 9 21), .ref (γ 9 22), .int p270233, .int p270234, .int p270235, .int p270236, .int p270237, .ref q270225, .ref (γ 9 29), .int p270238, .ref (γ 9 31), .int p270239, .int p270240, .int p270241, .ref q270226]) := (n326265 q270218 (rn_oa he326185 he326255)).trans he326185
                                have he326275 : F326263 (γ 9 1) = .inl (I (.array .long), 2000, .inr (.inr (.inr (.inr f326249)))) := (n326265 (γ 9 1) (rn_ref_long he326248 he326255)).trans he326248
                                have he326276 : F326263 (γ 9 2) = .inl (I .long, 32, .inr (.inl f326260)) := (n326265 (γ 9 2) (rn_ty ht270246 ht326252 (by decide))).trans he326259
                                have he326277 : F326263 q326251 = .inl (I .long, 32, .inr (.inl f326266)) := e326264
                                have hs326278 : rStr γ [] F270217 F326263 := rStr_put hs326172 n326265 ht326252 (by decide)
                                have kp326279 : F326263 q270218 = F270217 q270218 := (n326265 q270218 (rn_ty htq270218 ht326252 (by decide))).trans x326174
                                have kp326280 : F326263 (γ 9 3) = F326170 (γ 9 3) := n326265 (γ 9 3) (rn_ty ht270247 ht326252 (by decide))
                                have wf326266 : lb_W f326266 (32) (32) (2000) := lb_Wst hf326266 wf326256 (by omega) (lb_Mod0 (by omega) (by omega)) qu326262
                                obtain ⟨z326281, hz326281⟩ : ∃ z : Int32, z = g326169 + Int32.ofInt 1 := ⟨_, rfl⟩
                                have ez326281 : z326281.toInt = g326169.toInt + 1 := gI_inc hz326281 (by decide) bg326169' (by decide) (by decide)
                                have bz326281 : gB z326281 1 32 := ⟨by omega, by omega⟩
                                refine G_iinc (L' := [(10, .int z326281), (9, .int 0), (8, .int (-1)), (7, .int o325777), (6, .ref q325723), (5, .int g325680), (4, .ref q323932), (3, .int g323269), (0, .ref q270218), (1, .ref q270219), (2, .int p270220)]) z326281 0 dr_cX17_graph_237 rfl hz326281.symm (Nat.le_of_ble_eq_true rfl) rfl ?_
                                refine G_goto 210 dr_cX17_graph_240 (by decide +kernel) ?_
                                have hT326282 : RS D I P270216 F326263 γ el := RS_set hT326171 n326265 ht326252 (by decide) ⟨f326266, he326277, wf326266⟩
                                exact ih210_326174 F326263 z326281 (gB_w bz326281 (by decide) (by decide)) hT326282 hs326278 (by rw [kp326280]; exact x326173) kp326279 (mz_up ez326281 (Int.le_trans bg326169'.2 (by decide)) hm210_326174)
                          exact hlp210_326174 (((33 : Int) - 0).toNat + 1) F325755 0 (gB_w (gBl (show Int32.toInt 0 = 0 by decide)) (by decide) (by decide)) hT325756 hs325765 gr325771 kp325766 (Nat.lt_succ_self _)
                      · have r326283 : p325736.toInt = 0 := gj_eq hc326031 (show Int32.toInt 0 = 0 by decide)
                        have bp325736' : gB p325736 0 0 := ⟨by omega, by omega⟩
                        refine G_aload 1 dr_cX17_graph_156 rfl ?_
                        refine Gp_get 5 hm325734 he325764 dr_cX17_graph_158 (gk_X15 D I) (Nat.le_of_ble_eq_true rfl) wr_9_197 rfl ?_
                        refine G_if_eq 172 dr_cX17_graph_161 (by decide +kernel) (fun hc326284 => ?_) (fun hc326284 => ?_)
                        · have r326285 : p325741.toInt = 0 := gj_eq hc326284 (show Int32.toInt 0 = 0 by decide)
                          have bp325741' : gB p325741 0 0 := gB_t0 r326285
                          refine G_iconst (-1) dr_cX17_graph_172 (by decide +kernel) ?_
                          refine G_istore (L' := [(8, .int (-1)), (7, .int o325777), (6, .ref q325723), (5, .int g325680), (4, .ref q323932), (3, .int g323269), (0, .ref q270218), (1, .ref q270219), (2, .int p270220)]) dr_cX17_graph_173 (Nat.le_of_ble_eq_true rfl) rfl ?_
                          refine G_iload 1 dr_cX17_graph_175 rfl ?_
                          refine G_if_lt 277 dr_cX17_graph_177 (by decide +kernel) (fun hc326286 => ?_) (fun hc326286 => ?_)
                          · have r326287 : o325777.toInt < 0 := gj_lt hc326286 (show Int32.toInt 0 = 0 by decide)
                            have bo325777' : gB o325777 (-1) (-1) := ⟨by omega, by omega⟩
                            refine G_aload_n 6 dr_cX17_graph_277 rfl ?_
                            refine G_aload 2 dr_cX17_graph_278 rfl ?_
                            refine G_iload_n 8 dr_cX17_graph_280 rfl ?_
                            refine Gw_callV (As := [.ref q325723, .int p270220]) (gV_ok D I) (ct_276931_SpillForgeModel_back l hl0 D I γ el P270216 F325755 q270218 q325723 p270220 hT325756 htq270218 ht325726 (gB_w bp270220' (by decide) (by decide))) dr_cX17_graph_281 ⟨wr_10_174, wr_1_14, wr_10_177, by decide, rfl, (Nat.le_of_ble_eq_true rfl), (Nat.le_of_ble_eq_true rfl)⟩ wr_10_176 wr_p_96 hm325696 he325767 rfl (show 0 + 0 ≤ 0 by first | omega | decide) (show 0 + 0 ≤ 0 by first | omega | decide) (Nat.le_of_ble_eq_true rfl) (fun r326291 w326292 dc326288 ds326289 hp326290 => ?_) (fun _ _ _ _ _ z => z.elim)
                            obtain ⟨F326295, rfl, rfl, hT326296, hs326297, hdc, hds, x326293, x326294⟩ := hp326290
                            have he326298 : F326295 q270219 = .inr (18, [.ref q323282, .ref q323283, .int p323284, .int p323285]) := (hs326297 q270219 (rT0 htq270219 (by decide)) (rT1 htq270219 (by decide)) (rT2 htq270219 (by decide))).trans he325758
                            have he326299 : F326295 q323282 = .inr (4, [.int p323913, .ref q323915, .int p323914]) := (hs326297 q323282 (rT0 ht323286 (by decide)) (rT1 ht323286 (by decide)) (rT2 ht323286 (by decide))).trans he325759
                            have he326300 : F326295 q323915 = .inl (I (.object "java/lang/Object"), n323929, .inr (.inr (.inr (.inr f323930)))) := (hs326297 q323915 (rT0 r323921 (by decide)) (rT1 r323921 (by decide)) (rT2 r323921 (by decide))).trans he325760
                            have he326301 : F326295 q323932 = .inr (17, [.ref q323941, .ref q323942, .int p323943, .int p323944]) := (hs326297 q323932 (rT0 ht323937 (by decide)) (rT1 ht323937 (by decide)) (rT2 ht323937 (by decide))).trans he325761
                            have he326302 : F326295 q323941 = .inr (4, [.int p325704, .ref q325706, .int p325705]) := (hs326297 q323941 (rT0 ht323945 (by decide)) (rT1 ht323945 (by decide)) (rT2 ht323945 (by decide))).trans he325762
                            have he326303 : F326295 q325706 = .inl (I (.object "java/lang/Object"), n325720, .inr (.inr (.inr (.inr f325721)))) := (hs326297 q325706 (rT0 r325712 (by decide)) (rT1 r325712 (by decide)) (rT2 r325712 (by decide))).trans he325763
                            have he326304 : F326295 q325723 = .inr (20, [.int p325736, .int p325737, .int p325738, .int p325739, .int p325740, .int p325741, .int p325742]) := (hs326297 q325723 (rT0 ht325726 (by decide)) (rT1 ht325726 (by decide)) (rT2 ht325726 (by decide))).trans he325764
                            have hs326305 : rStr γ [] F270217 F326295 := rStr_tr hs325765 hs326297
                            have kp326306 : F326295 q270218 = F270217 q270218 := (x326293).trans kp325766
                            have kp326307 : F326295 (γ 9 3) = F325755 (γ 9 3) := x326294
                            have he326308 : F326295 q270218 = .inr (22, [.ref (γ 9 0), .ref (γ 9 1), .ref (γ 9 2), .ref (γ 9 3), .ref (γ 9 4), .ref (γ 9 5), .ref (γ 9 6), .ref (γ 9 7), .ref (γ 9 8), .int p270227, .int p270228, .int p270229, .int p270230, .int p270231, .int p270232, .ref (γ 9 15), .ref (γ 9 16), .ref (γ 9 17), .ref (γ 9 18), .ref (γ 9 19), .ref (γ 9 20), .ref (γ 9 21), .ref (γ 9 22), .int p270233, .int p270234, .int p270235, .int p270236, .int p270237, .ref q270225, .ref (γ 9 29), .int p270238, .ref (γ 9 31), .int p270239, .int p270240, .int p270241, .ref q270226]) := (x326293).trans he325767
                            change G _ _ _ _ _ _ _ _ _ _ _
                            refine G_widen (cs' := 0) (sl' := 0) (by omega) (by omega) ?_
                            obtain ⟨z326309, hz326309⟩ : ∃ z : Int32, z = g325680 + Int32.ofInt (-1) := ⟨_, rfl⟩
                            have ez326309 : z326309.toInt = g325680.toInt + (-1) := gI_inc hz326309 (by decide) bg325680' (by decide) (by decide)
                            have bz326309 : gB z326309 (-1) 999998 := ⟨by omega, by omega⟩
                            refine G_iinc (L' := [(5, .int z326309), (8, .int (-1)), (7, .int o325777), (6, .ref q325723), (4, .ref q323932), (3, .int g323269), (0, .ref q270218), (1, .ref q270219), (2, .int p270220)]) z326309 3 dr_cX17_graph_284 rfl hz326309.symm (Nat.le_of_ble_eq_true rfl) rfl ?_
                            refine G_goto 109 dr_cX17_graph_287 (by decide +kernel) ?_
                            refine G_lv (L' := [(5, .int z326309), (4, .ref q323932), (3, .int g323269), (0, .ref q270218), (1, .ref q270219), (2, .int p270220)]) [0, 4, 5, 6, 7, 8] rfl ?_
                            exact ih109_325686 F326295 z326309 (gB_w bz326309 (by decide) (by decide)) hT326296 hs326305 (by omega) (fun h0 => by have z := gr325771 h0; rw [← kp326307] at z; rw [show ((g325680.toInt : Int).toNat : Nat) = (z326309.toInt + 1 : Int).toNat by omega] at z; exact z) kp326306 (mz_dn ez326309 (Int.le_trans (by decide) bg325680'.1) hm109_325686)
                          · have r326310 : 0 ≤ o325777.toInt := gj_nlt hc326286 (show Int32.toInt 0 = 0 by decide)
                            have bo325777' : gB o325777 0 1999 := ⟨by omega, by omega⟩
                            refine G_iload 0 dr_cX17_graph_180 rfl ?_
                            refine G_if_lt 204 dr_cX17_graph_182 (by decide +kernel) (fun _ => ?_) (fun hc => absurd hc (by decide))
                            refine G_iconst 0 dr_cX17_graph_204 (by decide +kernel) ?_
                            refine G_istore (L' := [(9, .int 0), (8, .int (-1)), (7, .int o325777), (6, .ref q325723), (5, .int g325680), (4, .ref q323932), (3, .int g323269), (0, .ref q270218), (1, .ref q270219), (2, .int p270220)]) dr_cX17_graph_205 (Nat.le_of_ble_eq_true rfl) rfl ?_
                            refine G_iconst 0 dr_cX17_graph_207 (by decide +kernel) ?_
                            refine G_istore (L' := [(10, .int 0), (9, .int 0), (8, .int (-1)), (7, .int o325777), (6, .ref q325723), (5, .int g325680), (4, .ref q323932), (3, .int g323269), (0, .ref q270218), (1, .ref q270219), (2, .int p270220)]) dr_cX17_graph_208 (Nat.le_of_ble_eq_true rfl) rfl ?_
                            have hlp210_326427 : ∀ (n210_326427 : Nat) (F326423 : Nat → va_E) (g326422 : Int32), gB g326422 0 32 → RS D I P270216 F326423 γ el → rStr γ [] F270217 F326423 → (gIp (p270220.toInt = 0) (rGr γ el F270217 q270219 (γ 6 (γ 1 q270219)) (cB (F326423 (γ 9 3))) (vB (g323269.toInt : Int).toNat (g325680.toInt : Int).toNat))) → (F326423 q270218 = F270217 q270218) → ((33 : Int) - g326422.toInt).toNat < n210_326427 → G (gV D I) l (gRm 5 111 0 0) (gMA (gV D I) (pt_270222_SpillForgeModel_graph D I γ el P270216 F270217 q270218 q270219 p270220) gNA 0 0) ky_270222_SpillForgeModel_graph 210 [(10, .int g326422), (9, .int 0), (8, .int (-1)), (7, .int o325777), (6, .ref q325723), (5, .int g325680), (4, .ref q323932), (3, .int g323269), (0, .ref q270218), (1, .ref q270219), (2, .int p270220)] [] (va_pl P270216 F326423) 0 0 := by
                              intro n210_326427
                              induction n210_326427 with
                              | zero => intro F326423 g326422 bg326422 hT326424 hs326425 x326426 x326427 hm210_326427; exact absurd hm210_326427 (Nat.not_lt_zero _)
                              | succ n210_326427 ih210_326427 =>
                                intro F326423 g326422 bg326422 hT326424 hs326425 x326426 x326427 hm210_326427
                                have hs326429 : rStr γ [] F325755 F326423 := fun b h0 hb hw => (hs326425 b h0 hb hw).trans (hs325765 b h0 hb hw).symm
                                have he326430 : F326423 q270219 = .inr (18, [.ref q323282, .ref q323283, .int p323284, .int p323285]) := (hs326429 q270219 (rT0 htq270219 (by decide)) (rT1 htq270219 (by decide)) (rT2 htq270219 (by decide))).trans he325758
                                have he326431 : F326423 q323282 = .inr (4, [.int p323913, .ref q323915, .int p323914]) := (hs326429 q323282 (rT0 ht323286 (by decide)) (rT1 ht323286 (by decide)) (rT2 ht323286 (by decide))).trans he325759
                                have he326432 : F326423 q323915 = .inl (I (.object "java/lang/Object"), n323929, .inr (.inr (.inr (.inr f323930)))) := (hs326429 q323915 (rT0 r323921 (by decide)) (rT1 r323921 (by decide)) (rT2 r323921 (by decide))).trans he325760
                                have he326433 : F326423 q323932 = .inr (17, [.ref q323941, .ref q323942, .int p323943, .int p323944]) := (hs326429 q323932 (rT0 ht323937 (by decide)) (rT1 ht323937 (by decide)) (rT2 ht323937 (by decide))).trans he325761
                                have he326434 : F326423 q323941 = .inr (4, [.int p325704, .ref q325706, .int p325705]) := (hs326429 q323941 (rT0 ht323945 (by decide)) (rT1 ht323945 (by decide)) (rT2 ht323945 (by decide))).trans he325762
                                have he326435 : F326423 q325706 = .inl (I (.object "java/lang/Object"), n325720, .inr (.inr (.inr (.inr f325721)))) := (hs326429 q325706 (rT0 r325712 (by decide)) (rT1 r325712 (by decide)) (rT2 r325712 (by decide))).trans he325763
                                have he326436 : F326423 q325723 = .inr (20, [.int p325736, .int p325737, .int p325738, .int p325739, .int p325740, .int p325741, .int p325742]) := (hs326429 q325723 (rT0 ht325726 (by decide)) (rT1 ht325726 (by decide)) (rT2 ht325726 (by decide))).trans he325764
                                have hs326437 : rStr γ [] F270217 F326423 := rStr_tr hs325765 hs326429
                                have he326438 : F326423 q270218 = .inr (22, [.ref (γ 9 0), .ref (γ 9 1), .ref (γ 9 2), .ref (γ 9 3), .ref (γ 9 4), .ref (γ 9 5), .ref (γ 9 6), .ref (γ 9 7), .ref (γ 9 8), .int p270227, .int p270228, .int p270229, .int p270230, .int p270231, .int p270232, .ref (γ 9 15), .ref (γ 9 16), .ref (γ 9 17), .ref (γ 9 18), .ref (γ 9 19), .ref (γ 9 20), .ref (γ 9 21), .ref (γ 9 22), .int p270233, .int p270234, .int p270235, .int p270236, .int p270237, .ref q270225, .ref (γ 9 29), .int p270238, .ref (γ 9 31), .int p270239, .int p270240, .int p270241, .ref q270226]) := x326427.trans he270224
                                have hm326439 : q270218 ∈ P270216 := RS_m hT326424 htq270218 (by decide)
                                refine G_iload 0 dr_cX17_graph_210 rfl ?_
                                refine G_bipush 32 dr_cX17_graph_212 (by decide +kernel) ?_
                                refine G_icmp_ge 243 dr_cX17_graph_214 (by decide +kernel) (fun hc326440 => ?_) (fun hc326440 => ?_)
                                · have r326441 : 32 ≤ g326422.toInt := gj_leL hc326440 (show Int32.toInt 32 = 32 by decide)
                                  have bg326422' : gB g326422 32 32 := ⟨by omega, by omega⟩
                                  refine G_iload 2 dr_cX17_graph_243 rfl ?_
                                  refine G_if_lt 265 dr_cX17_graph_245 (by decide +kernel) (fun _ => ?_) (fun hc => absurd hc (by decide))
                                  refine G_aload_n 8 dr_cX17_graph_265 rfl ?_
                                  refine Gp_get 1 hm326439 he326438 dr_cX17_graph_266 (gk_X17 D I) (Nat.le_of_ble_eq_true rfl) wr_7_75 rfl ?_
                                  refine G_iload 3 dr_cX17_graph_269 rfl ?_
                                  have hm326442 : (γ 9 1) ∈ P270216 := RS_m hT326424 ht270245 (by decide)
                                  obtain ⟨f326444, he326443, hg326445⟩ := show rk_13 I γ (F326423 (γ 9 1)) from RS_o hT326424 ht270245
                                  obtain ⟨q326446, hx326448⟩ : ∃ x, x = γ 11 o325777.toInt.toNat := ⟨_, rfl⟩
                                  have ht326447 : rKd γ q326446 36 := by rw [hx326448]; exact (hg326445 _ (show o325777.toInt.toNat < 2000 by omega)).2.1
                                  refine Gp_aald 5 hm326442 he326443 dr_cX17_graph_271 rfl rfl (gB_in bo325777' (by decide) (by decide)) ?_
                                  rw [show f326444 o325777.toNatClampNeg = some q326446 from (hg326445 _ (show o325777.toInt.toNat < 2000 by omega)).1.trans (by rw [hx326448])]
                                  change G _ _ _ _ _ _ _ (.ref q326446 :: _) _ _ _
                                  refine G_iload 3 dr_cX17_graph_272 rfl ?_
                                  have hm326449 : q326446 ∈ P270216 := RS_m hT326424 ht326447 (by decide)
                                  obtain ⟨f326451, he326450, wf326451⟩ := show rk_36 I (F326423 q326446) from RS_o hT326424 ht326447
                                  refine Gw_callS (As := [.ref q326446, .int o325777]) (gV_ok D I) (cp_1873_SpillForgeModel_clear l hl0 D I P270216 F326423 q326446 o325777 f326451 hm326449 he326450 bo325777' wf326451) dr_cX17_graph_274 ⟨wr_10_185, wr_1_14, wr_10_187, by decide, rfl, (Nat.le_of_ble_eq_true rfl), (Nat.le_of_ble_eq_true rfl)⟩ wr_10_186 (show 0 + 0 ≤ 0 by first | omega | decide) (show 0 + 0 ≤ 0 by first | omega | decide) (Nat.le_of_ble_eq_true rfl) (fun r326455 w326456 dc326452 ds326453 hp326454 => ?_) (fun _ _ _ _ _ z => z.elim)
                                  obtain ⟨F326459, f326457, rfl, rfl, hfr326461, he326462, hdc, hds, x326458⟩ := hp326454
                                  have he326463 : F326459 q270219 = .inr (18, [.ref q323282, .ref q323283, .int p323284, .int p323285]) := (hfr326461 q270219 hm323280 (nm_c (rn_oa he326430 he326450) nm_n)).trans he326430
                                  have he326464 : F326459 q323282 = .inr (4, [.int p323913, .ref q323915, .int p323914]) := (hfr326461 q323282 hm323911 (nm_c (rn_oa he326431 he326450) nm_n)).trans he326431
                                  have he326465 : F326459 q323915 = .inl (I (.object "java/lang/Object"), n323929, .inr (.inr (.inr (.inr f323930)))) := (hfr326461 q323915 hm323931 (nm_c (rn_ref_long he326432 he326450) nm_n)).trans he326432
                                  have he326466 : F326459 q323932 = .inr (17, [.ref q323941, .ref q323942, .int p323943, .int p323944]) := (hfr326461 q323932 hm323939 (nm_c (rn_oa he326433 he326450) nm_n)).trans he326433
                                  have he326467 : F326459 q323941 = .inr (4, [.int p325704, .ref q325706, .int p325705]) := (hfr326461 q323941 hm325702 (nm_c (rn_oa he326434 he326450) nm_n)).trans he326434
                                  have he326468 : F326459 q325706 = .inl (I (.object "java/lang/Object"), n325720, .inr (.inr (.inr (.inr f325721)))) := (hfr326461 q325706 hm325722 (nm_c (rn_ref_long he326435 he326450) nm_n)).trans he326435
                                  have he326469 : F326459 q325723 = .inr (20, [.int p325736, .int p325737, .int p325738, .int p325739, .int p325740, .int p325741, .int p325742]) := (hfr326461 q325723 hm325734 (nm_c (rn_oa he326436 he326450) nm_n)).trans he326436
                                  have he326470 : F326459 q270218 = .inr (22, [.ref (γ 9 0), .ref (γ 9 1), .ref (γ 9 2), .ref (γ 9 3), .ref (γ 9 4), .ref (γ 9 5), .ref (γ 9 6), .ref (γ 9 7), .ref (γ 9 8), .int p270227, .int p270228, .int p270229, .int p270230, .int p270231, .int p270232, .ref (γ 9 15), .ref (γ 9 16), .ref (γ 9 17), .ref (γ 9 18), .ref (γ 9 19), .ref (γ 9 20), .ref (γ 9 21), .ref (γ 9 22), .int p270233, .int p270234, .int p270235, .int p270236, .int p270237, .ref q270225, .ref (γ 9 29), .int p270238, .ref (γ 9 31), .int p270239, .int p270240, .int p270241, .ref q270226]) := (hfr326461 q270218 hm326439 (nm_c (rn_oa he326438 he326450) nm_n)).trans he326438
                                  have he326471 : F326459 (γ 9 1) = .inl (I (.array .long), 2000, .inr (.inr (.inr (.inr f326444)))) := (hfr326461 (γ 9 1) hm326442 (nm_c (rn_ref_long he326443 he326450) nm_n)).trans he326443
                                  have hfr326472 : rFr [q326446] P270216 F326423 F326459 := rFr_call (rSub_rf (P := P270216)) (rFr_rf (W := []) (P := P270216) (F := F326423)) hfr326461 (fun b hb hn => ⟨nm_n, (nm_c (fun e => hn (e ▸ List.mem_cons_self)) nm_n)⟩)
                                  change G _ _ _ _ _ _ _ _ _ _ _
                                  refine G_widen (cs' := 0) (sl' := 0) (by omega) (by omega) ?_
                                  have hT326473 : RS D I P270216 F326459 γ el := RS_fr hT326424 hfr326472 ht326447 (by decide) ⟨f326457, he326462, x326458⟩
                                  have hs326474 : rStr γ [] F270217 F326459 := rStr_fr hT326424 hs326425 hfr326472 ht326447 (by decide)
                                  have kp326475 : F326459 q270218 = F270217 q270218 := (hfr326472 q270218 (RS_m hT326424 htq270218 (by decide)) (nm_c (rn_ty htq270218 ht326447 (by decide)) nm_n)).trans x326427
                                  have kp326476 : F326459 (γ 9 3) = F326423 (γ 9 3) := hfr326472 (γ 9 3) (RS_m hT326424 ht270247 (by decide)) (nm_c (rn_ty ht270247 ht326447 (by decide)) nm_n)
                                  refine G_aload_n 8 dr_cX17_graph_277 rfl ?_
                                  refine G_aload 4 dr_cX17_graph_278 rfl ?_
                                  refine G_iload_n 10 dr_cX17_graph_280 rfl ?_
                                  refine Gw_callV (As := [.ref q325723, .int p270220]) (gV_ok D I) (ct_276931_SpillForgeModel_back l hl0 D I γ el P270216 F326459 q270218 q325723 p270220 hT326473 htq270218 ht325726 (gB_w bp270220' (by decide) (by decide))) dr_cX17_graph_281 ⟨wr_10_174, wr_1_14, wr_10_177, by decide, rfl, (Nat.le_of_ble_eq_true rfl), (Nat.le_of_ble_eq_true rfl)⟩ wr_10_176 wr_p_96 hm326439 he326470 rfl (show 0 + 0 ≤ 0 by first | omega | decide) (show 0 + 0 ≤ 0 by first | omega | decide) (Nat.le_of_ble_eq_true rfl) (fun r326480 w326481 dc326477 ds326478 hp326479 => ?_) (fun _ _ _ _ _ z => z.elim)
                                  obtain ⟨F326484, rfl, rfl, hT326485, hs326486, hdc, hds, x326482, x326483⟩ := hp326479
                                  have he326487 : F326484 q270219 = .inr (18, [.ref q323282, .ref q323283, .int p323284, .int p323285]) := (hs326486 q270219 (rT0 htq270219 (by decide)) (rT1 htq270219 (by decide)) (rT2 htq270219 (by decide))).trans he326463
                                  have he326488 : F326484 q323282 = .inr (4, [.int p323913, .ref q323915, .int p323914]) := (hs326486 q323282 (rT0 ht323286 (by decide)) (rT1 ht323286 (by decide)) (rT2 ht323286 (by decide))).trans he326464
                                  have he326489 : F326484 q323915 = .inl (I (.object "java/lang/Object"), n323929, .inr (.inr (.inr (.inr f323930)))) := (hs326486 q323915 (rT0 r323921 (by decide)) (rT1 r323921 (by decide)) (rT2 r323921 (by decide))).trans he326465
                                  have he326490 : F326484 q323932 = .inr (17, [.ref q323941, .ref q323942, .int p323943, .int p323944]) := (hs326486 q323932 (rT0 ht323937 (by decide)) (rT1 ht323937 (by decide)) (rT2 ht323937 (by decide))).trans he326466
                                  have he326491 : F326484 q323941 = .inr (4, [.int p325704, .ref q325706, .int p325705]) := (hs326486 q323941 (rT0 ht323945 (by decide)) (rT1 ht323945 (by decide)) (rT2 ht323945 (by decide))).trans he326467
                                  have he326492 : F326484 q325706 = .inl (I (.object "java/lang/Object"), n325720, .inr (.inr (.inr (.inr f325721)))) := (hs326486 q325706 (rT0 r325712 (by decide)) (rT1 r325712 (by decide)) (rT2 r325712 (by decide))).trans he326468
                                  have he326493 : F326484 q325723 = .inr (20, [.int p325736, .int p325737, .int p325738, .int p325739, .int p325740, .int p325741, .int p325742]) := (hs326486 q325723 (rT0 ht325726 (by decide)) (rT1 ht325726 (by decide)) (rT2 ht325726 (by decide))).trans he326469
                                  have hs326494 : rStr γ [] F270217 F326484 := rStr_tr hs326474 hs326486
                                  have kp326495 : F326484 q270218 = F270217 q270218 := (x326482).trans kp326475
                                  have kp326496 : F326484 (γ 9 3) = F326423 (γ 9 3) := (x326483).trans kp326476
                                  have he326497 : F326484 q270218 = .inr (22, [.ref (γ 9 0), .ref (γ 9 1), .ref (γ 9 2), .ref (γ 9 3), .ref (γ 9 4), .ref (γ 9 5), .ref (γ 9 6), .ref (γ 9 7), .ref (γ 9 8), .int p270227, .int p270228, .int p270229, .int p270230, .int p270231, .int p270232, .ref (γ 9 15), .ref (γ 9 16), .ref (γ 9 17), .ref (γ 9 18), .ref (γ 9 19), .ref (γ 9 20), .ref (γ 9 21), .ref (γ 9 22), .int p270233, .int p270234, .int p270235, .int p270236, .int p270237, .ref q270225, .ref (γ 9 29), .int p270238, .ref (γ 9 31), .int p270239, .int p270240, .int p270241, .ref q270226]) := (x326482).trans he326470
                                  change G _ _ _ _ _ _ _ _ _ _ _
                                  refine G_widen (cs' := 0) (sl' := 0) (by omega) (by omega) ?_
                                  obtain ⟨z326498, hz326498⟩ : ∃ z : Int32, z = g325680 + Int32.ofInt (-1) := ⟨_, rfl⟩
                                  have ez326498 : z326498.toInt = g325680.toInt + (-1) := gI_inc hz326498 (by decide) bg325680' (by decide) (by decide)
                                  have bz326498 : gB z326498 (-1) 999998 := ⟨by omega, by omega⟩
                                  refine G_iinc (L' := [(5, .int z326498), (10, .int g326422), (9, .int 0), (8, .int (-1)), (7, .int o325777), (6, .ref q325723), (4, .ref q323932), (3, .int g323269), (0, .ref q270218), (1, .ref q270219), (2, .int p270220)]) z326498 5 dr_cX17_graph_284 rfl hz326498.symm (Nat.le_of_ble_eq_true rfl) rfl ?_
                                  refine G_goto 109 dr_cX17_graph_287 (by decide +kernel) ?_
                                  refine G_lv (L' := [(5, .int z326498), (4, .ref q323932), (3, .int g323269), (0, .ref q270218), (1, .ref q270219), (2, .int p270220)]) [0, 6, 7, 8, 9, 10] rfl ?_
                                  exact ih109_325686 F326484 z326498 (gB_w bz326498 (by decide) (by decide)) hT326485 hs326494 (by omega) (fun h0 => by have z := x326426 h0; rw [← kp326496] at z; rw [show ((g325680.toInt : Int).toNat : Nat) = (z326498.toInt + 1 : Int).toNat by omega] at z; exact z) kp326495 (mz_dn ez326498 (Int.le_trans (by decide) bg325680'.1) hm109_325686)
                                · have r326499 : g326422.toInt < 32 := gj_nleL hc326440 (show Int32.toInt 32 = 32 by decide)
                                  have bg326422' : gB g326422 0 31 := ⟨by omega, by omega⟩
                                  refine G_aload_n 8 dr_cX17_graph_217 rfl ?_
                                  refine Gp_get 1 hm326439 he326438 dr_cX17_graph_218 (gk_X17 D I) (Nat.le_of_ble_eq_true rfl) wr_7_75 rfl ?_
                                  refine G_iload 3 dr_cX17_graph_221 rfl ?_
                                  have hm326500 : (γ 9 1) ∈ P270216 := RS_m hT326424 ht270245 (by decide)
                                  obtain ⟨f326502, he326501, hg326503⟩ := show rk_13 I γ (F326423 (γ 9 1)) from RS_o hT326424 ht270245
                                  obtain ⟨q326504, hx326506⟩ : ∃ x, x = γ 11 o325777.toInt.toNat := ⟨_, rfl⟩
                                  have ht326505 : rKd γ q326504 36 := by rw [hx326506]; exact (hg326503 _ (show o325777.toInt.toNat < 2000 by omega)).2.1
                                  refine Gp_aald 5 hm326500 he326501 dr_cX17_graph_223 rfl rfl (gB_in bo325777' (by decide) (by decide)) ?_
                                  rw [show f326502 o325777.toNatClampNeg = some q326504 from (hg326503 _ (show o325777.toInt.toNat < 2000 by omega)).1.trans (by rw [hx326506])]
                                  change G _ _ _ _ _ _ _ (.ref q326504 :: _) _ _ _
                                  refine G_iload 0 dr_cX17_graph_224 rfl ?_
                                  refine G_dup2_11 dr_cX17_graph_226 rfl rfl ?_
                                  have hm326507 : q326504 ∈ P270216 := RS_m hT326424 ht326505 (by decide)
                                  obtain ⟨f326509, he326508, wf326509⟩ := show rk_36 I (F326423 q326504) from RS_o hT326424 ht326505
                                  refine Gp_lald 2 hm326507 he326508 dr_cX17_graph_227 rfl (gB_in bg326422' (by decide) (by decide)) (G_namL fun u326510 hu326510 => ?_)
                                  have qu326510 : lb_Q u326510 (2000 - 64 * g326422.toInt) := lb_Wld hu326510 wf326509 (by omega) (by omega) (lb_Mod0 (by omega) (by omega))
                                  refine G_aload_n 8 dr_cX17_graph_228 rfl ?_
                                  refine Gp_get 2 hm326439 he326438 dr_cX17_graph_229 (gk_X17 D I) (Nat.le_of_ble_eq_true rfl) wr_7_76 rfl ?_
                                  refine G_iload 0 dr_cX17_graph_232 rfl ?_
                                  have hm326511 : (γ 9 2) ∈ P270216 := RS_m hT326424 ht270246 (by decide)
                                  obtain ⟨f326513, he326512, wf326513⟩ := show rk_35 I (F326423 (γ 9 2)) from RS_o hT326424 ht270246
                                  refine Gp_lald 2 hm326511 he326512 dr_cX17_graph_234 rfl (gB_in bg326422' (by decide) (by decide)) (G_namL fun u326514 hu326514 => ?_)
                                  have qu326514 : lb_Q u326514 (2000 - 64 * g326422.toInt) := lb_Wld hu326514 wf326513 (by omega) (by omega) (lb_Mod0 (by omega) (by omega))
                                  refine G_lor dr_cX17_graph_235 (G_namL fun u326515 hu326515 => ?_)
                                  have qu326515 : lb_Q u326515 (2000 - 64 * g326422.toInt) := lb_Qor hu326515 qu326510 qu326514
                                  refine Gp_last 2 hm326507 he326508 dr_cX17_graph_236 rfl (gB_in bg326422' (by decide) (by decide)) (fun F326516 e326517 n326518 => ?_)
                                  obtain ⟨f326519, hf326519⟩ : ∃ z, z = vp_updL f326509 g326422.toNatClampNeg u326515 := ⟨_, rfl⟩
                                  rw [← hf326519] at e326517
                                  have he326520 : F326516 q270219 = .inr (18, [.ref q323282, .ref q323283, .int p323284, .int p323285]) := (n326518 q270219 (rn_oa he326430 he326508)).trans he326430
                                  have he326521 : F326516 q323282 = .inr (4, [.int p323913, .ref q323915, .int p323914]) := (n326518 q323282 (rn_oa he326431 he326508)).trans he326431
                                  have he326522 : F326516 q323915 = .inl (I (.object "java/lang/Object"), n323929, .inr (.inr (.inr (.inr f323930)))) := (n326518 q323915 (rn_ref_long he326432 he326508)).trans he326432
                                  have he326523 : F326516 q323932 = .inr (17, [.ref q323941, .ref q323942, .int p323943, .int p323944]) := (n326518 q323932 (rn_oa he326433 he326508)).trans he326433
                                  have he326524 : F326516 q323941 = .inr (4, [.int p325704, .ref q325706, .int p325705]) := (n326518 q323941 (rn_oa he326434 he326508)).trans he326434
                                  have he326525 : F326516 q325706 = .inl (I (.object "java/lang/Object"), n325720, .inr (.inr (.inr (.inr f325721)))) := (n326518 q325706 (rn_ref_long he326435 he326508)).trans he326435
                                  have he326526 : F326516 q325723 = .inr (20, [.int p325736, .int p325737, .int p325738, .int p325739, .int p325740, .int p325741, .int p325742]) := (n326518 q325723 (rn_oa he326436 he326508)).trans he326436
                                  have he326527 : F326516 q270218 = .inr (22, [.ref (γ 9 0), .ref (γ 9 1), .ref (γ 9 2), .ref (γ 9 3), .ref (γ 9 4), .ref (γ 9 5), .ref (γ 9 6), .ref (γ 9 7), .ref (γ 9 8), .int p270227, .int p270228, .int p270229, .int p270230, .int p270231, .int p270232, .ref (γ 9 15), .ref (γ 9 16), .ref (γ 9 17), .ref (γ 9 18), .ref (γ 9 19), .ref (γ 9 20), .ref (γ 9 21), .ref (γ 9 22), .int p270233, .int p270234, .int p270235, .int p270236, .int p270237, .ref q270225, .ref (γ 9 29), .int p270238, .ref (γ 9 31), .int p270239, .int p270240, .int p270241, .ref q270226]) := (n326518 q270218 (rn_oa he326438 he326508)).trans he326438
                                  have he326528 : F326516 (γ 9 1) = .inl (I (.array .long), 2000, .inr (.inr (.inr (.inr f326502)))) := (n326518 (γ 9 1) (rn_ref_long he326501 he326508)).trans he326501
                                  have he326529 : F326516 (γ 9 2) = .inl (I .long, 32, .inr (.inl f326513)) := (n326518 (γ 9 2) (rn_ty ht270246 ht326505 (by decide))).trans he326512
                                  have he326530 : F326516 q326504 = .inl (I .long, 32, .inr (.inl f326519)) := e326517
                                  have hs326531 : rStr γ [] F270217 F326516 := rStr_put hs326425 n326518 ht326505 (by decide)
                                  have kp326532 : F326516 q270218 = F270217 q270218 := (n326518 q270218 (rn_ty htq270218 ht326505 (by decide))).trans x326427
                                  have kp326533 : F326516 (γ 9 3) = F326423 (γ 9 3) := n326518 (γ 9 3) (rn_ty ht270247 ht326505 (by decide))
                                  have wf326519 : lb_W f326519 (32) (32) (2000) := lb_Wst hf326519 wf326509 (by omega) (lb_Mod0 (by omega) (by omega)) qu326515
                                  obtain ⟨z326534, hz326534⟩ : ∃ z : Int32, z = g326422 + Int32.ofInt 1 := ⟨_, rfl⟩
                                  have ez326534 : z326534.toInt = g326422.toInt + 1 := gI_inc hz326534 (by decide) bg326422' (by decide) (by decide)
                                  have bz326534 : gB z326534 1 32 := ⟨by omega, by omega⟩
                                  refine G_iinc (L' := [(10, .int z326534), (9, .int 0), (8, .int (-1)), (7, .int o325777), (6, .ref q325723), (5, .int g325680), (4, .ref q323932), (3, .int g323269), (0, .ref q270218), (1, .ref q270219), (2, .int p270220)]) z326534 0 dr_cX17_graph_237 rfl hz326534.symm (Nat.le_of_ble_eq_true rfl) rfl ?_
                                  refine G_goto 210 dr_cX17_graph_240 (by decide +kernel) ?_
                                  have hT326535 : RS D I P270216 F326516 γ el := RS_set hT326424 n326518 ht326505 (by decide) ⟨f326519, he326530, wf326519⟩
                                  exact ih210_326427 F326516 z326534 (gB_w bz326534 (by decide) (by decide)) hT326535 hs326531 (by rw [kp326533]; exact x326426) kp326532 (mz_up ez326534 (Int.le_trans bg326422'.2 (by decide)) hm210_326427)
                            exact hlp210_326427 (((33 : Int) - 0).toNat + 1) F325755 0 (gB_w (gBl (show Int32.toInt 0 = 0 by decide)) (by decide) (by decide)) hT325756 hs325765 gr325771 kp325766 (Nat.lt_succ_self _)
                        · have r326536 : p325741.toInt ≠ 0 := gj_neq hc326284 (show Int32.toInt 0 = 0 by decide)
                          have bp325741' : gB p325741 1 1 := gB_t1 bp325741 r326536
                          refine G_aload 1 dr_cX17_graph_164 rfl ?_
                          refine Gp_get 2 hm325734 he325764 dr_cX17_graph_166 (gk_X15 D I) (Nat.le_of_ble_eq_true rfl) wr_9_186 rfl ?_
                          refine G_goto 173 dr_cX17_graph_169 (by decide +kernel) ?_
                          refine G_istore (L' := [(8, .int p325738), (7, .int o325777), (6, .ref q325723), (5, .int g325680), (4, .ref q323932), (3, .int g323269), (0, .ref q270218), (1, .ref q270219), (2, .int p270220)]) dr_cX17_graph_173 (Nat.le_of_ble_eq_true rfl) rfl ?_
                          refine G_iload 1 dr_cX17_graph_175 rfl ?_
                          refine G_if_lt 277 dr_cX17_graph_177 (by decide +kernel) (fun hc326537 => ?_) (fun hc326537 => ?_)
                          · have r326538 : o325777.toInt < 0 := gj_lt hc326537 (show Int32.toInt 0 = 0 by decide)
                            have bo325777' : gB o325777 (-1) (-1) := ⟨by omega, by omega⟩
                            refine G_aload_n 6 dr_cX17_graph_277 rfl ?_
                            refine G_aload 2 dr_cX17_graph_278 rfl ?_
                            refine G_iload_n 8 dr_cX17_graph_280 rfl ?_
                            refine Gw_callV (As := [.ref q325723, .int p270220]) (gV_ok D I) (ct_276931_SpillForgeModel_back l hl0 D I γ el P270216 F325755 q270218 q325723 p270220 hT325756 htq270218 ht325726 (gB_w bp270220' (by decide) (by decide))) dr_cX17_graph_281 ⟨wr_10_174, wr_1_14, wr_10_177, by decide, rfl, (Nat.le_of_ble_eq_true rfl), (Nat.le_of_ble_eq_true rfl)⟩ wr_10_176 wr_p_96 hm325696 he325767 rfl (show 0 + 0 ≤ 0 by first | omega | decide) (show 0 + 0 ≤ 0 by first | omega | decide) (Nat.le_of_ble_eq_true rfl) (fun r326542 w326543 dc326539 ds326540 hp326541 => ?_) (fun _ _ _ _ _ z => z.elim)
                            obtain ⟨F326546, rfl, rfl, hT326547, hs326548, hdc, hds, x326544, x326545⟩ := hp326541
                            have he326549 : F326546 q270219 = .inr (18, [.ref q323282, .ref q323283, .int p323284, .int p323285]) := (hs326548 q270219 (rT0 htq270219 (by decide)) (rT1 htq270219 (by decide)) (rT2 htq270219 (by decide))).trans he325758
                            have he326550 : F326546 q323282 = .inr (4, [.int p323913, .ref q323915, .int p323914]) := (hs326548 q323282 (rT0 ht323286 (by decide)) (rT1 ht323286 (by decide)) (rT2 ht323286 (by decide))).trans he325759
                            have he326551 : F326546 q323915 = .inl (I (.object "java/lang/Object"), n323929, .inr (.inr (.inr (.inr f323930)))) := (hs326548 q323915 (rT0 r323921 (by decide)) (rT1 r323921 (by decide)) (rT2 r323921 (by decide))).trans he325760
                            have he326552 : F326546 q323932 = .inr (17, [.ref q323941, .ref q323942, .int p323943, .int p323944]) := (hs326548 q323932 (rT0 ht323937 (by decide)) (rT1 ht323937 (by decide)) (rT2 ht323937 (by decide))).trans he325761
                            have he326553 : F326546 q323941 = .inr (4, [.int p325704, .ref q325706, .int p325705]) := (hs326548 q323941 (rT0 ht323945 (by decide)) (rT1 ht323945 (by decide)) (rT2 ht323945 (by decide))).trans he325762
                            have he326554 : F326546 q325706 = .inl (I (.object "java/lang/Object"), n325720, .inr (.inr (.inr (.inr f325721)))) := (hs326548 q325706 (rT0 r325712 (by decide)) (rT1 r325712 (by decide)) (rT2 r325712 (by decide))).trans he325763
                            have he326555 : F326546 q325723 = .inr (20, [.int p325736, .int p325737, .int p325738, .int p325739, .int p325740, .int p325741, .int p325742]) := (hs326548 q325723 (rT0 ht325726 (by decide)) (rT1 ht325726 (by decide)) (rT2 ht325726 (by decide))).trans he325764
                            have hs326556 : rStr γ [] F270217 F326546 := rStr_tr hs325765 hs326548
                            have kp326557 : F326546 q270218 = F270217 q270218 := (x326544).trans kp325766
                            have kp326558 : F326546 (γ 9 3) = F325755 (γ 9 3) := x326545
                            have he326559 : F326546 q270218 = .inr (22, [.ref (γ 9 0), .ref (γ 9 1), .ref (γ 9 2), .ref (γ 9 3), .ref (γ 9 4), .ref (γ 9 5), .ref (γ 9 6), .ref (γ 9 7), .ref (γ 9 8), .int p270227, .int p270228, .int p270229, .int p270230, .int p270231, .int p270232, .ref (γ 9 15), .ref (γ 9 16), .ref (γ 9 17), .ref (γ 9 18), .ref (γ 9 19), .ref (γ 9 20), .ref (γ 9 21), .ref (γ 9 22), .int p270233, .int p270234, .int p270235, .int p270236, .int p270237, .ref q270225, .ref (γ 9 29), .int p270238, .ref (γ 9 31), .int p270239, .int p270240, .int p270241, .ref q270226]) := (x326544).trans he325767
                            change G _ _ _ _ _ _ _ _ _ _ _
                            refine G_widen (cs' := 0) (sl' := 0) (by omega) (by omega) ?_
                            obtain ⟨z326560, hz326560⟩ : ∃ z : Int32, z = g325680 + Int32.ofInt (-1) := ⟨_, rfl⟩
                            have ez326560 : z326560.toInt = g325680.toInt + (-1) := gI_inc hz326560 (by decide) bg325680' (by decide) (by decide)
                            have bz326560 : gB z326560 (-1) 999998 := ⟨by omega, by omega⟩
                            refine G_iinc (L' := [(5, .int z326560), (8, .int p325738), (7, .int o325777), (6, .ref q325723), (4, .ref q323932), (3, .int g323269), (0, .ref q270218), (1, .ref q270219), (2, .int p270220)]) z326560 3 dr_cX17_graph_284 rfl hz326560.symm (Nat.le_of_ble_eq_true rfl) rfl ?_
                            refine G_goto 109 dr_cX17_graph_287 (by decide +kernel) ?_
                            refine G_lv (L' := [(5, .int z326560), (4, .ref q323932), (3, .int g323269), (0, .ref q270218), (1, .ref q270219), (2, .int p270220)]) [0, 4, 5, 6, 7, 8] rfl ?_
                            exact ih109_325686 F326546 z326560 (gB_w bz326560 (by decide) (by decide)) hT326547 hs326556 (by omega) (fun h0 => by have z := gr325771 h0; rw [← kp326558] at z; rw [show ((g325680.toInt : Int).toNat : Nat) = (z326560.toInt + 1 : Int).toNat by omega] at z; exact z) kp326557 (mz_dn ez326560 (Int.le_trans (by decide) bg325680'.1) hm109_325686)
                          · have r326561 : 0 ≤ o325777.toInt := gj_nlt hc326537 (show Int32.toInt 0 = 0 by decide)
                            have bo325777' : gB o325777 0 1999 := ⟨by omega, by omega⟩
                            refine G_iload 0 dr_cX17_graph_180 rfl ?_
                            refine G_if_lt 204 dr_cX17_graph_182 (by decide +kernel) (fun hc326562 => ?_) (fun hc326562 => ?_)
                            · have r326563 : p325738.toInt < 0 := gj_lt hc326562 (show Int32.toInt 0 = 0 by decide)
                              have bp325738' : gB p325738 (-2147483648) (-1) := ⟨by omega, by omega⟩
                              refine G_iconst 0 dr_cX17_graph_204 (by decide +kernel) ?_
                              refine G_istore (L' := [(9, .int 0), (8, .int p325738), (7, .int o325777), (6, .ref q325723), (5, .int g325680), (4, .ref q323932), (3, .int g323269), (0, .ref q270218), (1, .ref q270219), (2, .int p270220)]) dr_cX17_graph_205 (Nat.le_of_ble_eq_true rfl) rfl ?_
                              refine G_iconst 0 dr_cX17_graph_207 (by decide +kernel) ?_
                              refine G_istore (L' := [(10, .int 0), (9, .int 0), (8, .int p325738), (7, .int o325777), (6, .ref q325723), (5, .int g325680), (4, .ref q323932), (3, .int g323269), (0, .ref q270218), (1, .ref q270219), (2, .int p270220)]) dr_cX17_graph_208 (Nat.le_of_ble_eq_true rfl) rfl ?_
                              have hlp210_326680 : ∀ (n210_326680 : Nat) (F326676 : Nat → va_E) (g326675 : Int32), gB g326675 0 32 → RS D I P270216 F326676 γ el → rStr γ [] F270217 F326676 → (gIp (p270220.toInt = 0) (rGr γ el F270217 q270219 (γ 6 (γ 1 q270219)) (cB (F326676 (γ 9 3))) (vB (g323269.toInt : Int).toNat (g325680.toInt : Int).toNat))) → (F326676 q270218 = F270217 q270218) → ((33 : Int) - g326675.toInt).toNat < n210_326680 → G (gV D I) l (gRm 5 111 0 0) (gMA (gV D I) (pt_270222_SpillForgeModel_graph D I γ el P270216 F270217 q270218 q270219 p270220) gNA 0 0) ky_270222_SpillForgeModel_graph 210 [(10, .int g326675), (9, .int 0), (8, .int p325738), (7, .int o325777), (6, .ref q325723), (5, .int g325680), (4, .ref q323932), (3, .int g323269), (0, .ref q270218), (1, .ref q270219), (2, .int p270220)] [] (va_pl P270216 F326676) 0 0 := by
                                intro n210_326680
                                induction n210_326680 with
                                | zero => intro F326676 g326675 bg326675 hT326677 hs326678 x326679 x326680 hm210_326680; exact absurd hm210_326680 (Nat.not_lt_zero _)
                                | succ n210_326680 ih210_326680 =>
                                  intro F326676 g326675 bg326675 hT326677 hs326678 x326679 x326680 hm210_326680
                                  have hs326682 : rStr γ [] F325755 F326676 := fun b h0 hb hw => (hs326678 b h0 hb hw).trans (hs325765 b h0 hb hw).symm
                                  have he326683 : F326676 q270219 = .inr (18, [.ref q323282, .ref q323283, .int p323284, .int p323285]) := (hs326682 q270219 (rT0 htq270219 (by decide)) (rT1 htq270219 (by decide)) (rT2 htq270219 (by decide))).trans he325758
                                  have he326684 : F326676 q323282 = .inr (4, [.int p323913, .ref q323915, .int p323914]) := (hs326682 q323282 (rT0 ht323286 (by decide)) (rT1 ht323286 (by decide)) (rT2 ht323286 (by decide))).trans he325759
                                  have he326685 : F326676 q323915 = .inl (I (.object "java/lang/Object"), n323929, .inr (.inr (.inr (.inr f323930)))) := (hs326682 q323915 (rT0 r323921 (by decide)) (rT1 r323921 (by decide)) (rT2 r323921 (by decide))).trans he325760
                                  have he326686 : F326676 q323932 = .inr (17, [.ref q323941, .ref q323942, .int p323943, .int p323944]) := (hs326682 q323932 (rT0 ht323937 (by decide)) (rT1 ht323937 (by decide)) (rT2 ht323937 (by decide))).trans he325761
                                  have he326687 : F326676 q323941 = .inr (4, [.int p325704, .ref q325706, .int p325705]) := (hs326682 q323941 (rT0 ht323945 (by decide)) (rT1 ht323945 (by decide)) (rT2 ht323945 (by decide))).trans he325762
                                  have he326688 : F326676 q325706 = .inl (I (.object "java/lang/Object"), n325720, .inr (.inr (.inr (.inr f325721)))) := (hs326682 q325706 (rT0 r325712 (by decide)) (rT1 r325712 (by decide)) (rT2 r325712 (by decide))).trans he325763
                                  have he326689 : F326676 q325723 = .inr (20, [.int p325736, .int p325737, .int p325738, .int p325739, .int p325740, .int p325741, .int p325742]) := (hs326682 q325723 (rT0 ht325726 (by decide)) (rT1 ht325726 (by decide)) (rT2 ht325726 (by decide))).trans he325764
                                  have hs326690 : rStr γ [] F270217 F326676 := rStr_tr hs325765 hs326682
                                  have he326691 : F326676 q270218 = .inr (22, [.ref (γ 9 0), .ref (γ 9 1), .ref (γ 9 2), .ref (γ 9 3), .ref (γ 9 4), .ref (γ 9 5), .ref (γ 9 6), .ref (γ 9 7), .ref (γ 9 8), .int p270227, .int p270228, .int p270229, .int p270230, .int p270231, .int p270232, .ref (γ 9 15), .ref (γ 9 16), .ref (γ 9 17), .ref (γ 9 18), .ref (γ 9 19), .ref (γ 9 20), .ref (γ 9 21), .ref (γ 9 22), .int p270233, .int p270234, .int p270235, .int p270236, .int p270237, .ref q270225, .ref (γ 9 29), .int p270238, .ref (γ 9 31), .int p270239, .int p270240, .int p270241, .ref q270226]) := x326680.trans he270224
                                  have hm326692 : q270218 ∈ P270216 := RS_m hT326677 htq270218 (by decide)
                                  refine G_iload 0 dr_cX17_graph_210 rfl ?_
                                  refine G_bipush 32 dr_cX17_graph_212 (by decide +kernel) ?_
                                  refine G_icmp_ge 243 dr_cX17_graph_214 (by decide +kernel) (fun hc326693 => ?_) (fun hc326693 => ?_)
                                  · have r326694 : 32 ≤ g326675.toInt := gj_leL hc326693 (show Int32.toInt 32 = 32 by decide)
                                    have bg326675' : gB g326675 32 32 := ⟨by omega, by omega⟩
                                    refine G_iload 2 dr_cX17_graph_243 rfl ?_
                                    refine G_if_lt 265 dr_cX17_graph_245 (by decide +kernel) (fun _ => ?_) (fun hc => absurd (show False by have := gj_nlt hc (show Int32.toInt 0 = 0 by decide); omega) not_false)
                                    refine G_aload_n 8 dr_cX17_graph_265 rfl ?_
                                    refine Gp_get 1 hm326692 he326691 dr_cX17_graph_266 (gk_X17 D I) (Nat.le_of_ble_eq_true rfl) wr_7_75 rfl ?_
                                    refine G_iload 3 dr_cX17_graph_269 rfl ?_
                                    have hm326695 : (γ 9 1) ∈ P270216 := RS_m hT326677 ht270245 (by decide)
                                    obtain ⟨f326697, he326696, hg326698⟩ := show rk_13 I γ (F326676 (γ 9 1)) from RS_o hT326677 ht270245
                                    obtain ⟨q326699, hx326701⟩ : ∃ x, x = γ 11 o325777.toInt.toNat := ⟨_, rfl⟩
                                    have ht326700 : rKd γ q326699 36 := by rw [hx326701]; exact (hg326698 _ (show o325777.toInt.toNat < 2000 by omega)).2.1
                                    refine Gp_aald 5 hm326695 he326696 dr_cX17_graph_271 rfl rfl (gB_in bo325777' (by decide) (by decide)) ?_
                                    rw [show f326697 o325777.toNatClampNeg = some q326699 from (hg326698 _ (show o325777.toInt.toNat < 2000 by omega)).1.trans (by rw [hx326701])]
                                    change G _ _ _ _ _ _ _ (.ref q326699 :: _) _ _ _
                                    refine G_iload 3 dr_cX17_graph_272 rfl ?_
                                    have hm326702 : q326699 ∈ P270216 := RS_m hT326677 ht326700 (by decide)
                                    obtain ⟨f326704, he326703, wf326704⟩ := show rk_36 I (F326676 q326699) from RS_o hT326677 ht326700
                                    refine Gw_callS (As := [.ref q326699, .int o325777]) (gV_ok D I) (cp_1873_SpillForgeModel_clear l hl0 D I P270216 F326676 q326699 o325777 f326704 hm326702 he326703 bo325777' wf326704) dr_cX17_graph_274 ⟨wr_10_185, wr_1_14, wr_10_187, by decide, rfl, (Nat.le_of_ble_eq_true rfl), (Nat.le_of_ble_eq_true rfl)⟩ wr_10_186 (show 0 + 0 ≤ 0 by first | omega | decide) (show 0 + 0 ≤ 0 by first | omega | decide) (Nat.le_of_ble_eq_true rfl) (fun r326708 w326709 dc326705 ds326706 hp326707 => ?_) (fun _ _ _ _ _ z => z.elim)
                                    obtain ⟨F326712, f326710, rfl, rfl, hfr326714, he326715, hdc, hds, x326711⟩ := hp326707
                                    have he326716 : F326712 q270219 = .inr (18, [.ref q323282, .ref q323283, .int p323284, .int p323285]) := (hfr326714 q270219 hm323280 (nm_c (rn_oa he326683 he326703) nm_n)).trans he326683
                                    have he326717 : F326712 q323282 = .inr (4, [.int p323913, .ref q323915, .int p323914]) := (hfr326714 q323282 hm323911 (nm_c (rn_oa he326684 he326703) nm_n)).trans he326684
                                    have he326718 : F326712 q323915 = .inl (I (.object "java/lang/Object"), n323929, .inr (.inr (.inr (.inr f323930)))) := (hfr326714 q323915 hm323931 (nm_c (rn_ref_long he326685 he326703) nm_n)).trans he326685
                                    have he326719 : F326712 q323932 = .inr (17, [.ref q323941, .ref q323942, .int p323943, .int p323944]) := (hfr326714 q323932 hm323939 (nm_c (rn_oa he326686 he326703) nm_n)).trans he326686
                                    have he326720 : F326712 q323941 = .inr (4, [.int p325704, .ref q325706, .int p325705]) := (hfr326714 q323941 hm325702 (nm_c (rn_oa he326687 he326703) nm_n)).trans he326687
                                    have he326721 : F326712 q325706 = .inl (I (.object "java/lang/Object"), n325720, .inr (.inr (.inr (.inr f325721)))) := (hfr326714 q325706 hm325722 (nm_c (rn_ref_long he326688 he326703) nm_n)).trans he326688
                                    have he326722 : F326712 q325723 = .inr (20, [.int p325736, .int p325737, .int p325738, .int p325739, .int p325740, .int p325741, .int p325742]) := (hfr326714 q325723 hm325734 (nm_c (rn_oa he326689 he326703) nm_n)).trans he326689
                                    have he326723 : F326712 q270218 = .inr (22, [.ref (γ 9 0), .ref (γ 9 1), .ref (γ 9 2), .ref (γ 9 3), .ref (γ 9 4), .ref (γ 9 5), .ref (γ 9 6), .ref (γ 9 7), .ref (γ 9 8), .int p270227, .int p270228, .int p270229, .int p270230, .int p270231, .int p270232, .ref (γ 9 15), .ref (γ 9 16), .ref (γ 9 17), .ref (γ 9 18), .ref (γ 9 19), .ref (γ 9 20), .ref (γ 9 21), .ref (γ 9 22), .int p270233, .int p270234, .int p270235, .int p270236, .int p270237, .ref q270225, .ref (γ 9 29), .int p270238, .ref (γ 9 31), .int p270239, .int p270240, .int p270241, .ref q270226]) := (hfr326714 q270218 hm326692 (nm_c (rn_oa he326691 he326703) nm_n)).trans he326691
                                    have he326724 : F326712 (γ 9 1) = .inl (I (.array .long), 2000, .inr (.inr (.inr (.inr f326697)))) := (hfr326714 (γ 9 1) hm326695 (nm_c (rn_ref_long he326696 he326703) nm_n)).trans he326696
                                    have hfr326725 : rFr [q326699] P270216 F326676 F326712 := rFr_call (rSub_rf (P := P270216)) (rFr_rf (W := []) (P := P270216) (F := F326676)) hfr326714 (fun b hb hn => ⟨nm_n, (nm_c (fun e => hn (e ▸ List.mem_cons_self)) nm_n)⟩)
                                    change G _ _ _ _ _ _ _ _ _ _ _
                                    refine G_widen (cs' := 0) (sl' := 0) (by omega) (by omega) ?_
                                    have hT326726 : RS D I P270216 F326712 γ el := RS_fr hT326677 hfr326725 ht326700 (by decide) ⟨f326710, he326715, x326711⟩
                                    have hs326727 : rStr γ [] F270217 F326712 := rStr_fr hT326677 hs326678 hfr326725 ht326700 (by decide)
                                    have kp326728 : F326712 q270218 = F270217 q270218 := (hfr326725 q270218 (RS_m hT326677 htq270218 (by decide)) (nm_c (rn_ty htq270218 ht326700 (by decide)) nm_n)).trans x326680
                                    have kp326729 : F326712 (γ 9 3) = F326676 (γ 9 3) := hfr326725 (γ 9 3) (RS_m hT326677 ht270247 (by decide)) (nm_c (rn_ty ht270247 ht326700 (by decide)) nm_n)
                                    refine G_aload_n 8 dr_cX17_graph_277 rfl ?_
                                    refine G_aload 4 dr_cX17_graph_278 rfl ?_
                                    refine G_iload_n 10 dr_cX17_graph_280 rfl ?_
                                    refine Gw_callV (As := [.ref q325723, .int p270220]) (gV_ok D I) (ct_276931_SpillForgeModel_back l hl0 D I γ el P270216 F326712 q270218 q325723 p270220 hT326726 htq270218 ht325726 (gB_w bp270220' (by decide) (by decide))) dr_cX17_graph_281 ⟨wr_10_174, wr_1_14, wr_10_177, by decide, rfl, (Nat.le_of_ble_eq_true rfl), (Nat.le_of_ble_eq_true rfl)⟩ wr_10_176 wr_p_96 hm326692 he326723 rfl (show 0 + 0 ≤ 0 by first | omega | decide) (show 0 + 0 ≤ 0 by first | omega | decide) (Nat.le_of_ble_eq_true rfl) (fun r326733 w326734 dc326730 ds326731 hp326732 => ?_) (fun _ _ _ _ _ z => z.elim)
                                    obtain ⟨F326737, rfl, rfl, hT326738, hs326739, hdc, hds, x326735, x326736⟩ := hp326732
                                    have he326740 : F326737 q270219 = .inr (18, [.ref q323282, .ref q323283, .int p323284, .int p323285]) := (hs326739 q270219 (rT0 htq270219 (by decide)) (rT1 htq270219 (by decide)) (rT2 htq270219 (by decide))).trans he326716
                                    have he326741 : F326737 q323282 = .inr (4, [.int p323913, .ref q323915, .int p323914]) := (hs326739 q323282 (rT0 ht323286 (by decide)) (rT1 ht323286 (by decide)) (rT2 ht323286 (by decide))).trans he326717
                                    have he326742 : F326737 q323915 = .inl (I (.object "java/lang/Object"), n323929, .inr (.inr (.inr (.inr f323930)))) := (hs326739 q323915 (rT0 r323921 (by decide)) (rT1 r323921 (by decide)) (rT2 r323921 (by decide))).trans he326718
                                    have he326743 : F326737 q323932 = .inr (17, [.ref q323941, .ref q323942, .int p323943, .int p323944]) := (hs326739 q323932 (rT0 ht323937 (by decide)) (rT1 ht323937 (by decide)) (rT2 ht323937 (by decide))).trans he326719
                                    have he326744 : F326737 q323941 = .inr (4, [.int p325704, .ref q325706, .int p325705]) := (hs326739 q323941 (rT0 ht323945 (by decide)) (rT1 ht323945 (by decide)) (rT2 ht323945 (by decide))).trans he326720
                                    have he326745 : F326737 q325706 = .inl (I (.object "java/lang/Object"), n325720, .inr (.inr (.inr (.inr f325721)))) := (hs326739 q325706 (rT0 r325712 (by decide)) (rT1 r325712 (by decide)) (rT2 r325712 (by decide))).trans he326721
                                    have he326746 : F326737 q325723 = .inr (20, [.int p325736, .int p325737, .int p325738, .int p325739, .int p325740, .int p325741, .int p325742]) := (hs326739 q325723 (rT0 ht325726 (by decide)) (rT1 ht325726 (by decide)) (rT2 ht325726 (by decide))).trans he326722
                                    have hs326747 : rStr γ [] F270217 F326737 := rStr_tr hs326727 hs326739
                                    have kp326748 : F326737 q270218 = F270217 q270218 := (x326735).trans kp326728
                                    have kp326749 : F326737 (γ 9 3) = F326676 (γ 9 3) := (x326736).trans kp326729
                                    have he326750 : F326737 q270218 = .inr (22, [.ref (γ 9 0), .ref (γ 9 1), .ref (γ 9 2), .ref (γ 9 3), .ref (γ 9 4), .ref (γ 9 5), .ref (γ 9 6), .ref (γ 9 7), .ref (γ 9 8), .int p270227, .int p270228, .int p270229, .int p270230, .int p270231, .int p270232, .ref (γ 9 15), .ref (γ 9 16), .ref (γ 9 17), .ref (γ 9 18), .ref (γ 9 19), .ref (γ 9 20), .ref (γ 9 21), .ref (γ 9 22), .int p270233, .int p270234, .int p270235, .int p270236, .int p270237, .ref q270225, .ref (γ 9 29), .int p270238, .ref (γ 9 31), .int p270239, .int p270240, .int p270241, .ref q270226]) := (x326735).trans he326723
                                    change G _ _ _ _ _ _ _ _ _ _ _
                                    refine G_widen (cs' := 0) (sl' := 0) (by omega) (by omega) ?_
                                    obtain ⟨z326751, hz326751⟩ : ∃ z : Int32, z = g325680 + Int32.ofInt (-1) := ⟨_, rfl⟩
                                    have ez326751 : z326751.toInt = g325680.toInt + (-1) := gI_inc hz326751 (by decide) bg325680' (by decide) (by decide)
                                    have bz326751 : gB z326751 (-1) 999998 := ⟨by omega, by omega⟩
                                    refine G_iinc (L' := [(5, .int z326751), (10, .int g326675), (9, .int 0), (8, .int p325738), (7, .int o325777), (6, .ref q325723), (4, .ref q323932), (3, .int g323269), (0, .ref q270218), (1, .ref q270219), (2, .int p270220)]) z326751 5 dr_cX17_graph_284 rfl hz326751.symm (Nat.le_of_ble_eq_true rfl) rfl ?_
                                    refine G_goto 109 dr_cX17_graph_287 (by decide +kernel) ?_
                                    refine G_lv (L' := [(5, .int z326751), (4, .ref q323932), (3, .int g323269), (0, .ref q270218), (1, .ref q270219), (2, .int p270220)]) [0, 6, 7, 8, 9, 10] rfl ?_
                                    exact ih109_325686 F326737 z326751 (gB_w bz326751 (by decide) (by decide)) hT326738 hs326747 (by omega) (fun h0 => by have z := x326679 h0; rw [← kp326749] at z; rw [show ((g325680.toInt : Int).toNat : Nat) = (z326751.toInt + 1 : Int).toNat by omega] at z; exact z) kp326748 (mz_dn ez326751 (Int.le_trans (by decide) bg325680'.1) hm109_325686)
                                  · have r326752 : g326675.toInt < 32 := gj_nleL hc326693 (show Int32.toInt 32 = 32 by decide)
                                    have bg326675' : gB g326675 0 31 := ⟨by omega, by omega⟩
                                    refine G_aload_n 8 dr_cX17_graph_217 rfl ?_
                                    refine Gp_get 1 hm326692 he326691 dr_cX17_graph_218 (gk_X17 D I) (Nat.le_of_ble_eq_true rfl) wr_7_75 rfl ?_
                                    refine G_iload 3 dr_cX17_graph_221 rfl ?_
                                    have hm326753 : (γ 9 1) ∈ P270216 := RS_m hT326677 ht270245 (by decide)
                                    obtain ⟨f326755, he326754, hg326756⟩ := show rk_13 I γ (F326676 (γ 9 1)) from RS_o hT326677 ht270245
                                    obtain ⟨q326757, hx326759⟩ : ∃ x, x = γ 11 o325777.toInt.toNat := ⟨_, rfl⟩
                                    have ht326758 : rKd γ q326757 36 := by rw [hx326759]; exact (hg326756 _ (show o325777.toInt.toNat < 2000 by omega)).2.1
                                    refine Gp_aald 5 hm326753 he326754 dr_cX17_graph_223 rfl rfl (gB_in bo325777' (by decide) (by decide)) ?_
                                    rw [show f326755 o325777.toNatClampNeg = some q326757 from (hg326756 _ (show o325777.toInt.toNat < 2000 by omega)).1.trans (by rw [hx326759])]
                                    change G _ _ _ _ _ _ _ (.ref q326757 :: _) _ _ _
                                    refine G_iload 0 dr_cX17_graph_224 rfl ?_
                                    refine G_dup2_11 dr_cX17_graph_226 rfl rfl ?_
                                    have hm326760 : q326757 ∈ P270216 := RS_m hT326677 ht326758 (by decide)
                                    obtain ⟨f326762, he326761, wf326762⟩ := show rk_36 I (F326676 q326757) from RS_o hT326677 ht326758
                                    refine Gp_lald 2 hm326760 he326761 dr_cX17_graph_227 rfl (gB_in bg326675' (by decide) (by decide)) (G_namL fun u326763 hu326763 => ?_)
                                    have qu326763 : lb_Q u326763 (2000 - 64 * g326675.toInt) := lb_Wld hu326763 wf326762 (by omega) (by omega) (lb_Mod0 (by omega) (by omega))
                                    refine G_aload_n 8 dr_cX17_graph_228 rfl ?_
                                    refine Gp_get 2 hm326692 he326691 dr_cX17_graph_229 (gk_X17 D I) (Nat.le_of_ble_eq_true rfl) wr_7_76 rfl ?_
                                    refine G_iload 0 dr_cX17_graph_232 rfl ?_
                                    have hm326764 : (γ 9 2) ∈ P270216 := RS_m hT326677 ht270246 (by decide)
                                    obtain ⟨f326766, he326765, wf326766⟩ := show rk_35 I (F326676 (γ 9 2)) from RS_o hT326677 ht270246
                                    refine Gp_lald 2 hm326764 he326765 dr_cX17_graph_234 rfl (gB_in bg326675' (by decide) (by decide)) (G_namL fun u326767 hu326767 => ?_)
                                    have qu326767 : lb_Q u326767 (2000 - 64 * g326675.toInt) := lb_Wld hu326767 wf326766 (by omega) (by omega) (lb_Mod0 (by omega) (by omega))
                                    refine G_lor dr_cX17_graph_235 (G_namL fun u326768 hu326768 => ?_)
                                    have qu326768 : lb_Q u326768 (2000 - 64 * g326675.toInt) := lb_Qor hu326768 qu326763 qu326767
                                    refine Gp_last 2 hm326760 he326761 dr_cX17_graph_236 rfl (gB_in bg326675' (by decide) (by decide)) (fun F326769 e326770 n326771 => ?_)
                                    obtain ⟨f326772, hf326772⟩ : ∃ z, z = vp_updL f326762 g326675.toNatClampNeg u326768 := ⟨_, rfl⟩
                                    rw [← hf326772] at e326770
                                    have he326773 : F326769 q270219 = .inr (18, [.ref q323282, .ref q323283, .int p323284, .int p323285]) := (n326771 q270219 (rn_oa he326683 he326761)).trans he326683
                                    have he326774 : F326769 q323282 = .inr (4, [.int p323913, .ref q323915, .int p323914]) := (n326771 q323282 (rn_oa he326684 he326761)).trans he326684
                                    have he326775 : F326769 q323915 = .inl (I (.object "java/lang/Object"), n323929, .inr (.inr (.inr (.inr f323930)))) := (n326771 q323915 (rn_ref_long he326685 he326761)).trans he326685
                                    have he326776 : F326769 q323932 = .inr (17, [.ref q323941, .ref q323942, .int p323943, .int p323944]) := (n326771 q323932 (rn_oa he326686 he326761)).trans he326686
                                    have he326777 : F326769 q323941 = .inr (4, [.int p325704, .ref q325706, .int p325705]) := (n326771 q323941 (rn_oa he326687 he326761)).trans he326687
                                    have he326778 : F326769 q325706 = .inl (I (.object "java/lang/Object"), n325720, .inr (.inr (.inr (.inr f325721)))) := (n326771 q325706 (rn_ref_long he326688 he326761)).trans he326688
                                    have he326779 : F326769 q325723 = .inr (20, [.int p325736, .int p325737, .int p325738, .int p325739, .int p325740, .int p325741, .int p325742]) := (n326771 q325723 (rn_oa he326689 he326761)).trans he326689
                                    have he326780 : F326769 q270218 = .inr (22, [.ref (γ 9 0), .ref (γ 9 1), .ref (γ 9 2), .ref (γ 9 3), .ref (γ 9 4), .ref (γ 9 5), .ref (γ 9 6), .ref (γ 9 7), .ref (γ 9 8), .int p270227, .int p270228, .int p270229, .int p270230, .int p270231, .int p270232, .ref (γ 9 15), .ref (γ 9 16), .ref (γ 9 17), .ref (γ 9 18), .ref (γ 9 19), .ref (γ 9 20), .ref (γ 9 21), .ref (γ 9 22), .int p270233, .int p270234, .int p270235, .int p270236, .int p270237, .ref q270225, .ref (γ 9 29), .int p270238, .ref (γ 9 31), .int p270239, .int p270240, .int p270241, .ref q270226]) := (n326771 q270218 (rn_oa he326691 he326761)).trans he326691
                                    have he326781 : F326769 (γ 9 1) = .inl (I (.array .long), 2000, .inr (.inr (.inr (.inr f326755)))) := (n326771 (γ 9 1) (rn_ref_long he326754 he326761)).trans he326754
                                    have he326782 : F326769 (γ 9 2) = .inl (I .long, 32, .inr (.inl f326766)) := (n326771 (γ 9 2) (rn_ty ht270246 ht326758 (by decide))).trans he326765
                                    have he326783 : F326769 q326757 = .inl (I .long, 32, .inr (.inl f326772)) := e326770
                                    have hs326784 : rStr γ [] F270217 F326769 := rStr_put hs326678 n326771 ht326758 (by decide)
                                    have kp326785 : F326769 q270218 = F270217 q270218 := (n326771 q270218 (rn_ty htq270218 ht326758 (by decide))).trans x326680
                                    have kp326786 : F326769 (γ 9 3) = F326676 (γ 9 3) := n326771 (γ 9 3) (rn_ty ht270247 ht326758 (by decide))
                                    have wf326772 : lb_W f326772 (32) (32) (2000) := lb_Wst hf326772 wf326762 (by omega) (lb_Mod0 (by omega) (by omega)) qu326768
                                    obtain ⟨z326787, hz326787⟩ : ∃ z : Int32, z = g326675 + Int32.ofInt 1 := ⟨_, rfl⟩
                                    have ez326787 : z326787.toInt = g326675.toInt + 1 := gI_inc hz326787 (by decide) bg326675' (by decide) (by decide)
                                    have bz326787 : gB z326787 1 32 := ⟨by omega, by omega⟩
                                    refine G_iinc (L' := [(10, .int z326787), (9, .int 0), (8, .int p325738), (7, .int o325777), (6, .ref q325723), (5, .int g325680), (4, .ref q323932), (3, .int g323269), (0, .ref q270218), (1, .ref q270219), (2, .int p270220)]) z326787 0 dr_cX17_graph_237 rfl hz326787.symm (Nat.le_of_ble_eq_true rfl) rfl ?_
                                    refine G_goto 210 dr_cX17_graph_240 (by decide +kernel) ?_
                                    have hT326788 : RS D I P270216 F326769 γ el := RS_set hT326677 n326771 ht326758 (by decide) ⟨f326772, he326783, wf326772⟩
                                    exact ih210_326680 F326769 z326787 (gB_w bz326787 (by decide) (by decide)) hT326788 hs326784 (by rw [kp326786]; exact x326679) kp326785 (mz_up ez326787 (Int.le_trans bg326675'.2 (by decide)) hm210_326680)
                              exact hlp210_326680 (((33 : Int) - 0).toNat + 1) F325755 0 (gB_w (gBl (show Int32.toInt 0 = 0 by decide)) (by decide) (by decide)) hT325756 hs325765 gr325771 kp325766 (Nat.lt_succ_self _)
                            · have r326789 : 0 ≤ p325738.toInt := gj_nlt hc326562 (show Int32.toInt 0 = 0 by decide)
                              have bp325738' : gB p325738 0 2147483647 := ⟨by omega, by omega⟩
                              refine G_aload_n 6 dr_cX17_graph_185 rfl ?_
                              refine Gp_get 1 hm325696 he325767 dr_cX17_graph_186 (gk_X17 D I) (Nat.le_of_ble_eq_true rfl) wr_7_75 rfl ?_
                              refine G_iload 1 dr_cX17_graph_189 rfl ?_
                              have hm326790 : (γ 9 1) ∈ P270216 := RS_m hT325756 ht270245 (by decide)
                              obtain ⟨f326792, he326791, hg326793⟩ := show rk_13 I γ (F325755 (γ 9 1)) from RS_o hT325756 ht270245
                              obtain ⟨q326794, hx326796⟩ : ∃ x, x = γ 11 o325777.toInt.toNat := ⟨_, rfl⟩
                              have ht326795 : rKd γ q326794 36 := by rw [hx326796]; exact (hg326793 _ (show o325777.toInt.toNat < 2000 by omega)).2.1
                              refine Gp_aald 5 hm326790 he326791 dr_cX17_graph_191 rfl rfl (gB_in bo325777' (by decide) (by decide)) ?_
                              rw [show f326792 o325777.toNatClampNeg = some q326794 from (hg326793 _ (show o325777.toInt.toNat < 2000 by omega)).1.trans (by rw [hx326796])]
                              change G _ _ _ _ _ _ _ (.ref q326794 :: _) _ _ _
                              refine G_iload 0 dr_cX17_graph_192 rfl ?_
                              have hm326797 : q326794 ∈ P270216 := RS_m hT325756 ht326795 (by decide)
                              obtain ⟨f326799, he326798, wf326799⟩ := show rk_36 I (F325755 q326794) from RS_o hT325756 ht326795
                              refine Gw_callS (As := [.ref q326794, .int p325738]) (gV_ok D I) (cp_1838_SpillForgeModel_has l hl0 D I P270216 F325755 q326794 p325738 f326799 hm326797 he326798 ⟨by omega, by omega⟩) dr_cX17_graph_194 ⟨wr_10_203, wr_1_14, wr_10_205, by decide, rfl, (Nat.le_of_ble_eq_true rfl), (Nat.le_of_ble_eq_true rfl)⟩ wr_10_204 (show 0 + 0 ≤ 0 by first | omega | decide) (show 0 + 0 ≤ 0 by first | omega | decide) (Nat.le_of_ble_eq_true rfl) (fun r326803 w326804 dc326800 ds326801 hp326802 => ?_) (fun _ _ _ _ _ z => z.elim)
                              rcases hp326802 with ⟨z326805, z326806, rfl, rfl, hdc, hds, r326807, r326808, r326809, r326810⟩ | ⟨z326811, z326812, rfl, rfl, hdc, hds, r326813, r326814, r326815, r326816⟩
                              · change G _ _ _ _ _ _ _ (.int 0 :: _) _ _ _
                                refine G_widen (cs' := 0) (sl' := 0) (by omega) (by omega) ?_
                                refine G_if_eq 204 dr_cX17_graph_197 (by decide +kernel) (fun _ => ?_) (fun hc => absurd hc (by decide))
                                refine G_iconst 0 dr_cX17_graph_204 (by decide +kernel) ?_
                                refine G_istore (L' := [(9, .int 0), (8, .int p325738), (7, .int o325777), (6, .ref q325723), (5, .int g325680), (4, .ref q323932), (3, .int g323269), (0, .ref q270218), (1, .ref q270219), (2, .int p270220)]) dr_cX17_graph_205 (Nat.le_of_ble_eq_true rfl) rfl ?_
                                refine G_iconst 0 dr_cX17_graph_207 (by decide +kernel) ?_
                                refine G_istore (L' := [(10, .int 0), (9, .int 0), (8, .int p325738), (7, .int o325777), (6, .ref q325723), (5, .int g325680), (4, .ref q323932), (3, .int g323269), (0, .ref q270218), (1, .ref q270219), (2, .int p270220)]) dr_cX17_graph_208 (Nat.le_of_ble_eq_true rfl) rfl ?_
                                have hlp210_326965 : ∀ (n210_326965 : Nat) (F326961 : Nat → va_E) (g326960 : Int32), gB g326960 0 32 → RS D I P270216 F326961 γ el → rStr γ [] F270217 F326961 → (gIp (p270220.toInt = 0) (rGr γ el F270217 q270219 (γ 6 (γ 1 q270219)) (cB (F326961 (γ 9 3))) (vB (g323269.toInt : Int).toNat (g325680.toInt : Int).toNat))) → (F326961 q270218 = F270217 q270218) → ((33 : Int) - g326960.toInt).toNat < n210_326965 → G (gV D I) l (gRm 5 111 0 0) (gMA (gV D I) (pt_270222_SpillForgeModel_graph D I γ el P270216 F270217 q270218 q270219 p270220) gNA 0 0) ky_270222_SpillForgeModel_graph 210 [(10, .int g326960), (9, .int 0), (8, .int p325738), (7, .int o325777), (6, .ref q325723), (5, .int g325680), (4, .ref q323932), (3, .int g323269), (0, .ref q270218), (1, .ref q270219), (2, .int p270220)] [] (va_pl P270216 F326961) 0 0 := by
                                  intro n210_326965
                                  induction n210_326965 with
                                  | zero => intro F326961 g326960 bg326960 hT326962 hs326963 x326964 x326965 hm210_326965; exact absurd hm210_326965 (Nat.not_lt_zero _)
                                  | succ n210_326965 ih210_326965 =>
                                    intro F326961 g326960 bg326960 hT326962 hs326963 x326964 x326965 hm210_326965
                                    have hs326967 : rStr γ [] F325755 F326961 := fun b h0 hb hw => (hs326963 b h0 hb hw).trans (hs325765 b h0 hb hw).symm
                                    have he326968 : F326961 q270219 = .inr (18, [.ref q323282, .ref q323283, .int p323284, .int p323285]) := (hs326967 q270219 (rT0 htq270219 (by decide)) (rT1 htq270219 (by decide)) (rT2 htq270219 (by decide))).trans he325758
                                    have he326969 : F326961 q323282 = .inr (4, [.int p323913, .ref q323915, .int p323914]) := (hs326967 q323282 (rT0 ht323286 (by decide)) (rT1 ht323286 (by decide)) (rT2 ht323286 (by decide))).trans he325759
                                    have he326970 : F326961 q323915 = .inl (I (.object "java/lang/Object"), n323929, .inr (.inr (.inr (.inr f323930)))) := (hs326967 q323915 (rT0 r323921 (by decide)) (rT1 r323921 (by decide)) (rT2 r323921 (by decide))).trans he325760
                                    have he326971 : F326961 q323932 = .inr (17, [.ref q323941, .ref q323942, .int p323943, .int p323944]) := (hs326967 q323932 (rT0 ht323937 (by decide)) (rT1 ht323937 (by decide)) (rT2 ht323937 (by decide))).trans he325761
                                    have he326972 : F326961 q323941 = .inr (4, [.int p325704, .ref q325706, .int p325705]) := (hs326967 q323941 (rT0 ht323945 (by decide)) (rT1 ht323945 (by decide)) (rT2 ht323945 (by decide))).trans he325762
                                    have he326973 : F326961 q325706 = .inl (I (.object "java/lang/Object"), n325720, .inr (.inr (.inr (.inr f325721)))) := (hs326967 q325706 (rT0 r325712 (by decide)) (rT1 r325712 (by decide)) (rT2 r325712 (by decide))).trans he325763
                                    have he326974 : F326961 q325723 = .inr (20, [.int p325736, .int p325737, .int p325738, .int p325739, .int p325740, .int p325741, .int p325742]) := (hs326967 q325723 (rT0 ht325726 (by decide)) (rT1 ht325726 (by decide)) (rT2 ht325726 (by decide))).trans he325764
                                    have hs326975 : rStr γ [] F270217 F326961 := rStr_tr hs325765 hs326967
                                    have he326976 : F326961 q270218 = .inr (22, [.ref (γ 9 0), .ref (γ 9 1), .ref (γ 9 2), .ref (γ 9 3), .ref (γ 9 4), .ref (γ 9 5), .ref (γ 9 6), .ref (γ 9 7), .ref (γ 9 8), .int p270227, .int p270228, .int p270229, .int p270230, .int p270231, .int p270232, .ref (γ 9 15), .ref (γ 9 16), .ref (γ 9 17), .ref (γ 9 18), .ref (γ 9 19), .ref (γ 9 20), .ref (γ 9 21), .ref (γ 9 22), .int p270233, .int p270234, .int p270235, .int p270236, .int p270237, .ref q270225, .ref (γ 9 29), .int p270238, .ref (γ 9 31), .int p270239, .int p270240, .int p270241, .ref q270226]) := x326965.trans he270224
                                    have hm326977 : q270218 ∈ P270216 := RS_m hT326962 htq270218 (by decide)
                                    refine G_iload 0 dr_cX17_graph_210 rfl ?_
                                    refine G_bipush 32 dr_cX17_graph_212 (by decide +kernel) ?_
                                    refine G_icmp_ge 243 dr_cX17_graph_214 (by decide +kernel) (fun hc326978 => ?_) (fun hc326978 => ?_)
                                    · have r326979 : 32 ≤ g326960.toInt := gj_leL hc326978 (show Int32.toInt 32 = 32 by decide)
                                      have bg326960' : gB g326960 32 32 := ⟨by omega, by omega⟩
                                      refine G_iload 2 dr_cX17_graph_243 rfl ?_
                                      refine G_if_lt 265 dr_cX17_graph_245 (by decide +kernel) (fun hc => absurd (show False by have := gj_lt hc (show Int32.toInt 0 = 0 by decide); omega) not_false) (fun _ => ?_)
                                      refine G_iload 1 dr_cX17_graph_248 rfl ?_
                                      refine G_if_ne 265 dr_cX17_graph_250 (by decide +kernel) (fun hc => absurd hc (by decide)) (fun _ => ?_)
                                      refine G_aload_n 8 dr_cX17_graph_253 rfl ?_
                                      refine Gp_get 1 hm326977 he326976 dr_cX17_graph_254 (gk_X17 D I) (Nat.le_of_ble_eq_true rfl) wr_7_75 rfl ?_
                                      refine G_iload 3 dr_cX17_graph_257 rfl ?_
                                      have hm326980 : (γ 9 1) ∈ P270216 := RS_m hT326962 ht270245 (by decide)
                                      obtain ⟨f326982, he326981, hg326983⟩ := show rk_13 I γ (F326961 (γ 9 1)) from RS_o hT326962 ht270245
                                      obtain ⟨q326984, hx326986⟩ : ∃ x, x = γ 11 o325777.toInt.toNat := ⟨_, rfl⟩
                                      have ht326985 : rKd γ q326984 36 := by rw [hx326986]; exact (hg326983 _ (show o325777.toInt.toNat < 2000 by omega)).2.1
                                      refine Gp_aald 5 hm326980 he326981 dr_cX17_graph_259 rfl rfl (gB_in bo325777' (by decide) (by decide)) ?_
                                      rw [show f326982 o325777.toNatClampNeg = some q326984 from (hg326983 _ (show o325777.toInt.toNat < 2000 by omega)).1.trans (by rw [hx326986])]
                                      change G _ _ _ _ _ _ _ (.ref q326984 :: _) _ _ _
                                      refine G_iload 2 dr_cX17_graph_260 rfl ?_
                                      have hm326987 : q326984 ∈ P270216 := RS_m hT326962 ht326985 (by decide)
                                      obtain ⟨f326989, he326988, wf326989⟩ := show rk_36 I (F326961 q326984) from RS_o hT326962 ht326985
                                      refine Gw_callS (As := [.ref q326984, .int p325738]) (gV_ok D I) (cp_1873_SpillForgeModel_clear l hl0 D I P270216 F326961 q326984 p325738 f326989 hm326987 he326988 ⟨by omega, by omega⟩ wf326989) dr_cX17_graph_262 ⟨wr_10_185, wr_1_14, wr_10_187, by decide, rfl, (Nat.le_of_ble_eq_true rfl), (Nat.le_of_ble_eq_true rfl)⟩ wr_10_186 (show 0 + 0 ≤ 0 by first | omega | decide) (show 0 + 0 ≤ 0 by first | omega | decide) (Nat.le_of_ble_eq_true rfl) (fun r326993 w326994 dc326990 ds326991 hp326992 => ?_) (fun _ _ _ _ _ z => z.elim)
                                      obtain ⟨F326997, f326995, rfl, rfl, hfr326999, he327000, hdc, hds, x326996⟩ := hp326992
                                      have he327001 : F326997 q270219 = .inr (18, [.ref q323282, .ref q323283, .int p323284, .int p323285]) := (hfr326999 q270219 hm323280 (nm_c (rn_oa he326968 he326988) nm_n)).trans he326968
                                      have he327002 : F326997 q323282 = .inr (4, [.int p323913, .ref q323915, .int p323914]) := (hfr326999 q323282 hm323911 (nm_c (rn_oa he326969 he326988) nm_n)).trans he326969
                                      have he327003 : F326997 q323915 = .inl (I (.object "java/lang/Object"), n323929, .inr (.inr (.inr (.inr f323930)))) := (hfr326999 q323915 hm323931 (nm_c (rn_ref_long he326970 he326988) nm_n)).trans he326970
                                      have he327004 : F326997 q323932 = .inr (17, [.ref q323941, .ref q323942, .int p323943, .int p323944]) := (hfr326999 q323932 hm323939 (nm_c (rn_oa he326971 he326988) nm_n)).trans he326971
                                      have he327005 : F326997 q323941 = .inr (4, [.int p325704, .ref q325706, .int p325705]) := (hfr326999 q323941 hm325702 (nm_c (rn_oa he326972 he326988) nm_n)).trans he326972
                                      have he327006 : F326997 q325706 = .inl (I (.object "java/lang/Object"), n325720, .inr (.inr (.inr (.inr f325721)))) := (hfr326999 q325706 hm325722 (nm_c (rn_ref_long he326973 he326988) nm_n)).trans he326973
                                      have he327007 : F326997 q325723 = .inr (20, [.int p325736, .int p325737, .int p325738, .int p325739, .int p325740, .int p325741, .int p325742]) := (hfr326999 q325723 hm325734 (nm_c (rn_oa he326974 he326988) nm_n)).trans he326974
                                      have he327008 : F326997 q270218 = .inr (22, [.ref (γ 9 0), .ref (γ 9 1), .ref (γ 9 2), .ref (γ 9 3), .ref (γ 9 4), .ref (γ 9 5), .ref (γ 9 6), .ref (γ 9 7), .ref (γ 9 8), .int p270227, .int p270228, .int p270229, .int p270230, .int p270231, .int p270232, .ref (γ 9 15), .ref (γ 9 16), .ref (γ 9 17), .ref (γ 9 18), .ref (γ 9 19), .ref (γ 9 20), .ref (γ 9 21), .ref (γ 9 22), .int p270233, .int p270234, .int p270235, .int p270236, .int p270237, .ref q270225, .ref (γ 9 29), .int p270238, .ref (γ 9 31), .int p270239, .int p270240, .int p270241, .ref q270226]) := (hfr326999 q270218 hm326977 (nm_c (rn_oa he326976 he326988) nm_n)).trans he326976
                                      have he327009 : F326997 (γ 9 1) = .inl (I (.array .long), 2000, .inr (.inr (.inr (.inr f326982)))) := (hfr326999 (γ 9 1) hm326980 (nm_c (rn_ref_long he326981 he326988) nm_n)).trans he326981
                                      have hfr327010 : rFr [q326984] P270216 F326961 F326997 := rFr_call (rSub_rf (P := P270216)) (rFr_rf (W := []) (P := P270216) (F := F326961)) hfr326999 (fun b hb hn => ⟨nm_n, (nm_c (fun e => hn (e ▸ List.mem_cons_self)) nm_n)⟩)
                                      change G _ _ _ _ _ _ _ _ _ _ _
                                      refine G_widen (cs' := 0) (sl' := 0) (by omega) (by omega) ?_
                                      have hT327011 : RS D I P270216 F326997 γ el := RS_fr hT326962 hfr327010 ht326985 (by decide) ⟨f326995, he327000, x326996⟩
                                      have hs327012 : rStr γ [] F270217 F326997 := rStr_fr hT326962 hs326963 hfr327010 ht326985 (by decide)
                                      have kp327013 : F326997 q270218 = F270217 q270218 := (hfr327010 q270218 (RS_m hT326962 htq270218 (by decide)) (nm_c (rn_ty htq270218 ht326985 (by decide)) nm_n)).trans x326965
                                      have kp327014 : F326997 (γ 9 3) = F326961 (γ 9 3) := hfr327010 (γ 9 3) (RS_m hT326962 ht270247 (by decide)) (nm_c (rn_ty ht270247 ht326985 (by decide)) nm_n)
                                      refine G_aload_n 8 dr_cX17_graph_265 rfl ?_
                                      refine Gp_get 1 hm326977 he327008 dr_cX17_graph_266 (gk_X17 D I) (Nat.le_of_ble_eq_true rfl) wr_7_75 rfl ?_
                                      refine G_iload 3 dr_cX17_graph_269 rfl ?_
                                      obtain ⟨q327015, hx327017⟩ : ∃ x, x = γ 11 o325777.toInt.toNat := ⟨_, rfl⟩
                                      have ht327016 : rKd γ q327015 36 := by rw [hx327017]; exact (hg326983 _ (show o325777.toInt.toNat < 2000 by omega)).2.1
                                      refine Gp_aald 5 hm326980 he327009 dr_cX17_graph_271 rfl rfl (gB_in bo325777' (by decide) (by decide)) ?_
                                      rw [show f326982 o325777.toNatClampNeg = some q327015 from (hg326983 _ (show o325777.toInt.toNat < 2000 by omega)).1.trans (by rw [hx327017])]
                                      change G _ _ _ _ _ _ _ (.ref q327015 :: _) _ _ _
                                      refine G_iload 3 dr_cX17_graph_272 rfl ?_
                                      have hm327018 : q327015 ∈ P270216 := RS_m hT327011 ht327016 (by decide)
                                      obtain ⟨f327020, he327019, wf327020⟩ := show rk_36 I (F326997 q327015) from RS_o hT327011 ht327016
                                      refine Gw_callS (As := [.ref q327015, .int o325777]) (gV_ok D I) (cp_1873_SpillForgeModel_clear l hl0 D I P270216 F326997 q327015 o325777 f327020 hm327018 he327019 bo325777' wf327020) dr_cX17_graph_274 ⟨wr_10_185, wr_1_14, wr_10_187, by decide, rfl, (Nat.le_of_ble_eq_true rfl), (Nat.le_of_ble_eq_true rfl)⟩ wr_10_186 (show 0 + 0 ≤ 0 by first | omega | decide) (show 0 + 0 ≤ 0 by first | omega | decide) (Nat.le_of_ble_eq_true rfl) (fun r327024 w327025 dc327021 ds327022 hp327023 => ?_) (fun _ _ _ _ _ z => z.elim)
                                      obtain ⟨F327028, f327026, rfl, rfl, hfr327030, he327031, hdc, hds, x327027⟩ := hp327023
                                      have he327032 : F327028 q270219 = .inr (18, [.ref q323282, .ref q323283, .int p323284, .int p323285]) := (hfr327030 q270219 hm323280 (nm_c (rn_oa he327001 he327019) nm_n)).trans he327001
                                      have he327033 : F327028 q323282 = .inr (4, [.int p323913, .ref q323915, .int p323914]) := (hfr327030 q323282 hm323911 (nm_c (rn_oa he327002 he327019) nm_n)).trans he327002
                                      have he327034 : F327028 q323915 = .inl (I (.object "java/lang/Object"), n323929, .inr (.inr (.inr (.inr f323930)))) := (hfr327030 q323915 hm323931 (nm_c (rn_ref_long he327003 he327019) nm_n)).trans he327003
                                      have he327035 : F327028 q323932 = .inr (17, [.ref q323941, .ref q323942, .int p323943, .int p323944]) := (hfr327030 q323932 hm323939 (nm_c (rn_oa he327004 he327019) nm_n)).trans he327004
                                      have he327036 : F327028 q323941 = .inr (4, [.int p325704, .ref q325706, .int p325705]) := (hfr327030 q323941 hm325702 (nm_c (rn_oa he327005 he327019) nm_n)).trans he327005
                                      have he327037 : F327028 q325706 = .inl (I (.object "java/lang/Object"), n325720, .inr (.inr (.inr (.inr f325721)))) := (hfr327030 q325706 hm325722 (nm_c (rn_ref_long he327006 he327019) nm_n)).trans he327006
                                      have he327038 : F327028 q325723 = .inr (20, [.int p325736, .int p325737, .int p325738, .int p325739, .int p325740, .int p325741, .int p325742]) := (hfr327030 q325723 hm325734 (nm_c (rn_oa he327007 he327019) nm_n)).trans he327007
                                      have he327039 : F327028 q270218 = .inr (22, [.ref (γ 9 0), .ref (γ 9 1), .ref (γ 9 2), .ref (γ 9 3), .ref (γ 9 4), .ref (γ 9 5), .ref (γ 9 6), .ref (γ 9 7), .ref (γ 9 8), .int p270227, .int p270228, .int p270229, .int p270230, .int p270231, .int p270232, .ref (γ 9 15), .ref (γ 9 16), .ref (γ 9 17), .ref (γ 9 18), .ref (γ 9 19), .ref (γ 9 20), .ref (γ 9 21), .ref (γ 9 22), .int p270233, .int p270234, .int p270235, .int p270236, .int p270237, .ref q270225, .ref (γ 9 29), .int p270238, .ref (γ 9 31), .int p270239, .int p270240, .int p270241, .ref q270226]) := (hfr327030 q270218 hm326977 (nm_c (rn_oa he327008 he327019) nm_n)).trans he327008
                                      have he327040 : F327028 (γ 9 1) = .inl (I (.array .long), 2000, .inr (.inr (.inr (.inr f326982)))) := (hfr327030 (γ 9 1) hm326980 (nm_c (rn_ref_long he327009 he327019) nm_n)).trans he327009
                                      have hfr327041 : rFr [q327015] P270216 F326997 F327028 := rFr_call (rSub_rf (P := P270216)) (rFr_rf (W := []) (P := P270216) (F := F326997)) hfr327030 (fun b hb hn => ⟨nm_n, (nm_c (fun e => hn (e ▸ List.mem_cons_self)) nm_n)⟩)
                                      change G _ _ _ _ _ _ _ _ _ _ _
                                      refine G_widen (cs' := 0) (sl' := 0) (by omega) (by omega) ?_
                                      have hT327042 : RS D I P270216 F327028 γ el := RS_fr hT327011 hfr327041 ht327016 (by decide) ⟨f327026, he327031, x327027⟩
                                      have hs327043 : rStr γ [] F270217 F327028 := rStr_fr hT327011 hs327012 hfr327041 ht327016 (by decide)
                                      have kp327044 : F327028 q270218 = F270217 q270218 := (hfr327041 q270218 (RS_m hT327011 htq270218 (by decide)) (nm_c (rn_ty htq270218 ht327016 (by decide)) nm_n)).trans kp327013
                                      have kp327045 : F327028 (γ 9 3) = F326961 (γ 9 3) := (hfr327041 (γ 9 3) (RS_m hT327011 ht270247 (by decide)) (nm_c (rn_ty ht270247 ht327016 (by decide)) nm_n)).trans kp327014
                                      refine G_aload_n 8 dr_cX17_graph_277 rfl ?_
                                      refine G_aload 4 dr_cX17_graph_278 rfl ?_
                                      refine G_iload_n 10 dr_cX17_graph_280 rfl ?_
                                      refine Gw_callV (As := [.ref q325723, .int p270220]) (gV_ok D I) (ct_276931_SpillForgeModel_back l hl0 D I γ el P270216 F327028 q270218 q325723 p270220 hT327042 htq270218 ht325726 (gB_w bp270220' (by decide) (by decide))) dr_cX17_graph_281 ⟨wr_10_174, wr_1_14, wr_10_177, by decide, rfl, (Nat.le_of_ble_eq_true rfl), (Nat.le_of_ble_eq_true rfl)⟩ wr_10_176 wr_p_96 hm326977 he327039 rfl (show 0 + 0 ≤ 0 by first | omega | decide) (show 0 + 0 ≤ 0 by first | omega | decide) (Nat.le_of_ble_eq_true rfl) (fun r327049 w327050 dc327046 ds327047 hp327048 => ?_) (fun _ _ _ _ _ z => z.elim)
                                      obtain ⟨F327053, rfl, rfl, hT327054, hs327055, hdc, hds, x327051, x327052⟩ := hp327048
                                      have he327056 : F327053 q270219 = .inr (18, [.ref q323282, .ref q323283, .int p323284, .int p323285]) := (hs327055 q270219 (rT0 htq270219 (by decide)) (rT1 htq270219 (by decide)) (rT2 htq270219 (by decide))).trans he327032
                                      have he327057 : F327053 q323282 = .inr (4, [.int p323913, .ref q323915, .int p323914]) := (hs327055 q323282 (rT0 ht323286 (by decide)) (rT1 ht323286 (by decide)) (rT2 ht323286 (by decide))).trans he327033
                                      have he327058 : F327053 q323915 = .inl (I (.object "java/lang/Object"), n323929, .inr (.inr (.inr (.inr f323930)))) := (hs327055 q323915 (rT0 r323921 (by decide)) (rT1 r323921 (by decide)) (rT2 r323921 (by decide))).trans he327034
                                      have he327059 : F327053 q323932 = .inr (17, [.ref q323941, .ref q323942, .int p323943, .int p323944]) := (hs327055 q323932 (rT0 ht323937 (by decide)) (rT1 ht323937 (by decide)) (rT2 ht323937 (by decide))).trans he327035
                                      have he327060 : F327053 q323941 = .inr (4, [.int p325704, .ref q325706, .int p325705]) := (hs327055 q323941 (rT0 ht323945 (by decide)) (rT1 ht323945 (by decide)) (rT2 ht323945 (by decide))).trans he327036
                                      have he327061 : F327053 q325706 = .inl (I (.object "java/lang/Object"), n325720, .inr (.inr (.inr (.inr f325721)))) := (hs327055 q325706 (rT0 r325712 (by decide)) (rT1 r325712 (by decide)) (rT2 r325712 (by decide))).trans he327037
                                      have he327062 : F327053 q325723 = .inr (20, [.int p325736, .int p325737, .int p325738, .int p325739, .int p325740, .int p325741, .int p325742]) := (hs327055 q325723 (rT0 ht325726 (by decide)) (rT1 ht325726 (by decide)) (rT2 ht325726 (by decide))).trans he327038
                                      have hs327063 : rStr γ [] F270217 F327053 := rStr_tr hs327043 hs327055
                                      have kp327064 : F327053 q270218 = F270217 q270218 := (x327051).trans kp327044
                                      have kp327065 : F327053 (γ 9 3) = F326961 (γ 9 3) := (x327052).trans kp327045
                                      have he327066 : F327053 q270218 = .inr (22, [.ref (γ 9 0), .ref (γ 9 1), .ref (γ 9 2), .ref (γ 9 3), .ref (γ 9 4), .ref (γ 9 5), .ref (γ 9 6), .ref (γ 9 7), .ref (γ 9 8), .int p270227, .int p270228, .int p270229, .int p270230, .int p270231, .int p270232, .ref (γ 9 15), .ref (γ 9 16), .ref (γ 9 17), .ref (γ 9 18), .ref (γ 9 19), .ref (γ 9 20), .ref (γ 9 21), .ref (γ 9 22), .int p270233, .int p270234, .int p270235, .int p270236, .int p270237, .ref q270225, .ref (γ 9 29), .int p270238, .ref (γ 9 31), .int p270239, .int p270240, .int p270241, .ref q270226]) := (x327051).trans he327039
                                      change G _ _ _ _ _ _ _ _ _ _ _
                                      refine G_widen (cs' := 0) (sl' := 0) (by omega) (by omega) ?_
                                      obtain ⟨z327067, hz327067⟩ : ∃ z : Int32, z = g325680 + Int32.ofInt (-1) := ⟨_, rfl⟩
                                      have ez327067 : z327067.toInt = g325680.toInt + (-1) := gI_inc hz327067 (by decide) bg325680' (by decide) (by decide)
                                      have bz327067 : gB z327067 (-1) 999998 := ⟨by omega, by omega⟩
                                      refine G_iinc (L' := [(5, .int z327067), (10, .int g326960), (9, .int 0), (8, .int p325738), (7, .int o325777), (6, .ref q325723), (4, .ref q323932), (3, .int g323269), (0, .ref q270218), (1, .ref q270219), (2, .int p270220)]) z327067 5 dr_cX17_graph_284 rfl hz327067.symm (Nat.le_of_ble_eq_true rfl) rfl ?_
                                      refine G_goto 109 dr_cX17_graph_287 (by decide +kernel) ?_
                                      refine G_lv (L' := [(5, .int z327067), (4, .ref q323932), (3, .int g323269), (0, .ref q270218), (1, .ref q270219), (2, .int p270220)]) [0, 6, 7, 8, 9, 10] rfl ?_
                                      exact ih109_325686 F327053 z327067 (gB_w bz327067 (by decide) (by decide)) hT327054 hs327063 (by omega) (fun h0 => by have z := x326964 h0; rw [← kp327065] at z; rw [show ((g325680.toInt : Int).toNat : Nat) = (z327067.toInt + 1 : Int).toNat by omega] at z; exact z) kp327064 (mz_dn ez327067 (Int.le_trans (by decide) bg325680'.1) hm109_325686)
                                    · have r327068 : g326960.toInt < 32 := gj_nleL hc326978 (show Int32.toInt 32 = 32 by decide)
                                      have bg326960' : gB g326960 0 31 := ⟨by omega, by omega⟩
                                      refine G_aload_n 8 dr_cX17_graph_217 rfl ?_
                                      refine Gp_get 1 hm326977 he326976 dr_cX17_graph_218 (gk_X17 D I) (Nat.le_of_ble_eq_true rfl) wr_7_75 rfl ?_
                                      refine G_iload 3 dr_cX17_graph_221 rfl ?_
                                      have hm327069 : (γ 9 1) ∈ P270216 := RS_m hT326962 ht270245 (by decide)
                                      obtain ⟨f327071, he327070, hg327072⟩ := show rk_13 I γ (F326961 (γ 9 1)) from RS_o hT326962 ht270245
                                      obtain ⟨q327073, hx327075⟩ : ∃ x, x = γ 11 o325777.toInt.toNat := ⟨_, rfl⟩
                                      have ht327074 : rKd γ q327073 36 := by rw [hx327075]; exact (hg327072 _ (show o325777.toInt.toNat < 2000 by omega)).2.1
                                      refine Gp_aald 5 hm327069 he327070 dr_cX17_graph_223 rfl rfl (gB_in bo325777' (by decide) (by decide)) ?_
                                      rw [show f327071 o325777.toNatClampNeg = some q327073 from (hg327072 _ (show o325777.toInt.toNat < 2000 by omega)).1.trans (by rw [hx327075])]
                                      change G _ _ _ _ _ _ _ (.ref q327073 :: _) _ _ _
                                      refine G_iload 0 dr_cX17_graph_224 rfl ?_
                                      refine G_dup2_11 dr_cX17_graph_226 rfl rfl ?_
                                      have hm327076 : q327073 ∈ P270216 := RS_m hT326962 ht327074 (by decide)
                                      obtain ⟨f327078, he327077, wf327078⟩ := show rk_36 I (F326961 q327073) from RS_o hT326962 ht327074
                                      refine Gp_lald 2 hm327076 he327077 dr_cX17_graph_227 rfl (gB_in bg326960' (by decide) (by decide)) (G_namL fun u327079 hu327079 => ?_)
                                      have qu327079 : lb_Q u327079 (2000 - 64 * g326960.toInt) := lb_Wld hu327079 wf327078 (by omega) (by omega) (lb_Mod0 (by omega) (by omega))
                                      refine G_aload_n 8 dr_cX17_graph_228 rfl ?_
                                      refine Gp_get 2 hm326977 he326976 dr_cX17_graph_229 (gk_X17 D I) (Nat.le_of_ble_eq_true rfl) wr_7_76 rfl ?_
                                      refine G_iload 0 dr_cX17_graph_232 rfl ?_
                                      have hm327080 : (γ 9 2) ∈ P270216 := RS_m hT326962 ht270246 (by decide)
                                      obtain ⟨f327082, he327081, wf327082⟩ := show rk_35 I (F326961 (γ 9 2)) from RS_o hT326962 ht270246
                                      refine Gp_lald 2 hm327080 he327081 dr_cX17_graph_234 rfl (gB_in bg326960' (by decide) (by decide)) (G_namL fun u327083 hu327083 => ?_)
                                      have qu327083 : lb_Q u327083 (2000 - 64 * g326960.toInt) := lb_Wld hu327083 wf327082 (by omega) (by omega) (lb_Mod0 (by omega) (by omega))
                                      refine G_lor dr_cX17_graph_235 (G_namL fun u327084 hu327084 => ?_)
                                      have qu327084 : lb_Q u327084 (2000 - 64 * g326960.toInt) := lb_Qor hu327084 qu327079 qu327083
                                      refine Gp_last 2 hm327076 he327077 dr_cX17_graph_236 rfl (gB_in bg326960' (by decide) (by decide)) (fun F327085 e327086 n327087 => ?_)
                                      obtain ⟨f327088, hf327088⟩ : ∃ z, z = vp_updL f327078 g326960.toNatClampNeg u327084 := ⟨_, rfl⟩
                                      rw [← hf327088] at e327086
                                      have he327089 : F327085 q270219 = .inr (18, [.ref q323282, .ref q323283, .int p323284, .int p323285]) := (n327087 q270219 (rn_oa he326968 he327077)).trans he326968
                                      have he327090 : F327085 q323282 = .inr (4, [.int p323913, .ref q323915, .int p323914]) := (n327087 q323282 (rn_oa he326969 he327077)).trans he326969
                                      have he327091 : F327085 q323915 = .inl (I (.object "java/lang/Object"), n323929, .inr (.inr (.inr (.inr f323930)))) := (n327087 q323915 (rn_ref_long he326970 he327077)).trans he326970
                                      have he327092 : F327085 q323932 = .inr (17, [.ref q323941, .ref q323942, .int p323943, .int p323944]) := (n327087 q323932 (rn_oa he326971 he327077)).trans he326971
                                      have he327093 : F327085 q323941 = .inr (4, [.int p325704, .ref q325706, .int p325705]) := (n327087 q323941 (rn_oa he326972 he327077)).trans he326972
                                      have he327094 : F327085 q325706 = .inl (I (.object "java/lang/Object"), n325720, .inr (.inr (.inr (.inr f325721)))) := (n327087 q325706 (rn_ref_long he326973 he327077)).trans he326973
                                      have he327095 : F327085 q325723 = .inr (20, [.int p325736, .int p325737, .int p325738, .int p325739, .int p325740, .int p325741, .int p325742]) := (n327087 q325723 (rn_oa he326974 he327077)).trans he326974
                                      have he327096 : F327085 q270218 = .inr (22, [.ref (γ 9 0), .ref (γ 9 1), .ref (γ 9 2), .ref (γ 9 3), .ref (γ 9 4), .ref (γ 9 5), .ref (γ 9 6), .ref (γ 9 7), .ref (γ 9 8), .int p270227, .int p270228, .int p270229, .int p270230, .int p270231, .int p270232, .ref (γ 9 15), .ref (γ 9 16), .ref (γ 9 17), .ref (γ 9 18), .ref (γ 9 19), .ref (γ 9 20), .ref (γ 9 21), .ref (γ 9 22), .int p270233, .int p270234, .int p270235, .int p270236, .int p270237, .ref q270225, .ref (γ 9 29), .int p270238, .ref (γ 9 31), .int p270239, .int p270240, .int p270241, .ref q270226]) := (n327087 q270218 (rn_oa he326976 he327077)).trans he326976
                                      have he327097 : F327085 (γ 9 1) = .inl (I (.array .long), 2000, .inr (.inr (.inr (.inr f327071)))) := (n327087 (γ 9 1) (rn_ref_long he327070 he327077)).trans he327070
                                      have he327098 : F327085 (γ 9 2) = .inl (I .long, 32, .inr (.inl f327082)) := (n327087 (γ 9 2) (rn_ty ht270246 ht327074 (by decide))).trans he327081
                                      have he327099 : F327085 q327073 = .inl (I .long, 32, .inr (.inl f327088)) := e327086
                                      have hs327100 : rStr γ [] F270217 F327085 := rStr_put hs326963 n327087 ht327074 (by decide)
                                      have kp327101 : F327085 q270218 = F270217 q270218 := (n327087 q270218 (rn_ty htq270218 ht327074 (by decide))).trans x326965
                                      have kp327102 : F327085 (γ 9 3) = F326961 (γ 9 3) := n327087 (γ 9 3) (rn_ty ht270247 ht327074 (by decide))
                                      have wf327088 : lb_W f327088 (32) (32) (2000) := lb_Wst hf327088 wf327078 (by omega) (lb_Mod0 (by omega) (by omega)) qu327084
                                      obtain ⟨z327103, hz327103⟩ : ∃ z : Int32, z = g326960 + Int32.ofInt 1 := ⟨_, rfl⟩
                                      have ez327103 : z327103.toInt = g326960.toInt + 1 := gI_inc hz327103 (by decide) bg326960' (by decide) (by decide)
                                      have bz327103 : gB z327103 1 32 := ⟨by omega, by omega⟩
                                      refine G_iinc (L' := [(10, .int z327103), (9, .int 0), (8, .int p325738), (7, .int o325777), (6, .ref q325723), (5, .int g325680), (4, .ref q323932), (3, .int g323269), (0, .ref q270218), (1, .ref q270219), (2, .int p270220)]) z327103 0 dr_cX17_graph_237 rfl hz327103.symm (Nat.le_of_ble_eq_true rfl) rfl ?_
                                      refine G_goto 210 dr_cX17_graph_240 (by decide +kernel) ?_
                                      have hT327104 : RS D I P270216 F327085 γ el := RS_set hT326962 n327087 ht327074 (by decide) ⟨f327088, he327099, wf327088⟩
                                      exact ih210_326965 F327085 z327103 (gB_w bz327103 (by decide) (by decide)) hT327104 hs327100 (by rw [kp327102]; exact x326964) kp327101 (mz_up ez327103 (Int.le_trans bg326960'.2 (by decide)) hm210_326965)
                                exact hlp210_326965 (((33 : Int) - 0).toNat + 1) F325755 0 (gB_w (gBl (show Int32.toInt 0 = 0 by decide)) (by decide) (by decide)) hT325756 hs325765 gr325771 kp325766 (Nat.lt_succ_self _)
                              · change G _ _ _ _ _ _ _ (.int 1 :: _) _ _ _
                                refine G_widen (cs' := 0) (sl' := 0) (by omega) (by omega) ?_
                                refine G_if_eq 204 dr_cX17_graph_197 (by decide +kernel) (fun hc => absurd hc (by decide)) (fun _ => ?_)
                                refine G_iconst 1 dr_cX17_graph_200 (by decide +kernel) ?_
                                refine G_goto 205 dr_cX17_graph_201 (by decide +kernel) ?_
                                refine G_istore (L' := [(9, .int 1), (8, .int p325738), (7, .int o325777), (6, .ref q325723), (5, .int g325680), (4, .ref q323932), (3, .int g323269), (0, .ref q270218), (1, .ref q270219), (2, .int p270220)]) dr_cX17_graph_205 (Nat.le_of_ble_eq_true rfl) rfl ?_
                                refine G_iconst 0 dr_cX17_graph_207 (by decide +kernel) ?_
                                refine G_istore (L' := [(10, .int 0), (9, .int 1), (8, .int p325738), (7, .int o325777), (6, .ref q325723), (5, .int g325680), (4, .ref q323932), (3, .int g323269), (0, .ref q270218), (1, .ref q270219), (2, .int p270220)]) dr_cX17_graph_208 (Nat.le_of_ble_eq_true rfl) rfl ?_
                                have hlp210_327221 : ∀ (n210_327221 : Nat) (F327217 : Nat → va_E) (g327216 : Int32), gB g327216 0 32 → RS D I P270216 F327217 γ el → rStr γ [] F270217 F327217 → (gIp (p270220.toInt = 0) (rGr γ el F270217 q270219 (γ 6 (γ 1 q270219)) (cB (F327217 (γ 9 3))) (vB (g323269.toInt : Int).toNat (g325680.toInt : Int).toNat))) → (F327217 q270218 = F270217 q270218) → ((33 : Int) - g327216.toInt).toNat < n210_327221 → G (gV D I) l (gRm 5 111 0 0) (gMA (gV D I) (pt_270222_SpillForgeModel_graph D I γ el P270216 F270217 q270218 q270219 p270220) gNA 0 0) ky_270222_SpillForgeModel_graph 210 [(10, .int g327216), (9, .int 1), (8, .int p325738), (7, .int o325777), (6, .ref q325723), (5, .int g325680), (4, .ref q323932), (3, .int g323269), (0, .ref q270218), (1, .ref q270219), (2, .int p270220)] [] (va_pl P270216 F327217) 0 0 := by
                                  intro n210_327221
                                  induction n210_327221 with
                                  | zero => intro F327217 g327216 bg327216 hT327218 hs327219 x327220 x327221 hm210_327221; exact absurd hm210_327221 (Nat.not_lt_zero _)
                                  | succ n210_327221 ih210_327221 =>
                                    intro F327217 g327216 bg327216 hT327218 hs327219 x327220 x327221 hm210_327221
                                    have hs327223 : rStr γ [] F325755 F327217 := fun b h0 hb hw => (hs327219 b h0 hb hw).trans (hs325765 b h0 hb hw).symm
                                    have he327224 : F327217 q270219 = .inr (18, [.ref q323282, .ref q323283, .int p323284, .int p323285]) := (hs327223 q270219 (rT0 htq270219 (by decide)) (rT1 htq270219 (by decide)) (rT2 htq270219 (by decide))).trans he325758
                                    have he327225 : F327217 q323282 = .inr (4, [.int p323913, .ref q323915, .int p323914]) := (hs327223 q323282 (rT0 ht323286 (by decide)) (rT1 ht323286 (by decide)) (rT2 ht323286 (by decide))).trans he325759
                                    have he327226 : F327217 q323915 = .inl (I (.object "java/lang/Object"), n323929, .inr (.inr (.inr (.inr f323930)))) := (hs327223 q323915 (rT0 r323921 (by decide)) (rT1 r323921 (by decide)) (rT2 r323921 (by decide))).trans he325760
                                    have he327227 : F327217 q323932 = .inr (17, [.ref q323941, .ref q323942, .int p323943, .int p323944]) := (hs327223 q323932 (rT0 ht323937 (by decide)) (rT1 ht323937 (by decide)) (rT2 ht323937 (by decide))).trans he325761
                                    have he327228 : F327217 q323941 = .inr (4, [.int p325704, .ref q325706, .int p325705]) := (hs327223 q323941 (rT0 ht323945 (by decide)) (rT1 ht323945 (by decide)) (rT2 ht323945 (by decide))).trans he325762
                                    have he327229 : F327217 q325706 = .inl (I (.object "java/lang/Object"), n325720, .inr (.inr (.inr (.inr f325721)))) := (hs327223 q325706 (rT0 r325712 (by decide)) (rT1 r325712 (by decide)) (rT2 r325712 (by decide))).trans he325763
                                    have he327230 : F327217 q325723 = .inr (20, [.int p325736, .int p325737, .int p325738, .int p325739, .int p325740, .int p325741, .int p325742]) := (hs327223 q325723 (rT0 ht325726 (by decide)) (rT1 ht325726 (by decide)) (rT2 ht325726 (by decide))).trans he325764
                                    have hs327231 : rStr γ [] F270217 F327217 := rStr_tr hs325765 hs327223
                                    have he327232 : F327217 q270218 = .inr (22, [.ref (γ 9 0), .ref (γ 9 1), .ref (γ 9 2), .ref (γ 9 3), .ref (γ 9 4), .ref (γ 9 5), .ref (γ 9 6), .ref (γ 9 7), .ref (γ 9 8), .int p270227, .int p270228, .int p270229, .int p270230, .int p270231, .int p270232, .ref (γ 9 15), .ref (γ 9 16), .ref (γ 9 17), .ref (γ 9 18), .ref (γ 9 19), .ref (γ 9 20), .ref (γ 9 21), .ref (γ 9 22), .int p270233, .int p270234, .int p270235, .int p270236, .int p270237, .ref q270225, .ref (γ 9 29), .int p270238, .ref (γ 9 31), .int p270239, .int p270240, .int p270241, .ref q270226]) := x327221.trans he270224
                                    have hm327233 : q270218 ∈ P270216 := RS_m hT327218 htq270218 (by decide)
                                    refine G_iload 0 dr_cX17_graph_210 rfl ?_
                                    refine G_bipush 32 dr_cX17_graph_212 (by decide +kernel) ?_
                                    refine G_icmp_ge 243 dr_cX17_graph_214 (by decide +kernel) (fun hc327234 => ?_) (fun hc327234 => ?_)
                                    · have r327235 : 32 ≤ g327216.toInt := gj_leL hc327234 (show Int32.toInt 32 = 32 by decide)
                                      have bg327216' : gB g327216 32 32 := ⟨by omega, by omega⟩
                                      refine G_iload 2 dr_cX17_graph_243 rfl ?_
                                      refine G_if_lt 265 dr_cX17_graph_245 (by decide +kernel) (fun hc => absurd (show False by have := gj_lt hc (show Int32.toInt 0 = 0 by decide); omega) not_false) (fun _ => ?_)
                                      refine G_iload 1 dr_cX17_graph_248 rfl ?_
                                      refine G_if_ne 265 dr_cX17_graph_250 (by decide +kernel) (fun _ => ?_) (fun hc => absurd hc (by decide))
                                      refine G_aload_n 8 dr_cX17_graph_265 rfl ?_
                                      refine Gp_get 1 hm327233 he327232 dr_cX17_graph_266 (gk_X17 D I) (Nat.le_of_ble_eq_true rfl) wr_7_75 rfl ?_
                                      refine G_iload 3 dr_cX17_graph_269 rfl ?_
                                      have hm327236 : (γ 9 1) ∈ P270216 := RS_m hT327218 ht270245 (by decide)
                                      obtain ⟨f327238, he327237, hg327239⟩ := show rk_13 I γ (F327217 (γ 9 1)) from RS_o hT327218 ht270245
                                      obtain ⟨q327240, hx327242⟩ : ∃ x, x = γ 11 o325777.toInt.toNat := ⟨_, rfl⟩
                                      have ht327241 : rKd γ q327240 36 := by rw [hx327242]; exact (hg327239 _ (show o325777.toInt.toNat < 2000 by omega)).2.1
                                      refine Gp_aald 5 hm327236 he327237 dr_cX17_graph_271 rfl rfl (gB_in bo325777' (by decide) (by decide)) ?_
                                      rw [show f327238 o325777.toNatClampNeg = some q327240 from (hg327239 _ (show o325777.toInt.toNat < 2000 by omega)).1.trans (by rw [hx327242])]
                                      change G _ _ _ _ _ _ _ (.ref q327240 :: _) _ _ _
                                      refine G_iload 3 dr_cX17_graph_272 rfl ?_
                                      have hm327243 : q327240 ∈ P270216 := RS_m hT327218 ht327241 (by decide)
                                      obtain ⟨f327245, he327244, wf327245⟩ := show rk_36 I (F327217 q327240) from RS_o hT327218 ht327241
                                      refine Gw_callS (As := [.ref q327240, .int o325777]) (gV_ok D I) (cp_1873_SpillForgeModel_clear l hl0 D I P270216 F327217 q327240 o325777 f327245 hm327243 he327244 bo325777' wf327245) dr_cX17_graph_274 ⟨wr_10_185, wr_1_14, wr_10_187, by decide, rfl, (Nat.le_of_ble_eq_true rfl), (Nat.le_of_ble_eq_true rfl)⟩ wr_10_186 (show 0 + 0 ≤ 0 by first | omega | decide) (show 0 + 0 ≤ 0 by first | omega | decide) (Nat.le_of_ble_eq_true rfl) (fun r327249 w327250 dc327246 ds327247 hp327248 => ?_) (fun _ _ _ _ _ z => z.elim)
                                      obtain ⟨F327253, f327251, rfl, rfl, hfr327255, he327256, hdc, hds, x327252⟩ := hp327248
                                      have he327257 : F327253 q270219 = .inr (18, [.ref q323282, .ref q323283, .int p323284, .int p323285]) := (hfr327255 q270219 hm323280 (nm_c (rn_oa he327224 he327244) nm_n)).trans he327224
                                      have he327258 : F327253 q323282 = .inr (4, [.int p323913, .ref q323915, .int p323914]) := (hfr327255 q323282 hm323911 (nm_c (rn_oa he327225 he327244) nm_n)).trans he327225
                                      have he327259 : F327253 q323915 = .inl (I (.object "java/lang/Object"), n323929, .inr (.inr (.inr (.inr f323930)))) := (hfr327255 q323915 hm323931 (nm_c (rn_ref_long he327226 he327244) nm_n)).trans he327226
                                      have he327260 : F327253 q323932 = .inr (17, [.ref q323941, .ref q323942, .int p323943, .int p323944]) := (hfr327255 q323932 hm323939 (nm_c (rn_oa he327227 he327244) nm_n)).trans he327227
                                      have he327261 : F327253 q323941 = .inr (4, [.int p325704, .ref q325706, .int p325705]) := (hfr327255 q323941 hm325702 (nm_c (rn_oa he327228 he327244) nm_n)).trans he327228
                                      have he327262 : F327253 q325706 = .inl (I (.object "java/lang/Object"), n325720, .inr (.inr (.inr (.inr f325721)))) := (hfr327255 q325706 hm325722 (nm_c (rn_ref_long he327229 he327244) nm_n)).trans he327229
                                      have he327263 : F327253 q325723 = .inr (20, [.int p325736, .int p325737, .int p325738, .int p325739, .int p325740, .int p325741, .int p325742]) := (hfr327255 q325723 hm325734 (nm_c (rn_oa he327230 he327244) nm_n)).trans he327230
                                      have he327264 : F327253 q270218 = .inr (22, [.ref (γ 9 0), .ref (γ 9 1), .ref (γ 9 2), .ref (γ 9 3), .ref (γ 9 4), .ref (γ 9 5), .ref (γ 9 6), .ref (γ 9 7), .ref (γ 9 8), .int p270227, .int p270228, .int p270229, .int p270230, .int p270231, .int p270232, .ref (γ 9 15), .ref (γ 9 16), .ref (γ 9 17), .ref (γ 9 18), .ref (γ 9 19), .ref (γ 9 20), .ref (γ 9 21), .ref (γ 9 22), .int p270233, .int p270234, .int p270235, .int p270236, .int p270237, .ref q270225, .ref (γ 9 29), .int p270238, .ref (γ 9 31), .int p270239, .int p270240, .int p270241, .ref q270226]) := (hfr327255 q270218 hm327233 (nm_c (rn_oa he327232 he327244) nm_n)).trans he327232
                                      have he327265 : F327253 (γ 9 1) = .inl (I (.array .long), 2000, .inr (.inr (.inr (.inr f327238)))) := (hfr327255 (γ 9 1) hm327236 (nm_c (rn_ref_long he327237 he327244) nm_n)).trans he327237
                                      have hfr327266 : rFr [q327240] P270216 F327217 F327253 := rFr_call (rSub_rf (P := P270216)) (rFr_rf (W := []) (P := P270216) (F := F327217)) hfr327255 (fun b hb hn => ⟨nm_n, (nm_c (fun e => hn (e ▸ List.mem_cons_self)) nm_n)⟩)
                                      change G _ _ _ _ _ _ _ _ _ _ _
                                      refine G_widen (cs' := 0) (sl' := 0) (by omega) (by omega) ?_
                                      have hT327267 : RS D I P270216 F327253 γ el := RS_fr hT327218 hfr327266 ht327241 (by decide) ⟨f327251, he327256, x327252⟩
                                      have hs327268 : rStr γ [] F270217 F327253 := rStr_fr hT327218 hs327219 hfr327266 ht327241 (by decide)
                                      have kp327269 : F327253 q270218 = F270217 q270218 := (hfr327266 q270218 (RS_m hT327218 htq270218 (by decide)) (nm_c (rn_ty htq270218 ht327241 (by decide)) nm_n)).trans x327221
                                      have kp327270 : F327253 (γ 9 3) = F327217 (γ 9 3) := hfr327266 (γ 9 3) (RS_m hT327218 ht270247 (by decide)) (nm_c (rn_ty ht270247 ht327241 (by decide)) nm_n)
                                      refine G_aload_n 8 dr_cX17_graph_277 rfl ?_
                                      refine G_aload 4 dr_cX17_graph_278 rfl ?_
                                      refine G_iload_n 10 dr_cX17_graph_280 rfl ?_
                                      refine Gw_callV (As := [.ref q325723, .int p270220]) (gV_ok D I) (ct_276931_SpillForgeModel_back l hl0 D I γ el P270216 F327253 q270218 q325723 p270220 hT327267 htq270218 ht325726 (gB_w bp270220' (by decide) (by decide))) dr_cX17_graph_281 ⟨wr_10_174, wr_1_14, wr_10_177, by decide, rfl, (Nat.le_of_ble_eq_true rfl), (Nat.le_of_ble_eq_true rfl)⟩ wr_10_176 wr_p_96 hm327233 he327264 rfl (show 0 + 0 ≤ 0 by first | omega | decide) (show 0 + 0 ≤ 0 by first | omega | decide) (Nat.le_of_ble_eq_true rfl) (fun r327274 w327275 dc327271 ds327272 hp327273 => ?_) (fun _ _ _ _ _ z => z.elim)
                                      obtain ⟨F327278, rfl, rfl, hT327279, hs327280, hdc, hds, x327276, x327277⟩ := hp327273
                                      have he327281 : F327278 q270219 = .inr (18, [.ref q323282, .ref q323283, .int p323284, .int p323285]) := (hs327280 q270219 (rT0 htq270219 (by decide)) (rT1 htq270219 (by decide)) (rT2 htq270219 (by decide))).trans he327257
                                      have he327282 : F327278 q323282 = .inr (4, [.int p323913, .ref q323915, .int p323914]) := (hs327280 q323282 (rT0 ht323286 (by decide)) (rT1 ht323286 (by decide)) (rT2 ht323286 (by decide))).trans he327258
                                      have he327283 : F327278 q323915 = .inl (I (.object "java/lang/Object"), n323929, .inr (.inr (.inr (.inr f323930)))) := (hs327280 q323915 (rT0 r323921 (by decide)) (rT1 r323921 (by decide)) (rT2 r323921 (by decide))).trans he327259
                                      have he327284 : F327278 q323932 = .inr (17, [.ref q323941, .ref q323942, .int p323943, .int p323944]) := (hs327280 q323932 (rT0 ht323937 (by decide)) (rT1 ht323937 (by decide)) (rT2 ht323937 (by decide))).trans he327260
                                      have he327285 : F327278 q323941 = .inr (4, [.int p325704, .ref q325706, .int p325705]) := (hs327280 q323941 (rT0 ht323945 (by decide)) (rT1 ht323945 (by decide)) (rT2 ht323945 (by decide))).trans he327261
                                      have he327286 : F327278 q325706 = .inl (I (.object "java/lang/Object"), n325720, .inr (.inr (.inr (.inr f325721)))) := (hs327280 q325706 (rT0 r325712 (by decide)) (rT1 r325712 (by decide)) (rT2 r325712 (by decide))).trans he327262
                                      have he327287 : F327278 q325723 = .inr (20, [.int p325736, .int p325737, .int p325738, .int p325739, .int p325740, .int p325741, .int p325742]) := (hs327280 q325723 (rT0 ht325726 (by decide)) (rT1 ht325726 (by decide)) (rT2 ht325726 (by decide))).trans he327263
                                      have hs327288 : rStr γ [] F270217 F327278 := rStr_tr hs327268 hs327280
                                      have kp327289 : F327278 q270218 = F270217 q270218 := (x327276).trans kp327269
                                      have kp327290 : F327278 (γ 9 3) = F327217 (γ 9 3) := (x327277).trans kp327270
                                      have he327291 : F327278 q270218 = .inr (22, [.ref (γ 9 0), .ref (γ 9 1), .ref (γ 9 2), .ref (γ 9 3), .ref (γ 9 4), .ref (γ 9 5), .ref (γ 9 6), .ref (γ 9 7), .ref (γ 9 8), .int p270227, .int p270228, .int p270229, .int p270230, .int p270231, .int p270232, .ref (γ 9 15), .ref (γ 9 16), .ref (γ 9 17), .ref (γ 9 18), .ref (γ 9 19), .ref (γ 9 20), .ref (γ 9 21), .ref (γ 9 22), .int p270233, .int p270234, .int p270235, .int p270236, .int p270237, .ref q270225, .ref (γ 9 29), .int p270238, .ref (γ 9 31), .int p270239, .int p270240, .int p270241, .ref q270226]) := (x327276).trans he327264
                                      change G _ _ _ _ _ _ _ _ _ _ _
                                      refine G_widen (cs' := 0) (sl' := 0) (by omega) (by omega) ?_
                                      obtain ⟨z327292, hz327292⟩ : ∃ z : Int32, z = g325680 + Int32.ofInt (-1) := ⟨_, rfl⟩
                                      have ez327292 : z327292.toInt = g325680.toInt + (-1) := gI_inc hz327292 (by decide) bg325680' (by decide) (by decide)
                                      have bz327292 : gB z327292 (-1) 999998 := ⟨by omega, by omega⟩
                                      refine G_iinc (L' := [(5, .int z327292), (10, .int g327216), (9, .int 1), (8, .int p325738), (7, .int o325777), (6, .ref q325723), (4, .ref q323932), (3, .int g323269), (0, .ref q270218), (1, .ref q270219), (2, .int p270220)]) z327292 5 dr_cX17_graph_284 rfl hz327292.symm (Nat.le_of_ble_eq_true rfl) rfl ?_
                                      refine G_goto 109 dr_cX17_graph_287 (by decide +kernel) ?_
                                      refine G_lv (L' := [(5, .int z327292), (4, .ref q323932), (3, .int g323269), (0, .ref q270218), (1, .ref q270219), (2, .int p270220)]) [0, 6, 7, 8, 9, 10] rfl ?_
                                      exact ih109_325686 F327278 z327292 (gB_w bz327292 (by decide) (by decide)) hT327279 hs327288 (by omega) (fun h0 => by have z := x327220 h0; rw [← kp327290] at z; rw [show ((g325680.toInt : Int).toNat : Nat) = (z327292.toInt + 1 : Int).toNat by omega] at z; exact z) kp327289 (mz_dn ez327292 (Int.le_trans (by decide) bg325680'.1) hm109_325686)
                                    · have r327293 : g327216.toInt < 32 := gj_nleL hc327234 (show Int32.toInt 32 = 32 by decide)
                                      have bg327216' : gB g327216 0 31 := ⟨by omega, by omega⟩
                                      refine G_aload_n 8 dr_cX17_graph_217 rfl ?_
                                      refine Gp_get 1 hm327233 he327232 dr_cX17_graph_218 (gk_X17 D I) (Nat.le_of_ble_eq_true rfl) wr_7_75 rfl ?_
                                      refine G_iload 3 dr_cX17_graph_221 rfl ?_
                                      have hm327294 : (γ 9 1) ∈ P270216 := RS_m hT327218 ht270245 (by decide)
                                      obtain ⟨f327296, he327295, hg327297⟩ := show rk_13 I γ (F327217 (γ 9 1)) from RS_o hT327218 ht270245
                                      obtain ⟨q327298, hx327300⟩ : ∃ x, x = γ 11 o325777.toInt.toNat := ⟨_, rfl⟩
                                      have ht327299 : rKd γ q327298 36 := by rw [hx327300]; exact (hg327297 _ (show o325777.toInt.toNat < 2000 by omega)).2.1
                                      refine Gp_aald 5 hm327294 he327295 dr_cX17_graph_223 rfl rfl (gB_in bo325777' (by decide) (by decide)) ?_
                                      rw [show f327296 o325777.toNatClampNeg = some q327298 from (hg327297 _ (show o325777.toInt.toNat < 2000 by omega)).1.trans (by rw [hx327300])]
                                      change G _ _ _ _ _ _ _ (.ref q327298 :: _) _ _ _
                                      refine G_iload 0 dr_cX17_graph_224 rfl ?_
                                      refine G_dup2_11 dr_cX17_graph_226 rfl rfl ?_
                                      have hm327301 : q327298 ∈ P270216 := RS_m hT327218 ht327299 (by decide)
                                      obtain ⟨f327303, he327302, wf327303⟩ := show rk_36 I (F327217 q327298) from RS_o hT327218 ht327299
                                      refine Gp_lald 2 hm327301 he327302 dr_cX17_graph_227 rfl (gB_in bg327216' (by decide) (by decide)) (G_namL fun u327304 hu327304 => ?_)
                                      have qu327304 : lb_Q u327304 (2000 - 64 * g327216.toInt) := lb_Wld hu327304 wf327303 (by omega) (by omega) (lb_Mod0 (by omega) (by omega))
                                      refine G_aload_n 8 dr_cX17_graph_228 rfl ?_
                                      refine Gp_get 2 hm327233 he327232 dr_cX17_graph_229 (gk_X17 D I) (Nat.le_of_ble_eq_true rfl) wr_7_76 rfl ?_
                                      refine G_iload 0 dr_cX17_graph_232 rfl ?_
                                      have hm327305 : (γ 9 2) ∈ P270216 := RS_m hT327218 ht270246 (by decide)
                                      obtain ⟨f327307, he327306, wf327307⟩ := show rk_35 I (F327217 (γ 9 2)) from RS_o hT327218 ht270246
                                      refine Gp_lald 2 hm327305 he327306 dr_cX17_graph_234 rfl (gB_in bg327216' (by decide) (by decide)) (G_namL fun u327308 hu327308 => ?_)
                                      have qu327308 : lb_Q u327308 (2000 - 64 * g327216.toInt) := lb_Wld hu327308 wf327307 (by omega) (by omega) (lb_Mod0 (by omega) (by omega))
                                      refine G_lor dr_cX17_graph_235 (G_namL fun u327309 hu327309 => ?_)
                                      have qu327309 : lb_Q u327309 (2000 - 64 * g327216.toInt) := lb_Qor hu327309 qu327304 qu327308
                                      refine Gp_last 2 hm327301 he327302 dr_cX17_graph_236 rfl (gB_in bg327216' (by decide) (by decide)) (fun F327310 e327311 n327312 => ?_)
                                      obtain ⟨f327313, hf327313⟩ : ∃ z, z = vp_updL f327303 g327216.toNatClampNeg u327309 := ⟨_, rfl⟩
                                      rw [← hf327313] at e327311
                                      have he327314 : F327310 q270219 = .inr (18, [.ref q323282, .ref q323283, .int p323284, .int p323285]) := (n327312 q270219 (rn_oa he327224 he327302)).trans he327224
                                      have he327315 : F327310 q323282 = .inr (4, [.int p323913, .ref q323915, .int p323914]) := (n327312 q323282 (rn_oa he327225 he327302)).trans he327225
                                      have he327316 : F327310 q323915 = .inl (I (.object "java/lang/Object"), n323929, .inr (.inr (.inr (.inr f323930)))) := (n327312 q323915 (rn_ref_long he327226 he327302)).trans he327226
                                      have he327317 : F327310 q323932 = .inr (17, [.ref q323941, .ref q323942, .int p323943, .int p323944]) := (n327312 q323932 (rn_oa he327227 he327302)).trans he327227
                                      have he327318 : F327310 q323941 = .inr (4, [.int p325704, .ref q325706, .int p325705]) := (n327312 q323941 (rn_oa he327228 he327302)).trans he327228
                                      have he327319 : F327310 q325706 = .inl (I (.object "java/lang/Object"), n325720, .inr (.inr (.inr (.inr f325721)))) := (n327312 q325706 (rn_ref_long he327229 he327302)).trans he327229
                                      have he327320 : F327310 q325723 = .inr (20, [.int p325736, .int p325737, .int p325738, .int p325739, .int p325740, .int p325741, .int p325742]) := (n327312 q325723 (rn_oa he327230 he327302)).trans he327230
                                      have he327321 : F327310 q270218 = .inr (22, [.ref (γ 9 0), .ref (γ 9 1), .ref (γ 9 2), .ref (γ 9 3), .ref (γ 9 4), .ref (γ 9 5), .ref (γ 9 6), .ref (γ 9 7), .ref (γ 9 8), .int p270227, .int p270228, .int p270229, .int p270230, .int p270231, .int p270232, .ref (γ 9 15), .ref (γ 9 16), .ref (γ 9 17), .ref (γ 9 18), .ref (γ 9 19), .ref (γ 9 20), .ref (γ 9 21), .ref (γ 9 22), .int p270233, .int p270234, .int p270235, .int p270236, .int p270237, .ref q270225, .ref (γ 9 29), .int p270238, .ref (γ 9 31), .int p270239, .int p270240, .int p270241, .ref q270226]) := (n327312 q270218 (rn_oa he327232 he327302)).trans he327232
                                      have he327322 : F327310 (γ 9 1) = .inl (I (.array .long), 2000, .inr (.inr (.inr (.inr f327296)))) := (n327312 (γ 9 1) (rn_ref_long he327295 he327302)).trans he327295
                                      have he327323 : F327310 (γ 9 2) = .inl (I .long, 32, .inr (.inl f327307)) := (n327312 (γ 9 2) (rn_ty ht270246 ht327299 (by decide))).trans he327306
                                      have he327324 : F327310 q327298 = .inl (I .long, 32, .inr (.inl f327313)) := e327311
                                      have hs327325 : rStr γ [] F270217 F327310 := rStr_put hs327219 n327312 ht327299 (by decide)
                                      have kp327326 : F327310 q270218 = F270217 q270218 := (n327312 q270218 (rn_ty htq270218 ht327299 (by decide))).trans x327221
                                      have kp327327 : F327310 (γ 9 3) = F327217 (γ 9 3) := n327312 (γ 9 3) (rn_ty ht270247 ht327299 (by decide))
                                      have wf327313 : lb_W f327313 (32) (32) (2000) := lb_Wst hf327313 wf327303 (by omega) (lb_Mod0 (by omega) (by omega)) qu327309
                                      obtain ⟨z327328, hz327328⟩ : ∃ z : Int32, z = g327216 + Int32.ofInt 1 := ⟨_, rfl⟩
                                      have ez327328 : z327328.toInt = g327216.toInt + 1 := gI_inc hz327328 (by decide) bg327216' (by decide) (by decide)
                                      have bz327328 : gB z327328 1 32 := ⟨by omega, by omega⟩
                                      refine G_iinc (L' := [(10, .int z327328), (9, .int 1), (8, .int p325738), (7, .int o325777), (6, .ref q325723), (5, .int g325680), (4, .ref q323932), (3, .int g323269), (0, .ref q270218), (1, .ref q270219), (2, .int p270220)]) z327328 0 dr_cX17_graph_237 rfl hz327328.symm (Nat.le_of_ble_eq_true rfl) rfl ?_
                                      refine G_goto 210 dr_cX17_graph_240 (by decide +kernel) ?_
                                      have hT327329 : RS D I P270216 F327310 γ el := RS_set hT327218 n327312 ht327299 (by decide) ⟨f327313, he327324, wf327313⟩
                                      exact ih210_327221 F327310 z327328 (gB_w bz327328 (by decide) (by decide)) hT327329 hs327325 (by rw [kp327327]; exact x327220) kp327326 (mz_up ez327328 (Int.le_trans bg327216'.2 (by decide)) hm210_327221)
                                exact hlp210_327221 (((33 : Int) - 0).toNat + 1) F325755 0 (gB_w (gBl (show Int32.toInt 0 = 0 by decide)) (by decide) (by decide)) hT325756 hs325765 gr325771 kp325766 (Nat.lt_succ_self _)
              exact hlp109_325686 (((z324033.toInt : Int) - (-2)).toNat + 1) F324006 z324033 bz324033 hT324007 hs324013 (by omega) (fun h0 => by have z := gr323998 h0; rw [← kp324015] at z; rw [show (γ 2 q323941 : Nat) = (z324033.toInt + 1 : Int).toNat by omega] at z; exact z) kp324014 (Nat.lt_succ_self _)
        exact hlp56_323274 (((1000001 : Int) - 0).toNat + 1) F319199 0 (gB_w (gBl (show Int32.toInt 0 = 0 by decide)) (by decide) (by decide)) hT319200 hs319201 (fun _ => gq_0 (fun m hm => x319202 m (by omega))) x319203 (Nat.lt_succ_self _)
      · have r327330 : g319198.toInt < 2000 := gj_nleL hc319209 (show Int32.toInt 2000 = 2000 by decide)
        have bg319198' : gB g319198 0 1999 := ⟨by omega, by omega⟩
        refine G_aload_n 1 dr_cX17_graph_15 rfl ?_
        refine Gp_get 3 hm319208 he319207 dr_cX17_graph_16 (gk_X17 D I) (Nat.le_of_ble_eq_true rfl) wr_7_77 rfl ?_
        refine G_iload_n 0 dr_cX17_graph_19 rfl ?_
        refine G_iconst 0 dr_cX17_graph_20 (by decide +kernel) ?_
        have hm327331 : (γ 9 3) ∈ P270216 := RS_m hT319200 ht270247 (by decide)
        obtain ⟨f327333, he327332, bf327333⟩ := show rk_14 I (F319199 (γ 9 3)) from RS_o hT319200 ht270247
        refine Gp_zast 3 hm327331 he327332 dr_cX17_graph_21 rfl (gB_in bg319198' (by decide) (by decide)) (fun F327334 e327335 n327336 => ?_)
        obtain ⟨f327337, hf327337⟩ : ∃ z, z = upd f327333 g319198.toNatClampNeg (vp_nar .boolean 0) := ⟨_, rfl⟩
        rw [← hf327337] at e327335
        have he327338 : F327334 q270218 = .inr (22, [.ref (γ 9 0), .ref (γ 9 1), .ref (γ 9 2), .ref (γ 9 3), .ref (γ 9 4), .ref (γ 9 5), .ref (γ 9 6), .ref (γ 9 7), .ref (γ 9 8), .int p270227, .int p270228, .int p270229, .int p270230, .int p270231, .int p270232, .ref (γ 9 15), .ref (γ 9 16), .ref (γ 9 17), .ref (γ 9 18), .ref (γ 9 19), .ref (γ 9 20), .ref (γ 9 21), .ref (γ 9 22), .int p270233, .int p270234, .int p270235, .int p270236, .int p270237, .ref q270225, .ref (γ 9 29), .int p270238, .ref (γ 9 31), .int p270239, .int p270240, .int p270241, .ref q270226]) := (n327336 q270218 (rn_oa he319207 he327332)).trans he319207
        have he327339 : F327334 (γ 9 3) = .inl (I .boolean, 2000, .inl f327337) := e327335
        have hs327340 : rStr γ [] F270217 F327334 := rStr_put hs319201 n327336 ht270247 (by decide)
        have kp327341 : F327334 q270218 = F270217 q270218 := (n327336 q270218 (rn_ty htq270218 ht270247 (by decide))).trans x319203
        have bf327337 : gF f327337 0 1 := gF_upd hf327337 bf327333 (gB_w (gBl (show Int32.toInt 0 = 0 by decide)) (by decide) (by decide))
        refine G_iconst 0 dr_cX17_graph_22 (by decide +kernel) ?_
        refine G_istore (L' := [(4, .int 0), (3, .int g319198), (0, .ref q270218), (1, .ref q270219), (2, .int p270220)]) dr_cX17_graph_23 (Nat.le_of_ble_eq_true rfl) rfl ?_
        have hT327342 : RS D I P270216 F327334 γ el := RS_set hT319200 n327336 ht270247 (by decide) ⟨f327337, he327339, bf327337⟩
        have hlp25_327382 : ∀ (n25_327382 : Nat) (F327378 : Nat → va_E) (g327377 : Int32), gB g327377 0 32 → RS D I P270216 F327378 γ el → rStr γ [] F270217 F327378 → (∀ n : Nat, (n : Int) < g319198.toInt + 1 → ¬ rSd (cB (F327378 (γ 9 3))) n) → (F327378 q270218 = F270217 q270218) → ((33 : Int) - g327377.toInt).toNat < n25_327382 → G (gV D I) l (gRm 5 111 0 0) (gMA (gV D I) (pt_270222_SpillForgeModel_graph D I γ el P270216 F270217 q270218 q270219 p270220) gNA 0 0) ky_270222_SpillForgeModel_graph 25 [(4, .int g327377), (3, .int g319198), (0, .ref q270218), (1, .ref q270219), (2, .int p270220)] [] (va_pl P270216 F327378) 0 0 := by
          intro n25_327382
          induction n25_327382 with
          | zero => intro F327378 g327377 bg327377 hT327379 hs327380 x327381 x327382 hm25_327382; exact absurd hm25_327382 (Nat.not_lt_zero _)
          | succ n25_327382 ih25_327382 =>
            intro F327378 g327377 bg327377 hT327379 hs327380 x327381 x327382 hm25_327382
            have hs327384 : rStr γ [] F327334 F327378 := fun b h0 hb hw => (hs327380 b h0 hb hw).trans (hs327340 b h0 hb hw).symm
            have hs327385 : rStr γ [] F270217 F327378 := rStr_tr hs327340 hs327384
            have he327386 : F327378 q270218 = .inr (22, [.ref (γ 9 0), .ref (γ 9 1), .ref (γ 9 2), .ref (γ 9 3), .ref (γ 9 4), .ref (γ 9 5), .ref (γ 9 6), .ref (γ 9 7), .ref (γ 9 8), .int p270227, .int p270228, .int p270229, .int p270230, .int p270231, .int p270232, .ref (γ 9 15), .ref (γ 9 16), .ref (γ 9 17), .ref (γ 9 18), .ref (γ 9 19), .ref (γ 9 20), .ref (γ 9 21), .ref (γ 9 22), .int p270233, .int p270234, .int p270235, .int p270236, .int p270237, .ref q270225, .ref (γ 9 29), .int p270238, .ref (γ 9 31), .int p270239, .int p270240, .int p270241, .ref q270226]) := x327382.trans he270224
            have hm327387 : q270218 ∈ P270216 := RS_m hT327379 htq270218 (by decide)
            refine G_iload 0 dr_cX17_graph_25 rfl ?_
            refine G_bipush 32 dr_cX17_graph_27 (by decide +kernel) ?_
            refine G_icmp_ge 48 dr_cX17_graph_29 (by decide +kernel) (fun hc327388 => ?_) (fun hc327388 => ?_)
            · have r327389 : 32 ≤ g327377.toInt := gj_leL hc327388 (show Int32.toInt 32 = 32 by decide)
              have bg327377' : gB g327377 32 32 := ⟨by omega, by omega⟩
              obtain ⟨z327390, hz327390⟩ : ∃ z : Int32, z = g319198 + Int32.ofInt 1 := ⟨_, rfl⟩
              have ez327390 : z327390.toInt = g319198.toInt + 1 := gI_inc hz327390 (by decide) bg319198' (by decide) (by decide)
              have bz327390 : gB z327390 1 2000 := ⟨by omega, by omega⟩
              refine G_iinc (L' := [(3, .int z327390), (4, .int g327377), (0, .ref q270218), (1, .ref q270219), (2, .int p270220)]) z327390 1 dr_cX17_graph_48 rfl hz327390.symm (Nat.le_of_ble_eq_true rfl) rfl ?_
              refine G_goto 8 dr_cX17_graph_51 (by decide +kernel) ?_
              refine G_lv (L' := [(3, .int z327390), (0, .ref q270218), (1, .ref q270219), (2, .int p270220)]) [0, 2, 3, 4] rfl ?_
              exact ih8_319203 F327378 z327390 (gB_w bz327390 (by decide) (by decide)) hT327379 hs327380 (by rw [ez327390]; exact x327381) x327382 (mz_up ez327390 (Int.le_trans bg319198'.2 (by decide)) hm8_319203)
            · have r327391 : g327377.toInt < 32 := gj_nleL hc327388 (show Int32.toInt 32 = 32 by decide)
              have bg327377' : gB g327377 0 31 := ⟨by omega, by omega⟩
              refine G_aload_n 2 dr_cX17_graph_32 rfl ?_
              refine Gp_get 1 hm327387 he327386 dr_cX17_graph_33 (gk_X17 D I) (Nat.le_of_ble_eq_true rfl) wr_7_75 rfl ?_
              refine G_iload_n 1 dr_cX17_graph_36 rfl ?_
              have hm327392 : (γ 9 1) ∈ P270216 := RS_m hT327379 ht270245 (by decide)
              obtain ⟨f327394, he327393, hg327395⟩ := show rk_13 I γ (F327378 (γ 9 1)) from RS_o hT327379 ht270245
              obtain ⟨q327396, hx327398⟩ : ∃ x, x = γ 11 g319198.toInt.toNat := ⟨_, rfl⟩
              have ht327397 : rKd γ q327396 36 := by rw [hx327398]; exact (hg327395 _ (show g319198.toInt.toNat < 2000 by omega)).2.1
              refine Gp_aald 5 hm327392 he327393 dr_cX17_graph_37 rfl rfl (gB_in bg319198' (by decide) (by decide)) ?_
              rw [show f327394 g319198.toNatClampNeg = some q327396 from (hg327395 _ (show g319198.toInt.toNat < 2000 by omega)).1.trans (by rw [hx327398])]
              change G _ _ _ _ _ _ _ (.ref q327396 :: _) _ _ _
              refine G_iload 0 dr_cX17_graph_38 rfl ?_
              refine G_lconst 0 dr_cX17_graph_40 rfl ?_
              have hm327399 : q327396 ∈ P270216 := RS_m hT327379 ht327397 (by decide)
              obtain ⟨f327401, he327400, wf327401⟩ := show rk_36 I (F327378 q327396) from RS_o hT327379 ht327397
              refine Gp_last 2 hm327399 he327400 dr_cX17_graph_41 rfl (gB_in bg327377' (by decide) (by decide)) (fun F327402 e327403 n327404 => ?_)
              obtain ⟨f327405, hf327405⟩ : ∃ z, z = vp_updL f327401 g327377.toNatClampNeg 0 := ⟨_, rfl⟩
              rw [← hf327405] at e327403
              have he327406 : F327402 q270218 = .inr (22, [.ref (γ 9 0), .ref (γ 9 1), .ref (γ 9 2), .ref (γ 9 3), .ref (γ 9 4), .ref (γ 9 5), .ref (γ 9 6), .ref (γ 9 7), .ref (γ 9 8), .int p270227, .int p270228, .int p270229, .int p270230, .int p270231, .int p270232, .ref (γ 9 15), .ref (γ 9 16), .ref (γ 9 17), .ref (γ 9 18), .ref (γ 9 19), .ref (γ 9 20), .ref (γ 9 21), .ref (γ 9 22), .int p270233, .int p270234, .int p270235, .int p270236, .int p270237, .ref q270225, .ref (γ 9 29), .int p270238, .ref (γ 9 31), .int p270239, .int p270240, .int p270241, .ref q270226]) := (n327404 q270218 (rn_oa he327386 he327400)).trans he327386
              have he327407 : F327402 (γ 9 1) = .inl (I (.array .long), 2000, .inr (.inr (.inr (.inr f327394)))) := (n327404 (γ 9 1) (rn_ref_long he327393 he327400)).trans he327393
              have he327408 : F327402 q327396 = .inl (I .long, 32, .inr (.inl f327405)) := e327403
              have hs327409 : rStr γ [] F270217 F327402 := rStr_put hs327380 n327404 ht327397 (by decide)
              have kp327410 : F327402 q270218 = F270217 q270218 := (n327404 q270218 (rn_ty htq270218 ht327397 (by decide))).trans x327382
              have kp327411 : F327402 (γ 9 3) = F327378 (γ 9 3) := n327404 (γ 9 3) (rn_ty ht270247 ht327397 (by decide))
              have wf327405 : lb_W f327405 (32) (32) (2000) := lb_Wst hf327405 wf327401 (by omega) (lb_Mod0 (by omega) (by omega)) lb_Q0
              obtain ⟨z327412, hz327412⟩ : ∃ z : Int32, z = g327377 + Int32.ofInt 1 := ⟨_, rfl⟩
              have ez327412 : z327412.toInt = g327377.toInt + 1 := gI_inc hz327412 (by decide) bg327377' (by decide) (by decide)
              have bz327412 : gB z327412 1 32 := ⟨by omega, by omega⟩
              refine G_iinc (L' := [(4, .int z327412), (3, .int g319198), (0, .ref q270218), (1, .ref q270219), (2, .int p270220)]) z327412 0 dr_cX17_graph_42 rfl hz327412.symm (Nat.le_of_ble_eq_true rfl) rfl ?_
              refine G_goto 25 dr_cX17_graph_45 (by decide +kernel) ?_
              have hT327413 : RS D I P270216 F327402 γ el := RS_set hT327379 n327404 ht327397 (by decide) ⟨f327405, he327408, wf327405⟩
              exact ih25_327382 F327402 z327412 (gB_w bz327412 (by decide) (by decide)) hT327413 hs327409 (by rw [kp327411]; exact x327381) kp327410 (mz_up ez327412 (Int.le_trans bg327377'.2 (by decide)) hm25_327382)
        exact hlp25_327382 (((33 : Int) - 0).toNat + 1) F327334 0 (gB_w (gBl (show Int32.toInt 0 = 0 by decide)) (by decide) (by decide)) hT327342 hs327340 (by rw [cB_of he327339]; exact sd_z hf327337 (by omega) (by have q := x319202; rw [cB_of he327332] at q; exact q)) kp327341 (Nat.lt_succ_self _)
  exact hlp8_319203 (((2001 : Int) - 0).toNat + 1) F270276 0 (gB_w (gBl (show Int32.toInt 0 = 0 by decide)) (by decide) (by decide)) hT270277 hs270279 (fun n hn => absurd hn (by have qa : Int32.toInt 0 = 0 := (by decide); omega)) kp270280 (Nat.lt_succ_self _)
