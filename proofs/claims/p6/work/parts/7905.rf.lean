theorem dr_cX17_graph_0 : decode cX17_graph 0 = .ok (.aload_n 0, 1) := by decide +kernel
theorem dr_cX17_graph_1 : decode cX17_graph 1 = .ok (.aload_n 1, 1) := by decide +kernel
theorem dr_cX17_graph_2 : decode cX17_graph 2 = .ok (.iload_n 2, 1) := by decide +kernel
theorem dr_cX17_graph_3 : decode cX17_graph 3 = .ok (.invokevirtual 127, 3) := by decide +kernel
theorem wr_10_156 : (Jvm.Cond.methodLink "SpillForgeModel" (127 : Nat) ({ cls := "SpillForgeModel", name := "findLive", desc := "(LSpillForgeModel$Code;Z)V" } : Jvm.MethodName)) ∈ gw := gw_10 156 rfl rfl
theorem wr_10_159 : (Jvm.Cond.code ({ cls := "SpillForgeModel", name := "findLive", desc := "(LSpillForgeModel$Code;Z)V" } : Jvm.MethodName) prog_14_method_9_code (7 : Nat) (Option.none : Option Jvm.ClassFile.FieldType)) ∈ gw := gw_10 159 rfl rfl
theorem wr_10_158 : (Jvm.Cond.instanceMethod ({ cls := "SpillForgeModel", name := "findLive", desc := "(LSpillForgeModel$Code;Z)V" } : Jvm.MethodName)) ∈ gw := gw_10 158 rfl rfl
theorem wr_p_94 : Cond.selects "SpillForgeModel" ⟨"SpillForgeModel", "findLive", "(LSpillForgeModel$Code;Z)V"⟩ ⟨"SpillForgeModel", "findLive", "(LSpillForgeModel$Code;Z)V"⟩ ∈ gw := gw_p _ 94 rfl rfl rfl
theorem dr_cX17_graph_6 : decode cX17_graph 6 = .ok (.iconst 0, 1) := by decide +kernel
theorem dr_cX17_graph_7 : decode cX17_graph 7 = .ok (.istore_n 3, 1) := by decide +kernel
theorem dr_cX17_graph_8 : decode cX17_graph 8 = .ok (.iload_n 3, 1) := by decide +kernel
theorem dr_cX17_graph_9 : decode cX17_graph 9 = .ok (.sipush 2000, 3) := by decide +kernel
theorem dr_cX17_graph_12 : decode cX17_graph 12 = .ok (.if_icmp .ge 42, 3) := by decide +kernel
theorem dr_cX17_graph_54 : decode cX17_graph 54 = .ok (.iconst 0, 1) := by decide +kernel
theorem dr_cX17_graph_55 : decode cX17_graph 55 = .ok (.istore_n 3, 1) := by decide +kernel
theorem dr_cX17_graph_56 : decode cX17_graph 56 = .ok (.iload_n 3, 1) := by decide +kernel
theorem dr_cX17_graph_57 : decode cX17_graph 57 = .ok (.aload_n 1, 1) := by decide +kernel
theorem dr_cX17_graph_58 : decode cX17_graph 58 = .ok (.invokevirtual 96, 3) := by decide +kernel
theorem dr_cX17_graph_61 : decode cX17_graph 61 = .ok (.if_icmp .ge 235, 3) := by decide +kernel
theorem dr_cX17_graph_296 : decode cX17_graph 296 = .ok (.iconst 0, 1) := by decide +kernel
theorem dr_cX17_graph_297 : decode cX17_graph 297 = .ok (.istore_n 3, 1) := by decide +kernel
theorem dr_cX17_graph_298 : decode cX17_graph 298 = .ok (.iload_n 3, 1) := by decide +kernel
theorem dr_cX17_graph_299 : decode cX17_graph 299 = .ok (.sipush 2000, 3) := by decide +kernel
theorem dr_cX17_graph_302 : decode cX17_graph 302 = .ok (.if_icmp .ge 87, 3) := by decide +kernel
theorem dr_cX17_graph_389 : decode cX17_graph 389 = .ok (.return_, 1) := by decide +kernel
theorem dr_cX17_graph_305 : decode cX17_graph 305 = .ok (.aload_n 0, 1) := by decide +kernel
theorem dr_cX17_graph_306 : decode cX17_graph 306 = .ok (.getfield 131, 3) := by decide +kernel
theorem dr_cX17_graph_309 : decode cX17_graph 309 = .ok (.iload_n 3, 1) := by decide +kernel
theorem dr_cX17_graph_310 : decode cX17_graph 310 = .ok (.baload, 1) := by decide +kernel
theorem dr_cX17_graph_311 : decode cX17_graph 311 = .ok (.ifCond .ne 6, 3) := by decide +kernel
theorem dr_cX17_graph_317 : decode cX17_graph 317 = .ok (.iconst 0, 1) := by decide +kernel
theorem dr_cX17_graph_318 : decode cX17_graph 318 = .ok (.istore 4, 2) := by decide +kernel
theorem dr_cX17_graph_320 : decode cX17_graph 320 = .ok (.iload 4, 2) := by decide +kernel
theorem dr_cX17_graph_322 : decode cX17_graph 322 = .ok (.bipush 32, 2) := by decide +kernel
theorem dr_cX17_graph_324 : decode cX17_graph 324 = .ok (.if_icmp .ge 59, 3) := by decide +kernel
theorem dr_cX17_graph_383 : decode cX17_graph 383 = .ok (.iinc 3 1, 3) := by decide +kernel
theorem dr_cX17_graph_386 : decode cX17_graph 386 = .ok (.goto (-88), 3) := by decide +kernel
theorem dr_cX17_graph_327 : decode cX17_graph 327 = .ok (.aload_n 0, 1) := by decide +kernel
theorem dr_cX17_graph_328 : decode cX17_graph 328 = .ok (.getfield 135, 3) := by decide +kernel
theorem dr_cX17_graph_331 : decode cX17_graph 331 = .ok (.iload_n 3, 1) := by decide +kernel
theorem dr_cX17_graph_332 : decode cX17_graph 332 = .ok (.aaload, 1) := by decide +kernel
theorem dr_cX17_graph_333 : decode cX17_graph 333 = .ok (.iload 4, 2) := by decide +kernel
theorem dr_cX17_graph_335 : decode cX17_graph 335 = .ok (.laload, 1) := by decide +kernel
theorem dr_cX17_graph_336 : decode cX17_graph 336 = .ok (.lstore 5, 2) := by decide +kernel
theorem dr_cX17_graph_338 : decode cX17_graph 338 = .ok (.lload 5, 2) := by decide +kernel
theorem dr_cX17_graph_340 : decode cX17_graph 340 = .ok (.lconst 0, 1) := by decide +kernel
theorem dr_cX17_graph_341 : decode cX17_graph 341 = .ok (.lcmp, 1) := by decide +kernel
theorem dr_cX17_graph_342 : decode cX17_graph 342 = .ok (.ifCond .eq 35, 3) := by decide +kernel
theorem dr_cX17_graph_377 : decode cX17_graph 377 = .ok (.iinc 4 1, 3) := by decide +kernel
theorem dr_cX17_graph_380 : decode cX17_graph 380 = .ok (.goto (-60), 3) := by decide +kernel
theorem dr_cX17_graph_345 : decode cX17_graph 345 = .ok (.aload_n 0, 1) := by decide +kernel
theorem dr_cX17_graph_346 : decode cX17_graph 346 = .ok (.getfield 135, 3) := by decide +kernel
theorem dr_cX17_graph_349 : decode cX17_graph 349 = .ok (.bipush 64, 2) := by decide +kernel
theorem dr_cX17_graph_351 : decode cX17_graph 351 = .ok (.iload 4, 2) := by decide +kernel
theorem dr_cX17_graph_353 : decode cX17_graph 353 = .ok (.imul, 1) := by decide +kernel
theorem dr_cX17_graph_354 : decode cX17_graph 354 = .ok (.lload 5, 2) := by decide +kernel
theorem dr_cX17_graph_356 : decode cX17_graph 356 = .ok (.invokestatic 149, 3) := by decide +kernel
theorem wr_11_1 : (Jvm.Cond.methodLink "SpillForgeModel" (149 : Nat) ({ cls := "java/lang/Long", name := "numberOfTrailingZeros", desc := "(J)I" } : Jvm.MethodName)) ∈ gw := gw_11 1 rfl rfl
theorem wr_11_3 : (Jvm.Cond.code ({ cls := "java/lang/Long", name := "numberOfTrailingZeros", desc := "(J)I" } : Jvm.MethodName) prog_31_method_49_code (3 : Nat) (Option.some Jvm.ClassFile.FieldType.int)) ∈ gw := gw_11 3 rfl rfl
theorem wr_11_2 : (Jvm.Cond.static ({ cls := "java/lang/Long", name := "numberOfTrailingZeros", desc := "(J)I" } : Jvm.MethodName)) ∈ gw := gw_11 2 rfl rfl
theorem dr_cX17_graph_359 : decode cX17_graph 359 = .ok (.iadd, 1) := by decide +kernel
theorem dr_cX17_graph_360 : decode cX17_graph 360 = .ok (.aaload, 1) := by decide +kernel
theorem dr_cX17_graph_361 : decode cX17_graph 361 = .ok (.iload_n 3, 1) := by decide +kernel
theorem dr_cX17_graph_362 : decode cX17_graph 362 = .ok (.invokestatic 67, 3) := by decide +kernel
theorem dr_cX17_graph_365 : decode cX17_graph 365 = .ok (.lload 5, 2) := by decide +kernel
theorem dr_cX17_graph_367 : decode cX17_graph 367 = .ok (.lload 5, 2) := by decide +kernel
theorem dr_cX17_graph_369 : decode cX17_graph 369 = .ok (.lconst 1, 1) := by decide +kernel
theorem dr_cX17_graph_370 : decode cX17_graph 370 = .ok (.lsub, 1) := by decide +kernel
theorem dr_cX17_graph_371 : decode cX17_graph 371 = .ok (.land, 1) := by decide +kernel
theorem dr_cX17_graph_372 : decode cX17_graph 372 = .ok (.lstore 5, 2) := by decide +kernel
theorem dr_cX17_graph_374 : decode cX17_graph 374 = .ok (.goto (-36), 3) := by decide +kernel
theorem dr_cX17_graph_314 : decode cX17_graph 314 = .ok (.goto 69, 3) := by decide +kernel
theorem dr_cX17_graph_64 : decode cX17_graph 64 = .ok (.aload_n 1, 1) := by decide +kernel
theorem dr_cX17_graph_65 : decode cX17_graph 65 = .ok (.iload_n 3, 1) := by decide +kernel
theorem dr_cX17_graph_66 : decode cX17_graph 66 = .ok (.invokevirtual 101, 3) := by decide +kernel
theorem dr_cX17_graph_69 : decode cX17_graph 69 = .ok (.astore 4, 2) := by decide +kernel
theorem dr_cX17_graph_71 : decode cX17_graph 71 = .ok (.aload_n 0, 1) := by decide +kernel
theorem dr_cX17_graph_72 : decode cX17_graph 72 = .ok (.aload 4, 2) := by decide +kernel
theorem dr_cX17_graph_74 : decode cX17_graph 74 = .ok (.invokevirtual 105, 3) := by decide +kernel
theorem dr_cX17_graph_77 : decode cX17_graph 77 = .ok (.aload_n 0, 1) := by decide +kernel
theorem dr_cX17_graph_78 : decode cX17_graph 78 = .ok (.aload 4, 2) := by decide +kernel
theorem dr_cX17_graph_80 : decode cX17_graph 80 = .ok (.getfield 109, 3) := by decide +kernel
theorem dr_cX17_graph_83 : decode cX17_graph 83 = .ok (.iload_n 2, 1) := by decide +kernel
theorem dr_cX17_graph_84 : decode cX17_graph 84 = .ok (.invokevirtual 138, 3) := by decide +kernel
theorem wr_10_237 : (Jvm.Cond.methodLink "SpillForgeModel" (138 : Nat) ({ cls := "SpillForgeModel", name := "stand", desc := "(LSpillForgeModel$Row;Z)V" } : Jvm.MethodName)) ∈ gw := gw_10 237 rfl rfl
theorem wr_11_0 : (Jvm.Cond.code ({ cls := "SpillForgeModel", name := "stand", desc := "(LSpillForgeModel$Row;Z)V" } : Jvm.MethodName) prog_14_method_11_code (4 : Nat) (Option.none : Option Jvm.ClassFile.FieldType)) ∈ gw := gw_11 0 rfl rfl
theorem wr_10_239 : (Jvm.Cond.instanceMethod ({ cls := "SpillForgeModel", name := "stand", desc := "(LSpillForgeModel$Row;Z)V" } : Jvm.MethodName)) ∈ gw := gw_10 239 rfl rfl
theorem wr_p_100 : Cond.selects "SpillForgeModel" ⟨"SpillForgeModel", "stand", "(LSpillForgeModel$Row;Z)V"⟩ ⟨"SpillForgeModel", "stand", "(LSpillForgeModel$Row;Z)V"⟩ ∈ gw := gw_p _ 100 rfl rfl rfl
theorem dr_cX17_graph_87 : decode cX17_graph 87 = .ok (.aload_n 0, 1) := by decide +kernel
theorem dr_cX17_graph_88 : decode cX17_graph 88 = .ok (.aload 4, 2) := by decide +kernel
theorem dr_cX17_graph_90 : decode cX17_graph 90 = .ok (.getfield 109, 3) := by decide +kernel
theorem dr_cX17_graph_93 : decode cX17_graph 93 = .ok (.iload_n 2, 1) := by decide +kernel
theorem dr_cX17_graph_94 : decode cX17_graph 94 = .ok (.invokevirtual 113, 3) := by decide +kernel
theorem dr_cX17_graph_97 : decode cX17_graph 97 = .ok (.aload 4, 2) := by decide +kernel
theorem dr_cX17_graph_99 : decode cX17_graph 99 = .ok (.getfield 117, 3) := by decide +kernel
theorem dr_cX17_graph_102 : decode cX17_graph 102 = .ok (.invokevirtual 121, 3) := by decide +kernel
theorem dr_cX17_graph_105 : decode cX17_graph 105 = .ok (.iconst 1, 1) := by decide +kernel
theorem dr_cX17_graph_106 : decode cX17_graph 106 = .ok (.isub, 1) := by decide +kernel
theorem dr_cX17_graph_107 : decode cX17_graph 107 = .ok (.istore 5, 2) := by decide +kernel
theorem dr_cX17_graph_109 : decode cX17_graph 109 = .ok (.iload 5, 2) := by decide +kernel
theorem dr_cX17_graph_111 : decode cX17_graph 111 = .ok (.ifCond .lt 179, 3) := by decide +kernel
theorem dr_cX17_graph_290 : decode cX17_graph 290 = .ok (.iinc 3 1, 3) := by decide +kernel
theorem dr_cX17_graph_293 : decode cX17_graph 293 = .ok (.goto (-237), 3) := by decide +kernel
theorem dr_cX17_graph_114 : decode cX17_graph 114 = .ok (.aload 4, 2) := by decide +kernel
theorem dr_cX17_graph_116 : decode cX17_graph 116 = .ok (.getfield 117, 3) := by decide +kernel
theorem dr_cX17_graph_119 : decode cX17_graph 119 = .ok (.iload 5, 2) := by decide +kernel
theorem dr_cX17_graph_121 : decode cX17_graph 121 = .ok (.invokevirtual 124, 3) := by decide +kernel
theorem dr_cX17_graph_124 : decode cX17_graph 124 = .ok (.checkcast 40, 3) := by decide +kernel
theorem dr_cX17_graph_127 : decode cX17_graph 127 = .ok (.astore 6, 2) := by decide +kernel
theorem dr_cX17_graph_129 : decode cX17_graph 129 = .ok (.aload_n 0, 1) := by decide +kernel
theorem dr_cX17_graph_130 : decode cX17_graph 130 = .ok (.aload 6, 2) := by decide +kernel
theorem dr_cX17_graph_132 : decode cX17_graph 132 = .ok (.iload_n 2, 1) := by decide +kernel
theorem dr_cX17_graph_133 : decode cX17_graph 133 = .ok (.invokevirtual 138, 3) := by decide +kernel
theorem dr_cX17_graph_136 : decode cX17_graph 136 = .ok (.aload 6, 2) := by decide +kernel
theorem dr_cX17_graph_138 : decode cX17_graph 138 = .ok (.iload_n 2, 1) := by decide +kernel
theorem dr_cX17_graph_139 : decode cX17_graph 139 = .ok (.invokestatic 55, 3) := by decide +kernel
theorem dr_cX17_graph_142 : decode cX17_graph 142 = .ok (.istore 7, 2) := by decide +kernel
theorem dr_cX17_graph_144 : decode cX17_graph 144 = .ok (.iload_n 2, 1) := by decide +kernel
theorem dr_cX17_graph_145 : decode cX17_graph 145 = .ok (.ifCond .ne 27, 3) := by decide +kernel
theorem dr_cX17_graph_172 : decode cX17_graph 172 = .ok (.iconst (-1), 1) := by decide +kernel
theorem dr_cX17_graph_173 : decode cX17_graph 173 = .ok (.istore 8, 2) := by decide +kernel
theorem dr_cX17_graph_175 : decode cX17_graph 175 = .ok (.iload 7, 2) := by decide +kernel
theorem dr_cX17_graph_177 : decode cX17_graph 177 = .ok (.ifCond .lt 100, 3) := by decide +kernel
theorem dr_cX17_graph_277 : decode cX17_graph 277 = .ok (.aload_n 0, 1) := by decide +kernel
theorem dr_cX17_graph_278 : decode cX17_graph 278 = .ok (.aload 6, 2) := by decide +kernel
theorem dr_cX17_graph_280 : decode cX17_graph 280 = .ok (.iload_n 2, 1) := by decide +kernel
theorem dr_cX17_graph_281 : decode cX17_graph 281 = .ok (.invokevirtual 113, 3) := by decide +kernel
theorem dr_cX17_graph_284 : decode cX17_graph 284 = .ok (.iinc 5 (-1), 3) := by decide +kernel
theorem dr_cX17_graph_287 : decode cX17_graph 287 = .ok (.goto (-178), 3) := by decide +kernel
theorem dr_cX17_graph_180 : decode cX17_graph 180 = .ok (.iload 8, 2) := by decide +kernel
theorem dr_cX17_graph_182 : decode cX17_graph 182 = .ok (.ifCond .lt 22, 3) := by decide +kernel
theorem dr_cX17_graph_204 : decode cX17_graph 204 = .ok (.iconst 0, 1) := by decide +kernel
theorem dr_cX17_graph_205 : decode cX17_graph 205 = .ok (.istore 9, 2) := by decide +kernel
theorem dr_cX17_graph_207 : decode cX17_graph 207 = .ok (.iconst 0, 1) := by decide +kernel
theorem dr_cX17_graph_208 : decode cX17_graph 208 = .ok (.istore 10, 2) := by decide +kernel
theorem dr_cX17_graph_210 : decode cX17_graph 210 = .ok (.iload 10, 2) := by decide +kernel
theorem dr_cX17_graph_212 : decode cX17_graph 212 = .ok (.bipush 32, 2) := by decide +kernel
theorem dr_cX17_graph_214 : decode cX17_graph 214 = .ok (.if_icmp .ge 29, 3) := by decide +kernel
theorem dr_cX17_graph_243 : decode cX17_graph 243 = .ok (.iload 8, 2) := by decide +kernel
theorem dr_cX17_graph_245 : decode cX17_graph 245 = .ok (.ifCond .lt 20, 3) := by decide +kernel
theorem dr_cX17_graph_265 : decode cX17_graph 265 = .ok (.aload_n 0, 1) := by decide +kernel
theorem dr_cX17_graph_266 : decode cX17_graph 266 = .ok (.getfield 135, 3) := by decide +kernel
theorem dr_cX17_graph_269 : decode cX17_graph 269 = .ok (.iload 7, 2) := by decide +kernel
theorem dr_cX17_graph_271 : decode cX17_graph 271 = .ok (.aaload, 1) := by decide +kernel
theorem dr_cX17_graph_272 : decode cX17_graph 272 = .ok (.iload 7, 2) := by decide +kernel
theorem dr_cX17_graph_274 : decode cX17_graph 274 = .ok (.invokestatic 63, 3) := by decide +kernel
theorem dr_cX17_graph_217 : decode cX17_graph 217 = .ok (.aload_n 0, 1) := by decide +kernel
theorem dr_cX17_graph_218 : decode cX17_graph 218 = .ok (.getfield 135, 3) := by decide +kernel
theorem dr_cX17_graph_221 : decode cX17_graph 221 = .ok (.iload 7, 2) := by decide +kernel
theorem dr_cX17_graph_223 : decode cX17_graph 223 = .ok (.aaload, 1) := by decide +kernel
theorem dr_cX17_graph_224 : decode cX17_graph 224 = .ok (.iload 10, 2) := by decide +kernel
theorem dr_cX17_graph_226 : decode cX17_graph 226 = .ok (.dup2, 1) := by decide +kernel
theorem dr_cX17_graph_227 : decode cX17_graph 227 = .ok (.laload, 1) := by decide +kernel
theorem dr_cX17_graph_228 : decode cX17_graph 228 = .ok (.aload_n 0, 1) := by decide +kernel
theorem dr_cX17_graph_229 : decode cX17_graph 229 = .ok (.getfield 59, 3) := by decide +kernel
theorem dr_cX17_graph_232 : decode cX17_graph 232 = .ok (.iload 10, 2) := by decide +kernel
theorem dr_cX17_graph_234 : decode cX17_graph 234 = .ok (.laload, 1) := by decide +kernel
theorem dr_cX17_graph_235 : decode cX17_graph 235 = .ok (.lor, 1) := by decide +kernel
theorem dr_cX17_graph_236 : decode cX17_graph 236 = .ok (.lastore, 1) := by decide +kernel
theorem dr_cX17_graph_237 : decode cX17_graph 237 = .ok (.iinc 10 1, 3) := by decide +kernel
theorem dr_cX17_graph_240 : decode cX17_graph 240 = .ok (.goto (-30), 3) := by decide +kernel
theorem dr_cX17_graph_148 : decode cX17_graph 148 = .ok (.aload 6, 2) := by decide +kernel
theorem dr_cX17_graph_150 : decode cX17_graph 150 = .ok (.getfield 39, 3) := by decide +kernel
theorem dr_cX17_graph_153 : decode cX17_graph 153 = .ok (.ifCond .ne 19, 3) := by decide +kernel
theorem dr_cX17_graph_156 : decode cX17_graph 156 = .ok (.aload 6, 2) := by decide +kernel
theorem dr_cX17_graph_158 : decode cX17_graph 158 = .ok (.getfield 141, 3) := by decide +kernel
theorem dr_cX17_graph_161 : decode cX17_graph 161 = .ok (.ifCond .eq 11, 3) := by decide +kernel
theorem dr_cX17_graph_164 : decode cX17_graph 164 = .ok (.aload 6, 2) := by decide +kernel
theorem dr_cX17_graph_166 : decode cX17_graph 166 = .ok (.getfield 73, 3) := by decide +kernel
theorem dr_cX17_graph_169 : decode cX17_graph 169 = .ok (.goto 4, 3) := by decide +kernel
theorem dr_cX17_graph_185 : decode cX17_graph 185 = .ok (.aload_n 0, 1) := by decide +kernel
theorem dr_cX17_graph_186 : decode cX17_graph 186 = .ok (.getfield 135, 3) := by decide +kernel
theorem dr_cX17_graph_189 : decode cX17_graph 189 = .ok (.iload 7, 2) := by decide +kernel
theorem dr_cX17_graph_191 : decode cX17_graph 191 = .ok (.aaload, 1) := by decide +kernel
theorem dr_cX17_graph_192 : decode cX17_graph 192 = .ok (.iload 8, 2) := by decide +kernel
theorem dr_cX17_graph_194 : decode cX17_graph 194 = .ok (.invokestatic 145, 3) := by decide +kernel
theorem dr_cX17_graph_197 : decode cX17_graph 197 = .ok (.ifCond .eq 7, 3) := by decide +kernel
theorem dr_cX17_graph_248 : decode cX17_graph 248 = .ok (.iload 9, 2) := by decide +kernel
theorem dr_cX17_graph_250 : decode cX17_graph 250 = .ok (.ifCond .ne 15, 3) := by decide +kernel
theorem dr_cX17_graph_253 : decode cX17_graph 253 = .ok (.aload_n 0, 1) := by decide +kernel
theorem dr_cX17_graph_254 : decode cX17_graph 254 = .ok (.getfield 135, 3) := by decide +kernel
theorem dr_cX17_graph_257 : decode cX17_graph 257 = .ok (.iload 7, 2) := by decide +kernel
theorem dr_cX17_graph_259 : decode cX17_graph 259 = .ok (.aaload, 1) := by decide +kernel
theorem dr_cX17_graph_260 : decode cX17_graph 260 = .ok (.iload 8, 2) := by decide +kernel
theorem dr_cX17_graph_262 : decode cX17_graph 262 = .ok (.invokestatic 63, 3) := by decide +kernel
theorem dr_cX17_graph_200 : decode cX17_graph 200 = .ok (.iconst 1, 1) := by decide +kernel
theorem dr_cX17_graph_201 : decode cX17_graph 201 = .ok (.goto 4, 3) := by decide +kernel
theorem dr_cX17_graph_15 : decode cX17_graph 15 = .ok (.aload_n 0, 1) := by decide +kernel
theorem dr_cX17_graph_16 : decode cX17_graph 16 = .ok (.getfield 131, 3) := by decide +kernel
theorem dr_cX17_graph_19 : decode cX17_graph 19 = .ok (.iload_n 3, 1) := by decide +kernel
theorem dr_cX17_graph_20 : decode cX17_graph 20 = .ok (.iconst 0, 1) := by decide +kernel
theorem dr_cX17_graph_21 : decode cX17_graph 21 = .ok (.bastore, 1) := by decide +kernel
theorem dr_cX17_graph_22 : decode cX17_graph 22 = .ok (.iconst 0, 1) := by decide +kernel
theorem dr_cX17_graph_23 : decode cX17_graph 23 = .ok (.istore 4, 2) := by decide +kernel
theorem dr_cX17_graph_25 : decode cX17_graph 25 = .ok (.iload 4, 2) := by decide +kernel
theorem dr_cX17_graph_27 : decode cX17_graph 27 = .ok (.bipush 32, 2) := by decide +kernel
theorem dr_cX17_graph_29 : decode cX17_graph 29 = .ok (.if_icmp .ge 19, 3) := by decide +kernel
theorem dr_cX17_graph_48 : decode cX17_graph 48 = .ok (.iinc 3 1, 3) := by decide +kernel
theorem dr_cX17_graph_51 : decode cX17_graph 51 = .ok (.goto (-43), 3) := by decide +kernel
theorem dr_cX17_graph_32 : decode cX17_graph 32 = .ok (.aload_n 0, 1) := by decide +kernel
theorem dr_cX17_graph_33 : decode cX17_graph 33 = .ok (.getfield 135, 3) := by decide +kernel
theorem dr_cX17_graph_36 : decode cX17_graph 36 = .ok (.iload_n 3, 1) := by decide +kernel
theorem dr_cX17_graph_37 : decode cX17_graph 37 = .ok (.aaload, 1) := by decide +kernel
theorem dr_cX17_graph_38 : decode cX17_graph 38 = .ok (.iload 4, 2) := by decide +kernel
theorem dr_cX17_graph_40 : decode cX17_graph 40 = .ok (.lconst 0, 1) := by decide +kernel
theorem dr_cX17_graph_41 : decode cX17_graph 41 = .ok (.lastore, 1) := by decide +kernel
theorem dr_cX17_graph_42 : decode cX17_graph 42 = .ok (.iinc 4 1, 3) := by decide +kernel
theorem dr_cX17_graph_45 : decode cX17_graph 45 = .ok (.goto (-20), 3) := by decide +kernel
abbrev ky_277516_SpillForgeModel_graph : gKey := (cX17_graph, 11, "SpillForgeModel", none, [], "graph", fun _ _ => True)
def pt_277516_SpillForgeModel_graph (D : va_G) (I : FieldType → ClassId) (γ el : Nat → Nat → Nat) (P277510 : List Nat) (F277511 : Nat → va_E) (q277512 : Nat) (q277513 : Nat) (p277514 : Int32) : Option Value → va_W → Nat → Nat → Prop := fun r w dc ds => ∃ (F335938 : Nat → va_E), r = none ∧ w = va_pl P277510 F335938 ∧ RS D I P277510 F335938 γ el ∧ rStr γ [] F277511 F335938 ∧ dc ≤ 0 ∧ ds ≤ 0 ∧ (gIp (p277514.toInt = 0) (rGr γ el F277511 q277513 (γ 6 (γ 1 q277513)) (cB (F335938 (γ 9 3))) (vA (γ 6 (γ 1 q277513))))) ∧ (F335938 q277512 = F277511 q277512) ∧ tr_RModel_graph D I γ el P277510 F277511 q277512 q277513 p277514 F335938
set_option maxRecDepth 100000 in
set_option maxHeartbeats 4000000 in
theorem ct_277516_SpillForgeModel_graph (l : Launch) (hl0 : l.stackTraces = false) (D : va_G) (I : FieldType → ClassId) (γ el : Nat → Nat → Nat) (P277510 : List Nat) (F277511 : Nat → va_E) (q277512 : Nat) (q277513 : Nat) (p277514 : Int32) (hT : RS D I P277510 F277511 γ el) (htq277512 : rKd γ q277512 10) (htq277513 : rKd γ q277513 9) (bp277514 : gB p277514 0 1) (x277515 : 0 < γ 6 (γ 1 q277513)) : CtA (gV D I) l yX17_graph cX17_graph 11 none 5 111 0 0 [.ref q277512, .ref q277513, .int p277514] (va_pl P277510 F277511) (pt_277516_SpillForgeModel_graph D I γ el P277510 F277511 q277512 q277513 p277514) gNA := by
  refine CtA_of hl0 (by decide) (Nat.le_of_ble_eq_true rfl) ?_
  have hm277517 : q277512 ∈ P277510 := RS_m hT htq277512 (by decide)
  refine rk10_e (show rk_10 γ (F277511 q277512) from RS_o hT htq277512) (fun q277519 q277520 p277521 p277522 p277523 p277524 p277525 p277526 p277527 p277528 p277529 p277530 p277531 p277532 p277533 p277534 p277535 he277518 hB277562 ht277536 ht277537 ht277538 ht277539 ht277540 ht277541 ht277542 ht277543 ht277544 ht277545 ht277546 ht277547 ht277548 ht277549 ht277550 ht277551 ht277552 ht277553 ht277554 ht277555 ht277556 ht277557 ht277558 ht277559 hB277563 => ?_)
  refine G_aload_n 0 dr_cX17_graph_0 rfl ?_
  refine G_aload_n 1 dr_cX17_graph_1 rfl ?_
  refine G_iload_n 2 dr_cX17_graph_2 rfl ?_
  refine Gw_callV (As := [.ref q277513, .int p277514]) (gV_ok D I) (ct_225912_SpillForgeModel_findLive l hl0 D I γ el P277510 F277511 q277512 q277513 p277514 hT htq277512 htq277513 bp277514 (by omega)) dr_cX17_graph_3 ⟨wr_10_156, wr_1_14, wr_10_159, by decide, rfl, (Nat.le_of_ble_eq_true rfl), (Nat.le_of_ble_eq_true rfl)⟩ wr_10_158 wr_p_94 hm277517 he277518 rfl (show 0 + 0 ≤ 0 by first | omega | decide) (show 0 + 0 ≤ 0 by first | omega | decide) (Nat.le_of_ble_eq_true rfl) (fun r277567 w277568 dc277564 ds277565 hp277566 => ?_) (fun _ _ _ _ _ z => z.elim)
  obtain ⟨F277571, rfl, rfl, hT277572, hs277573, hdc, hds, x277569, ht277570⟩ := hp277566
  have hs277574 : rStr γ [] F277511 F277571 := rStr_tr (rStr_rf (γ := γ) (W := []) (F := F277511)) hs277573
  have kp277575 : F277571 q277512 = F277511 q277512 := x277569
  have he277576 : F277571 q277512 = .inr (22, [.ref (γ 9 0), .ref (γ 9 1), .ref (γ 9 2), .ref (γ 9 3), .ref (γ 9 4), .ref (γ 9 5), .ref (γ 9 6), .ref (γ 9 7), .ref (γ 9 8), .int p277521, .int p277522, .int p277523, .int p277524, .int p277525, .int p277526, .ref (γ 9 15), .ref (γ 9 16), .ref (γ 9 17), .ref (γ 9 18), .ref (γ 9 19), .ref (γ 9 20), .ref (γ 9 21), .ref (γ 9 22), .int p277527, .int p277528, .int p277529, .int p277530, .int p277531, .ref q277519, .ref (γ 9 29), .int p277532, .ref (γ 9 31), .int p277533, .int p277534, .int p277535, .ref q277520]) := (x277569).trans he277518
  change G _ _ _ _ _ _ _ _ _ _ _
  refine G_widen (cs' := 0) (sl' := 0) (by omega) (by omega) ?_
  refine G_iconst 0 dr_cX17_graph_6 (by decide +kernel) ?_
  refine G_istore_n (L' := [(3, .int 0), (0, .ref q277512), (1, .ref q277513), (2, .int p277514)]) dr_cX17_graph_7 (Nat.le_of_ble_eq_true rfl) rfl ?_
  have hlp8_327510 : ∀ (n8_327510 : Nat) (F327506 : Nat → va_E) (g327505 : Int32), gB g327505 0 2000 → RS D I P277510 F327506 γ el → rStr γ [] F277511 F327506 → (∀ n : Nat, (n : Int) < g327505.toInt → ¬ rSd (cB (F327506 (γ 9 3))) n) → (F327506 q277512 = F277511 q277512) → (∀ (k : Nat) (e1 : Nat → va_E), tl_RModel_graph_8 D I γ el P277510 F277511 q277512 F327506 g327505 k e1 → tl_RModel_graph_8 D I γ el P277510 F277511 q277512 F277571 (0 : Int32) k e1) → ((2001 : Int) - g327505.toInt).toNat < n8_327510 → G (gV D I) l (gRm 5 111 0 0) (gMA (gV D I) (pt_277516_SpillForgeModel_graph D I γ el P277510 F277511 q277512 q277513 p277514) gNA 0 0) ky_277516_SpillForgeModel_graph 8 [(3, .int g327505), (0, .ref q277512), (1, .ref q277513), (2, .int p277514)] [] (va_pl P277510 F327506) 0 0 := by
    intro n8_327510
    induction n8_327510 with
    | zero => intro F327506 g327505 bg327505 hT327507 hs327508 x327509 x327510 kt8_327511 hm8_327510; exact absurd hm8_327510 (Nat.not_lt_zero _)
    | succ n8_327510 ih8_327510 =>
      intro F327506 g327505 bg327505 hT327507 hs327508 x327509 x327510 kt8_327511 hm8_327510
      have hs327512 : rStr γ [] F277571 F327506 := fun b h0 hb hw => (hs327508 b h0 hb hw).trans (hs277574 b h0 hb hw).symm
      have hs327513 : rStr γ [] F277511 F327506 := rStr_tr hs277574 hs327512
      have he327514 : F327506 q277512 = .inr (22, [.ref (γ 9 0), .ref (γ 9 1), .ref (γ 9 2), .ref (γ 9 3), .ref (γ 9 4), .ref (γ 9 5), .ref (γ 9 6), .ref (γ 9 7), .ref (γ 9 8), .int p277521, .int p277522, .int p277523, .int p277524, .int p277525, .int p277526, .ref (γ 9 15), .ref (γ 9 16), .ref (γ 9 17), .ref (γ 9 18), .ref (γ 9 19), .ref (γ 9 20), .ref (γ 9 21), .ref (γ 9 22), .int p277527, .int p277528, .int p277529, .int p277530, .int p277531, .ref q277519, .ref (γ 9 29), .int p277532, .ref (γ 9 31), .int p277533, .int p277534, .int p277535, .ref q277520]) := x327510.trans he277518
      have hm327515 : q277512 ∈ P277510 := RS_m hT327507 htq277512 (by decide)
      refine G_iload_n 0 dr_cX17_graph_8 rfl ?_
      refine G_sipush 2000 dr_cX17_graph_9 (by decide +kernel) ?_
      refine G_icmp_ge 54 dr_cX17_graph_12 (by decide +kernel) (fun hc327516 => ?_) (fun hc327516 => ?_)
      · have r327517 : 2000 ≤ g327505.toInt := gj_leL hc327516 (show Int32.toInt 2000 = 2000 by decide)
        have bg327505' : gB g327505 2000 2000 := ⟨by omega, by omega⟩
        have hx327518 : tl_RModel_graph_8 D I γ el P277510 F277511 q277512 F277571 (0 : Int32) 54 F327506 := kt8_327511 54 F327506 (fun R c1 c2 => c1 F327506 g327505 bg327505 hT327507 hs327508 x327509 x327510 r327517)
        refine G_iconst 0 dr_cX17_graph_54 (by decide +kernel) ?_
        refine G_istore_n (L' := [(3, .int 0), (0, .ref q277512), (1, .ref q277513), (2, .int p277514)]) dr_cX17_graph_55 (Nat.le_of_ble_eq_true rfl) rfl ?_
        have hlp56_331664 : ∀ (n56_331664 : Nat) (F331660 : Nat → va_E) (g331659 : Int32), gB g331659 0 1000000 → RS D I P277510 F331660 γ el → rStr γ [] F277511 F331660 → (gIp (p277514.toInt = 0) (rGr γ el F277511 q277513 (γ 6 (γ 1 q277513)) (cB (F331660 (γ 9 3))) (vA (g331659.toInt : Int).toNat))) → (F331660 q277512 = F277511 q277512) → (∀ (k : Nat) (e1 : Nat → va_E), tl_RModel_graph_56 D I γ el P277510 F277511 p277514 q277513 q277512 F331660 g331659 k e1 → tl_RModel_graph_56 D I γ el P277510 F277511 p277514 q277513 q277512 F327506 (0 : Int32) k e1) → ((1000001 : Int) - g331659.toInt).toNat < n56_331664 → G (gV D I) l (gRm 5 111 0 0) (gMA (gV D I) (pt_277516_SpillForgeModel_graph D I γ el P277510 F277511 q277512 q277513 p277514) gNA 0 0) ky_277516_SpillForgeModel_graph 56 [(3, .int g331659), (0, .ref q277512), (1, .ref q277513), (2, .int p277514)] [] (va_pl P277510 F331660) 0 0 := by
          intro n56_331664
          induction n56_331664 with
          | zero => intro F331660 g331659 bg331659 hT331661 hs331662 x331663 x331664 kt56_331665 hm56_331664; exact absurd hm56_331664 (Nat.not_lt_zero _)
          | succ n56_331664 ih56_331664 =>
            intro F331660 g331659 bg331659 hT331661 hs331662 x331663 x331664 kt56_331665 hm56_331664
            have hs331666 : rStr γ [] F327506 F331660 := fun b h0 hb hw => (hs331662 b h0 hb hw).trans (hs327508 b h0 hb hw).symm
            have hs331667 : rStr γ [] F277511 F331660 := rStr_tr hs327508 hs331666
            have he331668 : F331660 q277512 = .inr (22, [.ref (γ 9 0), .ref (γ 9 1), .ref (γ 9 2), .ref (γ 9 3), .ref (γ 9 4), .ref (γ 9 5), .ref (γ 9 6), .ref (γ 9 7), .ref (γ 9 8), .int p277521, .int p277522, .int p277523, .int p277524, .int p277525, .int p277526, .ref (γ 9 15), .ref (γ 9 16), .ref (γ 9 17), .ref (γ 9 18), .ref (γ 9 19), .ref (γ 9 20), .ref (γ 9 21), .ref (γ 9 22), .int p277527, .int p277528, .int p277529, .int p277530, .int p277531, .ref q277519, .ref (γ 9 29), .int p277532, .ref (γ 9 31), .int p277533, .int p277534, .int p277535, .ref q277520]) := x331664.trans he277518
            have hm331669 : q277512 ∈ P277510 := RS_m hT331661 htq277512 (by decide)
            refine G_iload_n 0 dr_cX17_graph_56 rfl ?_
            refine G_aload_n 2 dr_cX17_graph_57 rfl ?_
            have hm331670 : q277513 ∈ P277510 := RS_m hT331661 htq277513 (by decide)
            obtain ⟨q331672, q331673, p331674, p331675, he331671, ht331691, ht331676, ht331677, ht331678, ht331679, r331680, r331681, r331682, r331683, r331684, r331685, r331686, r331687, r331688, r331689, r331690⟩ := show rk_9 γ el q277513 (F331660 q277513) from RS_o hT331661 htq277513
            have bp331674 : gB p331674 0 1000000 := ⟨by omega, by omega⟩
            have bp331675 : gB p331675 0 1000000 := ⟨by omega, by omega⟩
            have fq331692 : fI (F331660 q277513) 3 = p331675 := by rw [he331671]; rfl
            refine Gw_callV (As := []) (gV_ok D I) (cp_12780_Code_size l hl0 D I P277510 F331660 q277513 q331672 q331673 p331674 p331675 hm331670 he331671) dr_cX17_graph_58 ⟨wr_10_160, wr_1_15, wr_9_131, by decide, rfl, (Nat.le_of_ble_eq_true rfl), (Nat.le_of_ble_eq_true rfl)⟩ wr_9_129 wr_9_130 hm331670 he331671 rfl (show 0 + 0 ≤ 0 by first | omega | decide) (show 0 + 0 ≤ 0 by first | omega | decide) (Nat.le_of_ble_eq_true rfl) (fun r331696 w331697 dc331693 ds331694 hp331695 => ?_) (fun _ _ _ _ _ z => z.elim)
            obtain ⟨rfl, rfl, hdc, hds⟩ := hp331695
            change G _ _ _ _ _ _ _ (.int p331675 :: _) _ _ _
            refine G_widen (cs' := 0) (sl' := 0) (by omega) (by omega) ?_
            refine G_icmp_ge 296 dr_cX17_graph_61 (by decide +kernel) (fun hc331698 => ?_) (fun hc331698 => ?_)
            · have r331699 : p331675.toInt ≤ g331659.toInt := gC_le hc331698
              have hx331700 : tl_RModel_graph_56 D I γ el P277510 F277511 p277514 q277513 q277512 F327506 (0 : Int32) 296 F331660 := kt56_331665 296 F331660 (fun R c1 c2 => c1 F331660 g331659 p331675 bg331659 hT331661 hs331662 x331663 x331664 fq331692 r331699)
              refine G_iconst 0 dr_cX17_graph_296 (by decide +kernel) ?_
              refine G_istore_n (L' := [(3, .int 0), (0, .ref q277512), (1, .ref q277513), (2, .int p277514)]) dr_cX17_graph_297 (Nat.le_of_ble_eq_true rfl) rfl ?_
              have hlp298_332009 : ∀ (n298_332009 : Nat) (F332005 : Nat → va_E) (g332004 : Int32), gB g332004 0 2000 → RS D I P277510 F332005 γ el → rStr γ [] F277511 F332005 → (gIp (p277514.toInt = 0) (rGr γ el F277511 q277513 (γ 6 (γ 1 q277513)) (cB (F332005 (γ 9 3))) (vA (γ 6 (γ 1 q277513))))) → (F332005 q277512 = F277511 q277512) → (∀ (k : Nat) (e1 : Nat → va_E), tl_RModel_graph_298 D I γ el P277510 F277511 p277514 q277513 q277512 F332005 g332004 k e1 → tl_RModel_graph_298 D I γ el P277510 F277511 p277514 q277513 q277512 F331660 (0 : Int32) k e1) → ((2001 : Int) - g332004.toInt).toNat < n298_332009 → G (gV D I) l (gRm 5 111 0 0) (gMA (gV D I) (pt_277516_SpillForgeModel_graph D I γ el P277510 F277511 q277512 q277513 p277514) gNA 0 0) ky_277516_SpillForgeModel_graph 298 [(3, .int g332004), (0, .ref q277512), (1, .ref q277513), (2, .int p277514)] [] (va_pl P277510 F332005) 0 0 := by
                intro n298_332009
                induction n298_332009 with
                | zero => intro F332005 g332004 bg332004 hT332006 hs332007 x332008 x332009 kt298_332010 hm298_332009; exact absurd hm298_332009 (Nat.not_lt_zero _)
                | succ n298_332009 ih298_332009 =>
                  intro F332005 g332004 bg332004 hT332006 hs332007 x332008 x332009 kt298_332010 hm298_332009
                  have hs332011 : rStr γ [] F331660 F332005 := fun b h0 hb hw => (hs332007 b h0 hb hw).trans (hs331662 b h0 hb hw).symm
                  have he332012 : F332005 q277513 = .inr (18, [.ref q331672, .ref q331673, .int p331674, .int p331675]) := (hs332011 q277513 (rT0 htq277513 (by decide)) (rT1 htq277513 (by decide)) (rT2 htq277513 (by decide))).trans he331671
                  have hs332013 : rStr γ [] F277511 F332005 := rStr_tr hs331662 hs332011
                  have he332014 : F332005 q277512 = .inr (22, [.ref (γ 9 0), .ref (γ 9 1), .ref (γ 9 2), .ref (γ 9 3), .ref (γ 9 4), .ref (γ 9 5), .ref (γ 9 6), .ref (γ 9 7), .ref (γ 9 8), .int p277521, .int p277522, .int p277523, .int p277524, .int p277525, .int p277526, .ref (γ 9 15), .ref (γ 9 16), .ref (γ 9 17), .ref (γ 9 18), .ref (γ 9 19), .ref (γ 9 20), .ref (γ 9 21), .ref (γ 9 22), .int p277527, .int p277528, .int p277529, .int p277530, .int p277531, .ref q277519, .ref (γ 9 29), .int p277532, .ref (γ 9 31), .int p277533, .int p277534, .int p277535, .ref q277520]) := x332009.trans he277518
                  have hm332015 : q277512 ∈ P277510 := RS_m hT332006 htq277512 (by decide)
                  refine G_iload_n 0 dr_cX17_graph_298 rfl ?_
                  refine G_sipush 2000 dr_cX17_graph_299 (by decide +kernel) ?_
                  refine G_icmp_ge 389 dr_cX17_graph_302 (by decide +kernel) (fun hc332016 => ?_) (fun hc332016 => ?_)
                  · have r332017 : 2000 ≤ g332004.toInt := gj_leL hc332016 (show Int32.toInt 2000 = 2000 by decide)
                    have bg332004' : gB g332004 2000 2000 := ⟨by omega, by omega⟩
                    have hx332018 : tl_RModel_graph_298 D I γ el P277510 F277511 p277514 q277513 q277512 F331660 (0 : Int32) 389 F332005 := kt298_332010 389 F332005 (fun R c1 c2 c3 => c1 F332005 g332004 bg332004 hT332006 hs332007 x332008 x332009 r332017)
                    exact G_vretA dr_cX17_graph_389 rfl (Nat.le_of_ble_eq_true rfl) (Nat.le_of_ble_eq_true rfl) ⟨F332005, rfl, rfl, hT332006, hs332007, (Nat.le_of_ble_eq_true rfl), (Nat.le_of_ble_eq_true rfl), x332008, x332009, (fun R c1 => c1 F277571 F327506 F331660 F332005 hT277572 hs277573 x277569 ht277570 hx327518 hx331700 hx332018)⟩
                  · have r332019 : g332004.toInt < 2000 := gj_nleL hc332016 (show Int32.toInt 2000 = 2000 by decide)
                    have bg332004' : gB g332004 0 1999 := ⟨by omega, by omega⟩
                    refine G_aload_n 1 dr_cX17_graph_305 rfl ?_
                    have fq332020 : fR (F332005 q277512) 3 = (γ 9 3) := by rw [he332014]; rfl
                    refine Gp_get 3 hm332015 he332014 dr_cX17_graph_306 (gk_X17 D I) (Nat.le_of_ble_eq_true rfl) wr_7_77 rfl ?_
                    refine G_iload_n 0 dr_cX17_graph_309 rfl ?_
                    have hm332021 : (γ 9 3) ∈ P277510 := RS_m hT332006 ht277541 (by decide)
                    obtain ⟨f332023, he332022, bf332023⟩ := show rk_14 I (F332005 (γ 9 3)) from RS_o hT332006 ht277541
                    refine Gp_zald 3 hm332021 he332022 dr_cX17_graph_310 rfl (gB_in bg332004' (by decide) (by decide)) (G_nam fun z332024 hz332024 => ?_)
                    have bz332024 : gB z332024 0 1 := by rw [hz332024]; exact bf332023 _
                    refine G_if_ne 317 dr_cX17_graph_311 (by decide +kernel) (fun hc332025 => ?_) (fun hc332025 => ?_)
                    · have r332026 : z332024.toInt ≠ 0 := gj_neq hc332025 (show Int32.toInt 0 = 0 by decide)
                      have bz332024' : gB z332024 1 1 := gB_t1 bz332024 r332026
                      refine G_iconst 0 dr_cX17_graph_317 (by decide +kernel) ?_
                      refine G_istore (L' := [(4, .int 0), (3, .int g332004), (0, .ref q277512), (1, .ref q277513), (2, .int p277514)]) dr_cX17_graph_318 (Nat.le_of_ble_eq_true rfl) rfl ?_
                      have hlp320_332172 : ∀ (n320_332172 : Nat) (F332168 : Nat → va_E) (g332167 : Int32), gB g332167 0 32 → RS D I P277510 F332168 γ el → rStr γ [] F277511 F332168 → (gIp (p277514.toInt = 0) (rGr γ el F277511 q277513 (γ 6 (γ 1 q277513)) (cB (F332168 (γ 9 3))) (vA (γ 6 (γ 1 q277513))))) → (F332168 q277512 = F277511 q277512) → (∀ (k : Nat) (e1 : Nat → va_E), tl_RModel_graph_320 D I γ el P277510 F277511 p277514 q277513 q277512 g332004 F332168 g332167 k e1 → tl_RModel_graph_320 D I γ el P277510 F277511 p277514 q277513 q277512 g332004 F332005 (0 : Int32) k e1) → ((33 : Int) - g332167.toInt).toNat < n320_332172 → G (gV D I) l (gRm 5 111 0 0) (gMA (gV D I) (pt_277516_SpillForgeModel_graph D I γ el P277510 F277511 q277512 q277513 p277514) gNA 0 0) ky_277516_SpillForgeModel_graph 320 [(4, .int g332167), (3, .int g332004), (0, .ref q277512), (1, .ref q277513), (2, .int p277514)] [] (va_pl P277510 F332168) 0 0 := by
                        intro n320_332172
                        induction n320_332172 with
                        | zero => intro F332168 g332167 bg332167 hT332169 hs332170 x332171 x332172 kt320_332173 hm320_332172; exact absurd hm320_332172 (Nat.not_lt_zero _)
                        | succ n320_332172 ih320_332172 =>
                          intro F332168 g332167 bg332167 hT332169 hs332170 x332171 x332172 kt320_332173 hm320_332172
                          have hs332174 : rStr γ [] F332005 F332168 := fun b h0 hb hw => (hs332170 b h0 hb hw).trans (hs332007 b h0 hb hw).symm
                          have he332175 : F332168 q277513 = .inr (18, [.ref q331672, .ref q331673, .int p331674, .int p331675]) := (hs332174 q277513 (rT0 htq277513 (by decide)) (rT1 htq277513 (by decide)) (rT2 htq277513 (by decide))).trans he332012
                          have hs332176 : rStr γ [] F277511 F332168 := rStr_tr hs332007 hs332174
                          have he332177 : F332168 q277512 = .inr (22, [.ref (γ 9 0), .ref (γ 9 1), .ref (γ 9 2), .ref (γ 9 3), .ref (γ 9 4), .ref (γ 9 5), .ref (γ 9 6), .ref (γ 9 7), .ref (γ 9 8), .int p277521, .int p277522, .int p277523, .int p277524, .int p277525, .int p277526, .ref (γ 9 15), .ref (γ 9 16), .ref (γ 9 17), .ref (γ 9 18), .ref (γ 9 19), .ref (γ 9 20), .ref (γ 9 21), .ref (γ 9 22), .int p277527, .int p277528, .int p277529, .int p277530, .int p277531, .ref q277519, .ref (γ 9 29), .int p277532, .ref (γ 9 31), .int p277533, .int p277534, .int p277535, .ref q277520]) := x332172.trans he277518
                          have hm332178 : q277512 ∈ P277510 := RS_m hT332169 htq277512 (by decide)
                          refine G_iload 0 dr_cX17_graph_320 rfl ?_
                          refine G_bipush 32 dr_cX17_graph_322 (by decide +kernel) ?_
                          refine G_icmp_ge 383 dr_cX17_graph_324 (by decide +kernel) (fun hc332179 => ?_) (fun hc332179 => ?_)
                          · have r332180 : 32 ≤ g332167.toInt := gj_leL hc332179 (show Int32.toInt 32 = 32 by decide)
                            have bg332167' : gB g332167 32 32 := ⟨by omega, by omega⟩
                            have hx332181 : tl_RModel_graph_320 D I γ el P277510 F277511 p277514 q277513 q277512 g332004 F332005 (0 : Int32) 383 F332168 := kt320_332173 383 F332168 (fun R c1 c2 => c1 F332168 g332167 bg332167 hT332169 hs332170 x332171 x332172 r332180)
                            obtain ⟨z332182, hz332182⟩ : ∃ z : Int32, z = g332004 + Int32.ofInt 1 := ⟨_, rfl⟩
                            have ez332182 : z332182.toInt = g332004.toInt + 1 := gI_inc hz332182 (by decide) bg332004' (by decide) (by decide)
                            have bz332182 : gB z332182 1 2000 := ⟨by omega, by omega⟩
                            refine G_iinc (L' := [(3, .int z332182), (4, .int g332167), (0, .ref q277512), (1, .ref q277513), (2, .int p277514)]) z332182 1 dr_cX17_graph_383 rfl hz332182.symm (Nat.le_of_ble_eq_true rfl) rfl ?_
                            refine G_goto 298 dr_cX17_graph_386 (by decide +kernel) ?_
                            refine G_lv (L' := [(3, .int z332182), (0, .ref q277512), (1, .ref q277513), (2, .int p277514)]) [0, 2, 3, 4] rfl ?_
                            exact ih298_332009 F332168 z332182 (gB_w bz332182 (by decide) (by decide)) hT332169 hs332170 x332171 x332172 (fun k e1 ht => kt298_332010 k e1 (fun R c1 c2 c3 => c2 F332005 g332004 f332023 z332024 F332168 z332182 k e1 bg332004 hT332006 hs332007 x332008 x332009 r332019 fq332020 he332022 hz332024 bz332024 r332026 hx332181 ez332182 (ht R c1 c2 c3))) (mz_up ez332182 (Int.le_trans bg332004'.2 (by decide)) hm298_332009)
                          · have r332183 : g332167.toInt < 32 := gj_nleL hc332179 (show Int32.toInt 32 = 32 by decide)
                            have bg332167' : gB g332167 0 31 := ⟨by omega, by omega⟩
                            refine G_aload_n 2 dr_cX17_graph_327 rfl ?_
                            have fq332184 : fR (F332168 q277512) 1 = (γ 9 1) := by rw [he332177]; rfl
                            refine Gp_get 1 hm332178 he332177 dr_cX17_graph_328 (gk_X17 D I) (Nat.le_of_ble_eq_true rfl) wr_7_75 rfl ?_
                            refine G_iload_n 1 dr_cX17_graph_331 rfl ?_
                            have hm332185 : (γ 9 1) ∈ P277510 := RS_m hT332169 ht277539 (by decide)
                            obtain ⟨f332187, he332186, hg332188⟩ := show rk_13 I γ (F332168 (γ 9 1)) from RS_o hT332169 ht277539
                            obtain ⟨q332189, hx332191⟩ : ∃ x, x = γ 11 g332004.toInt.toNat := ⟨_, rfl⟩
                            have ht332190 : rKd γ q332189 36 := by rw [hx332191]; exact (hg332188 _ (show g332004.toInt.toNat < 2000 by omega)).2.1
                            refine Gp_aald 5 hm332185 he332186 dr_cX17_graph_332 rfl rfl (gB_in bg332004' (by decide) (by decide)) ?_
                            rw [show f332187 g332004.toNatClampNeg = some q332189 from (hg332188 _ (show g332004.toInt.toNat < 2000 by omega)).1.trans (by rw [hx332191])]
                            change G _ _ _ _ _ _ _ (.ref q332189 :: _) _ _ _
                            refine G_iload 0 dr_cX17_graph_333 rfl ?_
                            have hm332192 : q332189 ∈ P277510 := RS_m hT332169 ht332190 (by decide)
                            obtain ⟨f332194, he332193, wf332194⟩ := show rk_36 I (F332168 q332189) from RS_o hT332169 ht332190
                            refine Gp_lald 2 hm332192 he332193 dr_cX17_graph_335 rfl (gB_in bg332167' (by decide) (by decide)) (G_namL fun u332195 hu332195 => ?_)
                            have qu332195 : lb_Q u332195 (2000 - 64 * g332167.toInt) := lb_Wld hu332195 wf332194 (by omega) (by omega) (lb_Mod0 (by omega) (by omega))
                            refine G_lstore (L' := [(5, .long u332195), (4, .int g332167), (3, .int g332004), (0, .ref q277512), (1, .ref q277513), (2, .int p277514)]) dr_cX17_graph_336 (Nat.le_of_ble_eq_true rfl) rfl ?_
                            have hlp338_332258 : ∀ (n338_332258 : Nat) (F332253 : Nat → va_E) (gl332252 : Int64), RS D I P277510 F332253 γ el → rStr γ [] F277511 F332253 → (lb_Q gl332252 (2000 - 64 * g332167.toInt)) → (gIp (p277514.toInt = 0) (rGr γ el F277511 q277513 (γ 6 (γ 1 q277513)) (cB (F332253 (γ 9 3))) (vA (γ 6 (γ 1 q277513))))) → (F332253 q277512 = F277511 q277512) → (∀ (k : Nat) (e1 : Nat → va_E), tl_RModel_graph_338 D I γ el P277510 F277511 g332167 p277514 q277513 q277512 g332004 F332253 gl332252 k e1 → tl_RModel_graph_338 D I γ el P277510 F277511 g332167 p277514 q277513 q277512 g332004 F332168 u332195 k e1) → (rpop gl332252) < n338_332258 → G (gV D I) l (gRm 5 111 0 0) (gMA (gV D I) (pt_277516_SpillForgeModel_graph D I γ el P277510 F277511 q277512 q277513 p277514) gNA 0 0) ky_277516_SpillForgeModel_graph 338 [(5, .long gl332252), (4, .int g332167), (3, .int g332004), (0, .ref q277512), (1, .ref q277513), (2, .int p277514)] [] (va_pl P277510 F332253) 0 0 := by
                              intro n338_332258
                              induction n338_332258 with
                              | zero => intro F332253 gl332252 hT332254 hs332255 x332256 x332257 x332258 kt338_332259 hm338_332258; exact absurd hm338_332258 (Nat.not_lt_zero _)
                              | succ n338_332258 ih338_332258 =>
                                intro F332253 gl332252 hT332254 hs332255 x332256 x332257 x332258 kt338_332259 hm338_332258
                                have hs332260 : rStr γ [] F332168 F332253 := fun b h0 hb hw => (hs332255 b h0 hb hw).trans (hs332170 b h0 hb hw).symm
                                have he332261 : F332253 q277513 = .inr (18, [.ref q331672, .ref q331673, .int p331674, .int p331675]) := (hs332260 q277513 (rT0 htq277513 (by decide)) (rT1 htq277513 (by decide)) (rT2 htq277513 (by decide))).trans he332175
                                have hs332262 : rStr γ [] F277511 F332253 := rStr_tr hs332170 hs332260
                                have he332263 : F332253 q277512 = .inr (22, [.ref (γ 9 0), .ref (γ 9 1), .ref (γ 9 2), .ref (γ 9 3), .ref (γ 9 4), .ref (γ 9 5), .ref (γ 9 6), .ref (γ 9 7), .ref (γ 9 8), .int p277521, .int p277522, .int p277523, .int p277524, .int p277525, .int p277526, .ref (γ 9 15), .ref (γ 9 16), .ref (γ 9 17), .ref (γ 9 18), .ref (γ 9 19), .ref (γ 9 20), .ref (γ 9 21), .ref (γ 9 22), .int p277527, .int p277528, .int p277529, .int p277530, .int p277531, .ref q277519, .ref (γ 9 29), .int p277532, .ref (γ 9 31), .int p277533, .int p277534, .int p277535, .ref q277520]) := x332258.trans he277518
                                have hm332264 : q277512 ∈ P277510 := RS_m hT332254 htq277512 (by decide)
                                refine G_lload 0 dr_cX17_graph_338 rfl ?_
                                refine G_lconst 0 dr_cX17_graph_340 rfl ?_
                                refine G_lcmp dr_cX17_graph_341 (G_nam fun z332265 hz332265 => ?_)
                                have bz332265 : gB z332265 (-1) 1 := gB_cmp hz332265
                                refine G_if_eq 377 dr_cX17_graph_342 (by decide +kernel) (fun hc332266 => ?_) (fun hc332266 => ?_)
                                · have r332267 : z332265.toInt = 0 := gj_eq hc332266 (show Int32.toInt 0 = 0 by decide)
                                  have bz332265' : gB z332265 0 0 := ⟨by omega, by omega⟩
                                  have lhc332266 := gC_cmpE hz332265 hc332266
                                  have hx332268 : tl_RModel_graph_338 D I γ el P277510 F277511 g332167 p277514 q277513 q277512 g332004 F332168 u332195 377 F332253 := kt338_332259 377 F332253 (fun R c1 c2 => c1 F332253 gl332252 hT332254 hs332255 x332256 x332257 x332258 lhc332266)
                                  obtain ⟨z332269, hz332269⟩ : ∃ z : Int32, z = g332167 + Int32.ofInt 1 := ⟨_, rfl⟩
                                  have ez332269 : z332269.toInt = g332167.toInt + 1 := gI_inc hz332269 (by decide) bg332167' (by decide) (by decide)
                                  have bz332269 : gB z332269 1 32 := ⟨by omega, by omega⟩
                                  refine G_iinc (L' := [(4, .int z332269), (5, .long gl332252), (3, .int g332004), (0, .ref q277512), (1, .ref q277513), (2, .int p277514)]) z332269 1 dr_cX17_graph_377 rfl hz332269.symm (Nat.le_of_ble_eq_true rfl) rfl ?_
                                  refine G_goto 320 dr_cX17_graph_380 (by decide +kernel) ?_
                                  refine G_lv (L' := [(4, .int z332269), (3, .int g332004), (0, .ref q277512), (1, .ref q277513), (2, .int p277514)]) [0, 2, 3, 4, 5] rfl ?_
                                  exact ih320_332172 F332253 z332269 (gB_w bz332269 (by decide) (by decide)) hT332254 hs332255 x332257 x332258 (fun k e1 ht => kt320_332173 k e1 (fun R c1 c2 => c2 F332168 g332167 q332189 f332194 u332195 F332253 z332269 k e1 bg332167 hT332169 hs332170 x332171 x332172 r332183 fq332184 hx332191 he332193 hu332195 hx332268 ez332269 (ht R c1 c2))) (mz_up ez332269 (Int.le_trans bg332167'.2 (by decide)) hm320_332172)
                                · have r332270 : z332265.toInt ≠ 0 := gj_neq hc332266 (show Int32.toInt 0 = 0 by decide)
                                  have lhc332266 := gC_cmpN hz332265 hc332266
                                  refine G_aload_n 3 dr_cX17_graph_345 rfl ?_
                                  have fq332271 : fR (F332253 q277512) 1 = (γ 9 1) := by rw [he332263]; rfl
                                  refine Gp_get 1 hm332264 he332263 dr_cX17_graph_346 (gk_X17 D I) (Nat.le_of_ble_eq_true rfl) wr_7_75 rfl ?_
                                  refine G_bipush 64 dr_cX17_graph_349 (by decide +kernel) ?_
                                  refine G_iload 1 dr_cX17_graph_351 rfl ?_
                                  refine G_imul dr_cX17_graph_353 (G_nam fun z332272 hz332272 => ?_)
                                  have ez332272 : z332272.toInt = 64 * g332167.toInt := by rw [gI_mul hz332272 (gBl (show Int32.toInt 64 = 64 by decide)) bg332167' (by decide) (by decide) (by decide), show Int32.toInt 64 = 64 from by decide]
                                  have bz332272 : gB z332272 0 1984 := gB_mul hz332272 (gBl (show Int32.toInt 64 = 64 by decide)) bg332167' (by decide) (by decide) (by decide) (by decide)
                                  refine G_lload 0 dr_cX17_graph_354 rfl ?_
                                  refine Gw_callS (As := [.long gl332252]) (gV_ok D I) (nzc_Long_numberOfTrailingZeros l hl0 D I P277510 F332253 gl332252) dr_cX17_graph_356 ⟨wr_11_1, wr_1_31, wr_11_3, by decide, rfl, (Nat.le_of_ble_eq_true rfl), (Nat.le_of_ble_eq_true rfl)⟩ wr_11_2 (show 0 + 0 ≤ 0 by first | omega | decide) (show 0 + 0 ≤ 0 by first | omega | decide) (Nat.le_of_ble_eq_true rfl) (fun r332276 w332277 dc332273 ds332274 hp332275 => ?_) (fun _ _ _ _ _ z => z.elim)
                                  obtain ⟨o332280, rfl, rfl, hdc, hds, hO332278⟩ := hp332275
                                  have hO332278 := hO332278 lhc332266
                                  have bo332280 : gB o332280 0 63 := ⟨hO332278.1, hO332278.2.1⟩
                                  have r332279 : o332280.toInt < 2000 - 64 * g332167.toInt := lb_Qlt x332256 hO332278.1 hO332278.2.2.1
                                  change G _ _ _ _ _ _ _ (.int o332280 :: _) _ _ _
                                  refine G_widen (cs' := 0) (sl' := 0) (by omega) (by omega) ?_
                                  refine G_iadd dr_cX17_graph_359 (G_nam fun z332281 hz332281 => ?_)
                                  have ez332281 : z332281.toInt = z332272.toInt + o332280.toInt := by rw [gI_add hz332281 bz332272 bo332280 (by decide) (by decide)]
                                  have bz332281 : gB z332281 0 2047 := gB_add (gI_add hz332281 bz332272 bo332280 (by decide) (by decide)) bz332272 bo332280 (by decide) (by decide)
                                  have hm332282 : (γ 9 1) ∈ P277510 := RS_m hT332254 ht277539 (by decide)
                                  obtain ⟨f332284, he332283, hg332285⟩ := show rk_13 I γ (F332253 (γ 9 1)) from RS_o hT332254 ht277539
                                  obtain ⟨q332286, hx332288⟩ : ∃ x, x = γ 11 z332281.toInt.toNat := ⟨_, rfl⟩
                                  have ht332287 : rKd γ q332286 36 := by rw [hx332288]; exact (hg332285 _ (show z332281.toInt.toNat < 2000 by omega)).2.1
                                  refine Gp_aald 5 hm332282 he332283 dr_cX17_graph_360 rfl rfl (gB_inr (by omega) (by omega)) ?_
                                  rw [show f332284 z332281.toNatClampNeg = some q332286 from (hg332285 _ (show z332281.toInt.toNat < 2000 by omega)).1.trans (by rw [hx332288])]
                                  change G _ _ _ _ _ _ _ (.ref q332286 :: _) _ _ _
                                  refine G_iload_n 2 dr_cX17_graph_361 rfl ?_
                                  have hm332289 : q332286 ∈ P277510 := RS_m hT332254 ht332287 (by decide)
                                  obtain ⟨f332291, he332290, wf332291⟩ := show rk_36 I (F332253 q332286) from RS_o hT332254 ht332287
                                  refine Gw_callS (As := [.ref q332286, .int g332004]) (gV_ok D I) (cp_1860_SpillForgeModel_set l hl0 D I P277510 F332253 q332286 g332004 f332291 hm332289 he332290 bg332004' wf332291) dr_cX17_graph_362 ⟨wr_10_189, wr_1_14, wr_10_191, by decide, rfl, (Nat.le_of_ble_eq_true rfl), (Nat.le_of_ble_eq_true rfl)⟩ wr_10_190 (show 0 + 0 ≤ 0 by first | omega | decide) (show 0 + 0 ≤ 0 by first | omega | decide) (Nat.le_of_ble_eq_true rfl) (fun r332295 w332296 dc332292 ds332293 hp332294 => ?_) (fun _ _ _ _ _ z => z.elim)
                                  obtain ⟨F332300, f332297, rfl, rfl, hfr332302, he332303, hdc, hds, x332298, ht332299⟩ := hp332294
                                  have he332304 : F332300 q277513 = .inr (18, [.ref q331672, .ref q331673, .int p331674, .int p331675]) := (hfr332302 q277513 hm331670 (nm_c (rn_oa he332261 he332290) nm_n)).trans he332261
                                  have he332305 : F332300 q277512 = .inr (22, [.ref (γ 9 0), .ref (γ 9 1), .ref (γ 9 2), .ref (γ 9 3), .ref (γ 9 4), .ref (γ 9 5), .ref (γ 9 6), .ref (γ 9 7), .ref (γ 9 8), .int p277521, .int p277522, .int p277523, .int p277524, .int p277525, .int p277526, .ref (γ 9 15), .ref (γ 9 16), .ref (γ 9 17), .ref (γ 9 18), .ref (γ 9 19), .ref (γ 9 20), .ref (γ 9 21), .ref (γ 9 22), .int p277527, .int p277528, .int p277529, .int p277530, .int p277531, .ref q277519, .ref (γ 9 29), .int p277532, .ref (γ 9 31), .int p277533, .int p277534, .int p277535, .ref q277520]) := (hfr332302 q277512 hm332264 (nm_c (rn_oa he332263 he332290) nm_n)).trans he332263
                                  have he332306 : F332300 (γ 9 1) = .inl (I (.array .long), 2000, .inr (.inr (.inr (.inr f332284)))) := (hfr332302 (γ 9 1) hm332282 (nm_c (rn_ref_long he332283 he332290) nm_n)).trans he332283
                                  have hfr332307 : rFr [q332286] P277510 F332253 F332300 := rFr_call (rSub_rf (P := P277510)) (rFr_rf (W := []) (P := P277510) (F := F332253)) hfr332302 (fun b hb hn => ⟨nm_n, (nm_c (fun e => hn (e ▸ List.mem_cons_self)) nm_n)⟩)
                                  change G _ _ _ _ _ _ _ _ _ _ _
                                  refine G_widen (cs' := 0) (sl' := 0) (by omega) (by omega) ?_
                                  have hT332308 : RS D I P277510 F332300 γ el := RS_fr hT332254 hfr332307 ht332287 (by decide) ⟨f332297, he332303, x332298⟩
                                  have hs332309 : rStr γ [] F277511 F332300 := rStr_fr hT332254 hs332255 hfr332307 ht332287 (by decide)
                                  have kp332310 : F332300 q277512 = F277511 q277512 := (hfr332307 q277512 (RS_m hT332254 htq277512 (by decide)) (nm_c (rn_ty htq277512 ht332287 (by decide)) nm_n)).trans x332258
                                  have kp332311 : F332300 (γ 9 3) = F332253 (γ 9 3) := hfr332307 (γ 9 3) (RS_m hT332254 ht277541 (by decide)) (nm_c (rn_ty ht277541 ht332287 (by decide)) nm_n)
                                  refine G_lload 0 dr_cX17_graph_365 rfl ?_
                                  refine G_lload 0 dr_cX17_graph_367 rfl ?_
                                  refine G_lconst 1 dr_cX17_graph_369 rfl ?_
                                  refine G_lsub dr_cX17_graph_370 (G_namL fun u332312 hu332312 => ?_)
                                  refine G_land dr_cX17_graph_371 (G_namL fun u332313 hu332313 => ?_)
                                  refine G_lstore (L' := [(5, .long u332313), (4, .int g332167), (3, .int g332004), (0, .ref q277512), (1, .ref q277513), (2, .int p277514)]) dr_cX17_graph_372 (Nat.le_of_ble_eq_true rfl) rfl ?_
                                  refine G_goto 338 dr_cX17_graph_374 (by decide +kernel) ?_
                                  exact ih338_332258 F332300 u332313 hT332308 hs332309 (lb_QandL hu332313 x332256) (by rw [kp332311]; exact x332257) kp332310 (fun k e1 ht => kt338_332259 k e1 (fun R c1 c2 => c2 F332253 gl332252 z332272 o332280 z332281 q332286 f332291 f332297 F332300 u332312 u332313 k e1 hT332254 hs332255 x332256 x332257 x332258 lhc332266 fq332271 ez332272 hO332278 ez332281 hx332288 he332290 ht332299 hfr332307 he332303 hT332308 hu332312 hu332313 (ht R c1 c2))) (by have q := rpop_low lhc332266 hu332312 hu332313; omega)
                            exact hlp338_332258 ((rpop u332195) + 1) F332168 u332195 hT332169 hs332170 qu332195 x332171 x332172 (fun k e1 ht => ht) (Nat.lt_succ_self _)
                      exact hlp320_332172 (((33 : Int) - 0).toNat + 1) F332005 0 (gB_w (gBl (show Int32.toInt 0 = 0 by decide)) (by decide) (by decide)) hT332006 hs332007 x332008 x332009 (fun k e1 ht => ht) (Nat.lt_succ_self _)
                    · have r332314 : z332024.toInt = 0 := gj_eq hc332025 (show Int32.toInt 0 = 0 by decide)
                      have bz332024' : gB z332024 0 0 := gB_t0 r332314
                      refine G_goto 383 dr_cX17_graph_314 (by decide +kernel) ?_
                      obtain ⟨z332315, hz332315⟩ : ∃ z : Int32, z = g332004 + Int32.ofInt 1 := ⟨_, rfl⟩
                      have ez332315 : z332315.toInt = g332004.toInt + 1 := gI_inc hz332315 (by decide) bg332004' (by decide) (by decide)
                      have bz332315 : gB z332315 1 2000 := ⟨by omega, by omega⟩
                      refine G_iinc (L' := [(3, .int z332315), (0, .ref q277512), (1, .ref q277513), (2, .int p277514)]) z332315 0 dr_cX17_graph_383 rfl hz332315.symm (Nat.le_of_ble_eq_true rfl) rfl ?_
                      refine G_goto 298 dr_cX17_graph_386 (by decide +kernel) ?_
                      exact ih298_332009 F332005 z332315 (gB_w bz332315 (by decide) (by decide)) hT332006 hs332007 x332008 x332009 (fun k e1 ht => kt298_332010 k e1 (fun R c1 c2 c3 => c3 F332005 g332004 f332023 z332024 z332315 k e1 bg332004 hT332006 hs332007 x332008 x332009 r332019 fq332020 he332022 hz332024 bz332024 r332314 ez332315 (ht R c1 c2 c3))) (mz_up ez332315 (Int.le_trans bg332004'.2 (by decide)) hm298_332009)
              exact hlp298_332009 (((2001 : Int) - 0).toNat + 1) F331660 0 (gB_w (gBl (show Int32.toInt 0 = 0 by decide)) (by decide) (by decide)) hT331661 hs331662 (fun h0 => by have z := x331663 h0; exact gq_al z (by omega)) x331664 (fun k e1 ht => ht) (Nat.lt_succ_self _)
            · have r332316 : g331659.toInt < p331675.toInt := gC_nle hc331698
              have bg331659' : gB g331659 0 999999 := ⟨by omega, by omega⟩
              have bp331675' : gB p331675 1 1000000 := ⟨by omega, by omega⟩
              refine G_aload_n 2 dr_cX17_graph_64 rfl ?_
              refine G_iload_n 0 dr_cX17_graph_65 rfl ?_
              have hm332317 : q331672 ∈ P277510 := RS_m hT331661 ht331676 (by decide)
              obtain ⟨⟨p332319, p332320, q332321, he332318, r332322, r332323, r332324, r332326⟩, r332325⟩ := show rk_4 D I γ el F331660 q331672 from RS_o hT331661 ht331676
              have bp332319 := gB_any p332319
              have bp332320 : gB p332320 0 1000000 := ⟨by omega, by omega⟩
              obtain ⟨r332327, r332328, n332335, f332336, r332329, r332330, r332331, r332332, r332333, r332334⟩ := rLC_n r332324 (by omega)
              have hm332337 : q332321 ∈ P277510 := RS_m hT331661 r332327 (by decide)
              obtain ⟨q332338, hx332339⟩ : ∃ x, x = el q331672 g331659.toInt.toNat := ⟨_, rfl⟩
              have fq332343 : fR (F331660 q277513) 0 = q331672 := by rw [he331671]; rfl
              have hx332340 : f332336 g331659.toNatClampNeg = some q332338 := (r332333 _ (show g331659.toInt.toNat < γ 2 q331672 by omega)).trans (by rw [hx332339])
              have ht332344 : rKd γ q332338 2 := by rw [hx332339]; exact (r331687 _ (by omega)).resolve_right (fun z => absurd z.1 (by omega))
              have ht332345 : rFm γ q332338 q331672 := by rw [hx332339]; exact (r332325 _ (show g331659.toInt.toNat < γ 2 q331672 by omega)).2.1
              have hm332346 : q332338 ∈ P277510 := RS_m hT331661 ht332344 (by decide)
              obtain ⟨q332348, q332349, p332350, p332351, he332347, ht332358, ht332352, ht332353, ht332354, ht332355, ht332356, bp332350, bp332351, r332357, r332359, r332360⟩ := show rk_2 γ q332338 (F331660 q332338) from RS_o hT331661 ht332344
              have fq332361 : fI (F331660 q331672) 2 = p332320 := by rw [he332318]; rfl
              refine Gw_callV (As := [.int g331659]) (gV_ok D I) (cp_7901_Code_get l hl0 D I P277510 F331660 q277513 q331672 q332321 g331659 q331673 p331674 p331675 p332319 p332320 f332336 n332335 q332338 q332348 q332349 p332350 p332351 hm331670 hm332317 hm332337 hm332346 he331671 he332318 r332329 he332347 (gB_w bg331659' (by decide) (by decide)) (gB_w bp332320 (by decide) (by decide)) (by omega) (by omega) (by assumption) (by omega)) dr_cX17_graph_66 ⟨wr_10_161, wr_1_15, wr_10_141, by decide, rfl, (Nat.le_of_ble_eq_true rfl), (Nat.le_of_ble_eq_true rfl)⟩ wr_10_139 wr_10_140 hm331670 he331671 rfl (show 0 + 0 ≤ 0 by first | omega | decide) (show 0 + 0 ≤ 0 by first | omega | decide) (Nat.le_of_ble_eq_true rfl) (fun r332365 w332366 dc332362 ds332363 hp332364 => ?_) (fun _ _ _ _ _ z => z.elim)
              obtain ⟨rfl, rfl, hdc, hds, ht332367⟩ := hp332364
              change G _ _ _ _ _ _ _ (.ref q332338 :: _) _ _ _
              refine G_widen (cs' := 0) (sl' := 0) (by omega) (by omega) ?_
              have hb332368 : el (γ 14 q277513) (g331659.toInt : Int).toNat = q332338 := by rw [ht331691.1, hx332339]
              refine G_astore (L' := [(4, .ref q332338), (3, .int g331659), (0, .ref q277512), (1, .ref q277513), (2, .int p277514)]) dr_cX17_graph_69 (Nat.le_of_ble_eq_true rfl) rfl ?_
              refine G_aload_n 2 dr_cX17_graph_71 rfl ?_
              refine G_aload 0 dr_cX17_graph_72 rfl ?_
              refine Gw_callV (As := [.ref q332338]) (gV_ok D I) (ct_281295_SpillForgeModel_behind l hl0 D I γ el P277510 F331660 q277512 q332338 hT331661 htq277512 ht332344) dr_cX17_graph_74 ⟨wr_10_162, wr_1_14, wr_10_165, by decide, rfl, (Nat.le_of_ble_eq_true rfl), (Nat.le_of_ble_eq_true rfl)⟩ wr_10_164 wr_p_95 hm331669 he331668 rfl (show 0 + 0 ≤ 0 by first | omega | decide) (show 0 + 0 ≤ 0 by first | omega | decide) (Nat.le_of_ble_eq_true rfl) (fun r332372 w332373 dc332369 ds332370 hp332371 => ?_) (fun _ _ _ _ _ z => z.elim)
              obtain ⟨F332377, rfl, rfl, hT332378, hs332379, hdc, hds, x332374, x332375, ht332376⟩ := hp332371
              have he332380 : F332377 q277513 = .inr (18, [.ref q331672, .ref q331673, .int p331674, .int p331675]) := (hs332379 q277513 (rT0 htq277513 (by decide)) (rT1 htq277513 (by decide)) (rT2 htq277513 (by decide))).trans he331671
              have he332381 : F332377 q331672 = .inr (4, [.int p332319, .ref q332321, .int p332320]) := (hs332379 q331672 (rT0 ht331676 (by decide)) (rT1 ht331676 (by decide)) (rT2 ht331676 (by decide))).trans he332318
              have he332382 : F332377 q332321 = .inl (I (.object "java/lang/Object"), n332335, .inr (.inr (.inr (.inr f332336)))) := (hs332379 q332321 (rT0 r332327 (by decide)) (rT1 r332327 (by decide)) (rT2 r332327 (by decide))).trans r332329
              have he332383 : F332377 q332338 = .inr (17, [.ref q332348, .ref q332349, .int p332350, .int p332351]) := (hs332379 q332338 (rT0 ht332344 (by decide)) (rT1 ht332344 (by decide)) (rT2 ht332344 (by decide))).trans he332347
              have hs332384 : rStr γ [] F277511 F332377 := rStr_tr hs331662 hs332379
              have kp332385 : F332377 q277512 = F277511 q277512 := (x332374).trans x331664
              have kp332386 : F332377 (γ 9 3) = F331660 (γ 9 3) := x332375
              have he332387 : F332377 q277512 = .inr (22, [.ref (γ 9 0), .ref (γ 9 1), .ref (γ 9 2), .ref (γ 9 3), .ref (γ 9 4), .ref (γ 9 5), .ref (γ 9 6), .ref (γ 9 7), .ref (γ 9 8), .int p277521, .int p277522, .int p277523, .int p277524, .int p277525, .int p277526, .ref (γ 9 15), .ref (γ 9 16), .ref (γ 9 17), .ref (γ 9 18), .ref (γ 9 19), .ref (γ 9 20), .ref (γ 9 21), .ref (γ 9 22), .int p277527, .int p277528, .int p277529, .int p277530, .int p277531, .ref q277519, .ref (γ 9 29), .int p277532, .ref (γ 9 31), .int p277533, .int p277534, .int p277535, .ref q277520]) := (x332374).trans he331668
              change G _ _ _ _ _ _ _ _ _ _ _
              refine G_widen (cs' := 0) (sl' := 0) (by omega) (by omega) ?_
              refine G_aload_n 2 dr_cX17_graph_77 rfl ?_
              refine G_aload 0 dr_cX17_graph_78 rfl ?_
              have fq332388 : fR (F332377 q332338) 1 = q332349 := by rw [he332383]; rfl
              refine Gp_get 1 hm332346 he332383 dr_cX17_graph_80 (gk_X12 D I) (Nat.le_of_ble_eq_true rfl) wr_9_223 rfl ?_
              refine G_iload_n 4 dr_cX17_graph_83 rfl ?_
              refine Gw_callV (As := [.ref q332349, .int p277514]) (gV_ok D I) (ct_284044_SpillForgeModel_stand l hl0 D I γ el P277510 F332377 q277512 q332349 p277514 hT332378 htq277512 ht332354 bp277514) dr_cX17_graph_84 ⟨wr_10_237, wr_1_14, wr_11_0, by decide, rfl, (Nat.le_of_ble_eq_true rfl), (Nat.le_of_ble_eq_true rfl)⟩ wr_10_239 wr_p_100 hm331669 he332387 rfl (show 0 + 0 ≤ 0 by first | omega | decide) (show 0 + 0 ≤ 0 by first | omega | decide) (Nat.le_of_ble_eq_true rfl) (fun r332392 w332393 dc332389 ds332390 hp332391 => ?_) (fun _ _ _ _ _ z => z.elim)
              obtain ⟨F332397, rfl, rfl, hT332398, hs332399, hdc, hds, x332394, x332395, ht332396⟩ := hp332391
              have he332400 : F332397 q277513 = .inr (18, [.ref q331672, .ref q331673, .int p331674, .int p331675]) := (hs332399 q277513 (rT0 htq277513 (by decide)) (rT1 htq277513 (by decide)) (rT2 htq277513 (by decide))).trans he332380
              have he332401 : F332397 q331672 = .inr (4, [.int p332319, .ref q332321, .int p332320]) := (hs332399 q331672 (rT0 ht331676 (by decide)) (rT1 ht331676 (by decide)) (rT2 ht331676 (by decide))).trans he332381
              have he332402 : F332397 q332321 = .inl (I (.object "java/lang/Object"), n332335, .inr (.inr (.inr (.inr f332336)))) := (hs332399 q332321 (rT0 r332327 (by decide)) (rT1 r332327 (by decide)) (rT2 r332327 (by decide))).trans he332382
              have he332403 : F332397 q332338 = .inr (17, [.ref q332348, .ref q332349, .int p332350, .int p332351]) := (hs332399 q332338 (rT0 ht332344 (by decide)) (rT1 ht332344 (by decide)) (rT2 ht332344 (by decide))).trans he332383
              have hs332404 : rStr γ [] F277511 F332397 := rStr_tr hs332384 hs332399
              have kp332405 : F332397 q277512 = F277511 q277512 := (x332395).trans kp332385
              have he332406 : F332397 q277512 = .inr (22, [.ref (γ 9 0), .ref (γ 9 1), .ref (γ 9 2), .ref (γ 9 3), .ref (γ 9 4), .ref (γ 9 5), .ref (γ 9 6), .ref (γ 9 7), .ref (γ 9 8), .int p277521, .int p277522, .int p277523, .int p277524, .int p277525, .int p277526, .ref (γ 9 15), .ref (γ 9 16), .ref (γ 9 17), .ref (γ 9 18), .ref (γ 9 19), .ref (γ 9 20), .ref (γ 9 21), .ref (γ 9 22), .int p277527, .int p277528, .int p277529, .int p277530, .int p277531, .ref q277519, .ref (γ 9 29), .int p277532, .ref (γ 9 31), .int p277533, .int p277534, .int p277535, .ref q277520]) := (x332395).trans he332387
              change G _ _ _ _ _ _ _ _ _ _ _
              refine G_widen (cs' := 0) (sl' := 0) (by omega) (by omega) ?_
              have hb332407 : el (γ 14 q277513) (g331659.toInt : Int).toNat = q332338 := hb332368
              have hL332408 : rwL γ el q277513 (g331659.toInt : Int).toNat = q332348 := by unfold rwL; rw [hb332407]; exact ht332358.1
              have hs332409 : F332377 q332349 = F277511 q332349 := hs332384 q332349 (rT0 ht332354 (by decide)) (rT1 ht332354 (by decide)) (rT2 ht332354 (by decide))
              have gr332410 : gIp (p277514.toInt = 0) (rGr γ el F277511 q277513 (γ 6 (γ 1 q277513)) (cB (F332397 (γ 9 3))) (vB (g331659.toInt : Int).toNat (γ 2 q332348))) := fun h0 => gq_end (x331663 h0) (fun m => by have z := x332394 h0 m; rw [kp332386, hs332409] at z; exact z) ((rAt_e hb332407 ht332358.1 (Nat.le_refl _)).trans ht332358.2.1) (show (g331659.toInt : Int).toNat < γ 6 (γ 1 q277513) by omega) (by rw [hL332408])
              refine G_aload_n 2 dr_cX17_graph_87 rfl ?_
              refine G_aload 0 dr_cX17_graph_88 rfl ?_
              have fq332411 : fR (F332397 q332338) 1 = q332349 := by rw [he332403]; rfl
              refine Gp_get 1 hm332346 he332403 dr_cX17_graph_90 (gk_X12 D I) (Nat.le_of_ble_eq_true rfl) wr_9_223 rfl ?_
              refine G_iload_n 4 dr_cX17_graph_93 rfl ?_
              refine Gw_callV (As := [.ref q332349, .int p277514]) (gV_ok D I) (ct_284347_SpillForgeModel_back l hl0 D I γ el P277510 F332397 q277512 q332349 p277514 hT332398 htq277512 ht332354 bp277514) dr_cX17_graph_94 ⟨wr_10_174, wr_1_14, wr_10_177, by decide, rfl, (Nat.le_of_ble_eq_true rfl), (Nat.le_of_ble_eq_true rfl)⟩ wr_10_176 wr_p_96 hm331669 he332406 rfl (show 0 + 0 ≤ 0 by first | omega | decide) (show 0 + 0 ≤ 0 by first | omega | decide) (Nat.le_of_ble_eq_true rfl) (fun r332415 w332416 dc332412 ds332413 hp332414 => ?_) (fun _ _ _ _ _ z => z.elim)
              obtain ⟨F332420, rfl, rfl, hT332421, hs332422, hdc, hds, x332417, x332418, ht332419⟩ := hp332414
              have he332423 : F332420 q277513 = .inr (18, [.ref q331672, .ref q331673, .int p331674, .int p331675]) := (hs332422 q277513 (rT0 htq277513 (by decide)) (rT1 htq277513 (by decide)) (rT2 htq277513 (by decide))).trans he332400
              have he332424 : F332420 q331672 = .inr (4, [.int p332319, .ref q332321, .int p332320]) := (hs332422 q331672 (rT0 ht331676 (by decide)) (rT1 ht331676 (by decide)) (rT2 ht331676 (by decide))).trans he332401
              have he332425 : F332420 q332321 = .inl (I (.object "java/lang/Object"), n332335, .inr (.inr (.inr (.inr f332336)))) := (hs332422 q332321 (rT0 r332327 (by decide)) (rT1 r332327 (by decide)) (rT2 r332327 (by decide))).trans he332402
              have he332426 : F332420 q332338 = .inr (17, [.ref q332348, .ref q332349, .int p332350, .int p332351]) := (hs332422 q332338 (rT0 ht332344 (by decide)) (rT1 ht332344 (by decide)) (rT2 ht332344 (by decide))).trans he332403
              have hs332427 : rStr γ [] F277511 F332420 := rStr_tr hs332404 hs332422
              have kp332428 : F332420 q277512 = F277511 q277512 := (x332417).trans kp332405
              have kp332429 : F332420 (γ 9 3) = F332397 (γ 9 3) := x332418
              have he332430 : F332420 q277512 = .inr (22, [.ref (γ 9 0), .ref (γ 9 1), .ref (γ 9 2), .ref (γ 9 3), .ref (γ 9 4), .ref (γ 9 5), .ref (γ 9 6), .ref (γ 9 7), .ref (γ 9 8), .int p277521, .int p277522, .int p277523, .int p277524, .int p277525, .int p277526, .ref (γ 9 15), .ref (γ 9 16), .ref (γ 9 17), .ref (γ 9 18), .ref (γ 9 19), .ref (γ 9 20), .ref (γ 9 21), .ref (γ 9 22), .int p277527, .int p277528, .int p277529, .int p277530, .int p277531, .ref q277519, .ref (γ 9 29), .int p277532, .ref (γ 9 31), .int p277533, .int p277534, .int p277535, .ref q277520]) := (x332417).trans he332406
              change G _ _ _ _ _ _ _ _ _ _ _
              refine G_widen (cs' := 0) (sl' := 0) (by omega) (by omega) ?_
              refine G_aload 0 dr_cX17_graph_97 rfl ?_
              have fq332431 : fR (F332420 q332338) 0 = q332348 := by rw [he332426]; rfl
              refine Gp_get 0 hm332346 he332426 dr_cX17_graph_99 (gk_X12 D I) (Nat.le_of_ble_eq_true rfl) wr_9_220 rfl ?_
              have fl332432 : γ 2 (γ 14 q332338) = γ 2 q332348 := by rw [ht332358.1]
              have hm332433 : q332348 ∈ P277510 := RS_m hT332421 ht332352 (by decide)
              obtain ⟨⟨p332435, p332436, q332437, he332434, r332438, r332439, r332440, r332442⟩, r332441⟩ := show rk_3 D I γ el F332420 q332348 from RS_o hT332421 ht332352
              have bp332435 := gB_any p332435
              have bp332436 : gB p332436 0 1000000 := ⟨by omega, by omega⟩
              have fq332443 : p332436.toInt = (γ 2 q332348 : Int) := by omega
              have fq332444 : fI (F332420 q332348) 2 = p332436 := by rw [he332434]; rfl
              refine Gw_callV (As := []) (gV_ok D I) (cp_7_ArrayList_size l hl0 D I P277510 F332420 q332348 p332435 q332437 p332436 hm332433 he332434 (gB_w bp332436 (by decide) (by decide))) dr_cX17_graph_102 ⟨wr_10_200, wr_1_18, wr_9_160, by decide, rfl, (Nat.le_of_ble_eq_true rfl), (Nat.le_of_ble_eq_true rfl)⟩ wr_9_158 wr_9_159 hm332433 he332434 rfl (show 0 + 0 ≤ 0 by first | omega | decide) (show 0 + 0 ≤ 0 by first | omega | decide) (Nat.le_of_ble_eq_true rfl) (fun r332448 w332449 dc332445 ds332446 hp332447 => ?_) (fun _ _ _ _ _ z => z.elim)
              obtain ⟨rfl, rfl, hdc, hds⟩ := hp332447
              change G _ _ _ _ _ _ _ (.int p332436 :: _) _ _ _
              refine G_widen (cs' := 0) (sl' := 0) (by omega) (by omega) ?_
              refine G_iconst 1 dr_cX17_graph_105 (by decide +kernel) ?_
              refine G_isub dr_cX17_graph_106 (G_nam fun z332450 hz332450 => ?_)
              have ez332450 : z332450.toInt = p332436.toInt - 1 := by rw [gI_sub hz332450 bp332436 (gBl (show Int32.toInt 1 = 1 by decide)) (by decide) (by decide), show Int32.toInt 1 = 1 from by decide]
              have bz332450 : gB z332450 (-1) 999999 := gB_sub (gI_sub hz332450 bp332436 (gBl (show Int32.toInt 1 = 1 by decide)) (by decide) (by decide)) bp332436 (gBl (show Int32.toInt 1 = 1 by decide)) (by decide) (by decide)
              refine G_istore (L' := [(5, .int z332450), (4, .ref q332338), (3, .int g331659), (0, .ref q277512), (1, .ref q277513), (2, .int p277514)]) dr_cX17_graph_107 (Nat.le_of_ble_eq_true rfl) rfl ?_
              have hlp109_334138 : ∀ (n109_334138 : Nat) (F334133 : Nat → va_E) (g334132 : Int32), gB g334132 (-1) 999999 → RS D I P277510 F334133 γ el → rStr γ [] F277511 F334133 → ((g334132.toInt : Int) < γ 2 (γ 14 q332338)) → (gIp (p277514.toInt = 0) (rGr γ el F277511 q277513 (γ 6 (γ 1 q277513)) (cB (F334133 (γ 9 3))) (vB (g331659.toInt : Int).toNat (g334132.toInt + 1 : Int).toNat))) → (F334133 q277512 = F277511 q277512) → (∀ (k : Nat) (e1 : Nat → va_E), tl_RModel_graph_109 D I γ el P277510 F277511 q332338 p277514 q277513 g331659 q277512 F334133 g334132 k e1 → tl_RModel_graph_109 D I γ el P277510 F277511 q332338 p277514 q277513 g331659 q277512 F332420 z332450 k e1) → ((g334132.toInt : Int) - (-2)).toNat < n109_334138 → G (gV D I) l (gRm 5 111 0 0) (gMA (gV D I) (pt_277516_SpillForgeModel_graph D I γ el P277510 F277511 q277512 q277513 p277514) gNA 0 0) ky_277516_SpillForgeModel_graph 109 [(5, .int g334132), (4, .ref q332338), (3, .int g331659), (0, .ref q277512), (1, .ref q277513), (2, .int p277514)] [] (va_pl P277510 F334133) 0 0 := by
                intro n109_334138
                induction n109_334138 with
                | zero => intro F334133 g334132 bg334132 hT334134 hs334135 x334136 x334137 x334138 kt109_334139 hm109_334138; exact absurd hm109_334138 (Nat.not_lt_zero _)
                | succ n109_334138 ih109_334138 =>
                  intro F334133 g334132 bg334132 hT334134 hs334135 x334136 x334137 x334138 kt109_334139 hm109_334138
                  have hs334140 : rStr γ [] F332420 F334133 := fun b h0 hb hw => (hs334135 b h0 hb hw).trans (hs332427 b h0 hb hw).symm
                  have he334141 : F334133 q277513 = .inr (18, [.ref q331672, .ref q331673, .int p331674, .int p331675]) := (hs334140 q277513 (rT0 htq277513 (by decide)) (rT1 htq277513 (by decide)) (rT2 htq277513 (by decide))).trans he332423
                  have he334142 : F334133 q331672 = .inr (4, [.int p332319, .ref q332321, .int p332320]) := (hs334140 q331672 (rT0 ht331676 (by decide)) (rT1 ht331676 (by decide)) (rT2 ht331676 (by decide))).trans he332424
                  have he334143 : F334133 q332321 = .inl (I (.object "java/lang/Object"), n332335, .inr (.inr (.inr (.inr f332336)))) := (hs334140 q332321 (rT0 r332327 (by decide)) (rT1 r332327 (by decide)) (rT2 r332327 (by decide))).trans he332425
                  have he334144 : F334133 q332338 = .inr (17, [.ref q332348, .ref q332349, .int p332350, .int p332351]) := (hs334140 q332338 (rT0 ht332344 (by decide)) (rT1 ht332344 (by decide)) (rT2 ht332344 (by decide))).trans he332426
                  have he334145 : F334133 q332348 = .inr (4, [.int p332435, .ref q332437, .int p332436]) := (hs334140 q332348 (rT0 ht332352 (by decide)) (rT1 ht332352 (by decide)) (rT2 ht332352 (by decide))).trans he332434
                  have hs334146 : rStr γ [] F277511 F334133 := rStr_tr hs332427 hs334140
                  have he334147 : F334133 q277512 = .inr (22, [.ref (γ 9 0), .ref (γ 9 1), .ref (γ 9 2), .ref (γ 9 3), .ref (γ 9 4), .ref (γ 9 5), .ref (γ 9 6), .ref (γ 9 7), .ref (γ 9 8), .int p277521, .int p277522, .int p277523, .int p277524, .int p277525, .int p277526, .ref (γ 9 15), .ref (γ 9 16), .ref (γ 9 17), .ref (γ 9 18), .ref (γ 9 19), .ref (γ 9 20), .ref (γ 9 21), .ref (γ 9 22), .int p277527, .int p277528, .int p277529, .int p277530, .int p277531, .ref q277519, .ref (γ 9 29), .int p277532, .ref (γ 9 31), .int p277533, .int p277534, .int p277535, .ref q277520]) := x334138.trans he277518
                  have hm334148 : q277512 ∈ P277510 := RS_m hT334134 htq277512 (by decide)
                  refine G_iload 0 dr_cX17_graph_109 rfl ?_
                  refine G_if_lt 290 dr_cX17_graph_111 (by decide +kernel) (fun hc334149 => ?_) (fun hc334149 => ?_)
                  · have r334150 : g334132.toInt < 0 := gj_lt hc334149 (show Int32.toInt 0 = 0 by decide)
                    have bg334132' : gB g334132 (-1) (-1) := ⟨by omega, by omega⟩
                    have hx334151 : tl_RModel_graph_109 D I γ el P277510 F277511 q332338 p277514 q277513 g331659 q277512 F332420 z332450 290 F334133 := kt109_334139 290 F334133 (fun R c1 c2 c3 c4 c5 c6 c7 c8 c9 c10 c11 => c1 F334133 g334132 bg334132 hT334134 hs334135 x334136 x334137 x334138 r334150)
                    obtain ⟨z334152, hz334152⟩ : ∃ z : Int32, z = g331659 + Int32.ofInt 1 := ⟨_, rfl⟩
                    have ez334152 : z334152.toInt = g331659.toInt + 1 := gI_inc hz334152 (by decide) bg331659' (by decide) (by decide)
                    have bz334152 : gB z334152 1 1000000 := ⟨by omega, by omega⟩
                    refine G_iinc (L' := [(3, .int z334152), (5, .int g334132), (4, .ref q332338), (0, .ref q277512), (1, .ref q277513), (2, .int p277514)]) z334152 2 dr_cX17_graph_290 rfl hz334152.symm (Nat.le_of_ble_eq_true rfl) rfl ?_
                    refine G_goto 56 dr_cX17_graph_293 (by decide +kernel) ?_
                    refine G_lv (L' := [(3, .int z334152), (0, .ref q277512), (1, .ref q277513), (2, .int p277514)]) [0, 3, 4, 5] rfl ?_
                    exact ih56_331664 F334133 z334152 (gB_w bz334152 (by decide) (by decide)) hT334134 hs334135 (fun h0 => by have z := x334137 h0; exact gq_nx z (by omega) (by rw [ez334152]; omega)) x334138 (fun k e1 ht => kt56_331665 k e1 (fun R c1 c2 => c2 F331660 g331659 p331675 q331672 q332338 p332320 F332377 q332349 F332397 F332420 q332348 p332436 z332450 F334133 z334152 k e1 bg331659 hT331661 hs331662 x331663 x331664 fq331692 r332316 fq332343 hx332339 fq332361 ht332367 hT332378 hs332379 x332374 x332375 ht332376 fq332388 hT332398 hs332399 x332394 x332395 ht332396 fq332411 hT332421 hs332422 x332417 x332418 ht332419 fq332431 fq332443 fq332444 ez332450 hx334151 ez334152 (ht R c1 c2))) (mz_up ez334152 (Int.le_trans bg331659'.2 (by decide)) hm56_331664)
                  · have r334153 : 0 ≤ g334132.toInt := gj_nlt hc334149 (show Int32.toInt 0 = 0 by decide)
                    have bg334132' : gB g334132 0 999999 := ⟨by omega, by omega⟩
                    refine G_aload 1 dr_cX17_graph_114 rfl ?_
                    have fq334154 : fR (F334133 q332338) 0 = q332348 := by rw [he334144]; rfl
                    refine Gp_get 0 hm332346 he334144 dr_cX17_graph_116 (gk_X12 D I) (Nat.le_of_ble_eq_true rfl) wr_9_220 rfl ?_
                    refine G_iload 0 dr_cX17_graph_119 rfl ?_
                    have fl334155 : γ 2 (γ 14 q332338) = γ 2 q332348 := by rw [ht332358.1]
                    have hm334156 : q332348 ∈ P277510 := RS_m hT334134 ht332352 (by decide)
                    obtain ⟨⟨p334158, p334159, q334160, he334157, r334161, r334162, r334163, r334165⟩, r334164⟩ := show rk_3 D I γ el F334133 q332348 from RS_o hT334134 ht332352
                    have bp334158 := gB_any p334158
                    have bp334159 : gB p334159 0 1000000 := ⟨by omega, by omega⟩
                    obtain ⟨r334166, r334167, n334174, f334175, r334168, r334169, r334170, r334171, r334172, r334173⟩ := rLC_n r334163 (by omega)
                    have hm334176 : q334160 ∈ P277510 := RS_m hT334134 r334166 (by decide)
                    obtain ⟨q334177, hx334178⟩ : ∃ x, x = el q332348 g334132.toInt.toNat := ⟨_, rfl⟩
                    have hx334179 : f334175 g334132.toNatClampNeg = some q334177 := (r334172 _ (show g334132.toInt.toNat < γ 2 q332348 by omega)).trans (by rw [hx334178])
                    have ht334180 : rKd γ q334177 1 := by rw [hx334178]; exact (r334164 _ (show g334132.toInt.toNat < γ 2 q332348 by omega)).1
                    have ht334181 : rFm γ q334177 q332348 := by rw [hx334178]; exact (r334164 _ (show g334132.toInt.toNat < γ 2 q332348 by omega)).2.1
                    have fq334182 : fI (F334133 q332348) 2 = p334159 := by rw [he334157]; rfl
                    refine Gw_callV (As := [.int g334132]) (gV_ok D I) (cp_22_ArrayList_get l hl0 D I P277510 F334133 q332348 q334160 g334132 p334158 p334159 f334175 n334174 q334177 hm334156 hm334176 he334157 r334168 (gB_w bg334132' (by decide) (by decide)) (gB_w bp334159 (by decide) (by decide)) (by omega) (by omega) (by assumption) (by omega)) dr_cX17_graph_121 ⟨wr_10_201, wr_1_18, wr_10_65, by decide, rfl, (Nat.le_of_ble_eq_true rfl), (Nat.le_of_ble_eq_true rfl)⟩ wr_10_63 wr_10_64 hm334156 he334157 rfl (show 0 + 0 ≤ 0 by first | omega | decide) (show 0 + 0 ≤ 0 by first | omega | decide) (Nat.le_of_ble_eq_true rfl) (fun r334186 w334187 dc334183 ds334184 hp334185 => ?_) (fun _ _ _ _ _ z => z.elim)
                    obtain ⟨rfl, rfl, hdc, hds, ht334188⟩ := hp334185
                    change G _ _ _ _ _ _ _ (.ref q334177 :: _) _ _ _
                    refine G_widen (cs' := 0) (sl' := 0) (by omega) (by omega) ?_
                    have hr334189 : el q332348 (g334132.toInt : Int).toNat = q334177 := by rw [hx334178]
                    have hm334190 : q334177 ∈ P277510 := RS_m hT334134 ht334180 (by decide)
                    obtain ⟨p334192, p334193, p334194, p334195, p334196, p334197, p334198, he334191, bp334192, bp334193, bp334196, bp334197, bp334198, r334199, r334200, r334201, r334202, r334203⟩ := show rk_1 γ q334177 (F334133 q334177) from RS_o hT334134 ht334180
                    have bp334194 := gB_any p334194
                    have bp334195 := gB_any p334195
                    refine Gp_cast hm334190 he334191 rfl dr_cX17_graph_124 wr_10_202 (gr_cast 1 rfl) ?_
                    refine G_astore (L' := [(6, .ref q334177), (5, .int g334132), (4, .ref q332338), (3, .int g331659), (0, .ref q277512), (1, .ref q277513), (2, .int p277514)]) dr_cX17_graph_127 (Nat.le_of_ble_eq_true rfl) rfl ?_
                    refine G_aload_n 4 dr_cX17_graph_129 rfl ?_
                    refine G_aload 0 dr_cX17_graph_130 rfl ?_
                    refine G_iload_n 6 dr_cX17_graph_132 rfl ?_
                    refine Gw_callV (As := [.ref q334177, .int p277514]) (gV_ok D I) (ct_284044_SpillForgeModel_stand l hl0 D I γ el P277510 F334133 q277512 q334177 p277514 hT334134 htq277512 ht334180 bp277514) dr_cX17_graph_133 ⟨wr_10_237, wr_1_14, wr_11_0, by decide, rfl, (Nat.le_of_ble_eq_true rfl), (Nat.le_of_ble_eq_true rfl)⟩ wr_10_239 wr_p_100 hm334148 he334147 rfl (show 0 + 0 ≤ 0 by first | omega | decide) (show 0 + 0 ≤ 0 by first | omega | decide) (Nat.le_of_ble_eq_true rfl) (fun r334207 w334208 dc334204 ds334205 hp334206 => ?_) (fun _ _ _ _ _ z => z.elim)
                    obtain ⟨F334212, rfl, rfl, hT334213, hs334214, hdc, hds, x334209, x334210, ht334211⟩ := hp334206
                    have he334215 : F334212 q277513 = .inr (18, [.ref q331672, .ref q331673, .int p331674, .int p331675]) := (hs334214 q277513 (rT0 htq277513 (by decide)) (rT1 htq277513 (by decide)) (rT2 htq277513 (by decide))).trans he334141
                    have he334216 : F334212 q331672 = .inr (4, [.int p332319, .ref q332321, .int p332320]) := (hs334214 q331672 (rT0 ht331676 (by decide)) (rT1 ht331676 (by decide)) (rT2 ht331676 (by decide))).trans he334142
                    have he334217 : F334212 q332321 = .inl (I (.object "java/lang/Object"), n332335, .inr (.inr (.inr (.inr f332336)))) := (hs334214 q332321 (rT0 r332327 (by decide)) (rT1 r332327 (by decide)) (rT2 r332327 (by decide))).trans he334143
                    have he334218 : F334212 q332338 = .inr (17, [.ref q332348, .ref q332349, .int p332350, .int p332351]) := (hs334214 q332338 (rT0 ht332344 (by decide)) (rT1 ht332344 (by decide)) (rT2 ht332344 (by decide))).trans he334144
                    have he334219 : F334212 q332348 = .inr (4, [.int p334158, .ref q334160, .int p334159]) := (hs334214 q332348 (rT0 ht332352 (by decide)) (rT1 ht332352 (by decide)) (rT2 ht332352 (by decide))).trans he334157
                    have he334220 : F334212 q334160 = .inl (I (.object "java/lang/Object"), n334174, .inr (.inr (.inr (.inr f334175)))) := (hs334214 q334160 (rT0 r334166 (by decide)) (rT1 r334166 (by decide)) (rT2 r334166 (by decide))).trans r334168
                    have he334221 : F334212 q334177 = .inr (20, [.int p334192, .int p334193, .int p334194, .int p334195, .int p334196, .int p334197, .int p334198]) := (hs334214 q334177 (rT0 ht334180 (by decide)) (rT1 ht334180 (by decide)) (rT2 ht334180 (by decide))).trans he334191
                    have hs334222 : rStr γ [] F277511 F334212 := rStr_tr hs334135 hs334214
                    have kp334223 : F334212 q277512 = F277511 q277512 := (x334210).trans x334138
                    have he334224 : F334212 q277512 = .inr (22, [.ref (γ 9 0), .ref (γ 9 1), .ref (γ 9 2), .ref (γ 9 3), .ref (γ 9 4), .ref (γ 9 5), .ref (γ 9 6), .ref (γ 9 7), .ref (γ 9 8), .int p277521, .int p277522, .int p277523, .int p277524, .int p277525, .int p277526, .ref (γ 9 15), .ref (γ 9 16), .ref (γ 9 17), .ref (γ 9 18), .ref (γ 9 19), .ref (γ 9 20), .ref (γ 9 21), .ref (γ 9 22), .int p277527, .int p277528, .int p277529, .int p277530, .int p277531, .ref q277519, .ref (γ 9 29), .int p277532, .ref (γ 9 31), .int p277533, .int p277534, .int p277535, .ref q277520]) := (x334210).trans he334147
                    change G _ _ _ _ _ _ _ _ _ _ _
                    refine G_widen (cs' := 0) (sl' := 0) (by omega) (by omega) ?_
                    have hb334225 : el (γ 14 q277513) (g331659.toInt : Int).toNat = q332338 := hb332368
                    have hL334226 : rwL γ el q277513 (g331659.toInt : Int).toNat = q332348 := by unfold rwL; rw [hb334225]; exact ht332358.1
                    have hs334227 : F334133 q334177 = F277511 q334177 := hs334135 q334177 (rT0 ht334180 (by decide)) (rT1 ht334180 (by decide)) (rT2 ht334180 (by decide))
                    have gr334228 : gIp (p277514.toInt = 0) (rGr γ el F277511 q277513 (γ 6 (γ 1 q277513)) (cB (F334212 (γ 9 3))) (vB (g331659.toInt : Int).toNat (g334132.toInt : Int).toNat)) := fun h0 => gq_row (x334137 h0) (fun m => by have z := x334209 h0 m; rw [hs334227] at z; exact z) ((rAt_r hb334225 ht332358.1 (by omega)).trans hr334189) (show (g331659.toInt : Int).toNat < γ 6 (γ 1 q277513) by omega) (by rw [hL334226]; omega) (by omega)
                    refine G_aload 0 dr_cX17_graph_136 rfl ?_
                    refine G_iload_n 6 dr_cX17_graph_138 rfl ?_
                    have fq334229 : fI (F334212 q334177) 0 = p334192 := by rw [he334221]; rfl
                    have fq334230 : fI (F334212 q334177) 1 = p334193 := by rw [he334221]; rfl
                    have fq334231 : fI (F334212 q334177) 4 = p334196 := by rw [he334221]; rfl
                    refine Gw_callS (As := [.ref q334177, .int p277514]) (gV_ok D I) (cp_1784_SpillForgeModel_setOf l hl0 D I P277510 F334212 q334177 p277514 p334192 p334193 p334194 p334195 p334196 p334197 p334198 hm334190 he334221 bp277514 bp334192 bp334193 bp334196 bp334197 bp334198) dr_cX17_graph_139 ⟨wr_10_178, wr_1_14, wr_10_180, by decide, rfl, (Nat.le_of_ble_eq_true rfl), (Nat.le_of_ble_eq_true rfl)⟩ wr_10_179 (show 0 + 0 ≤ 0 by first | omega | decide) (show 0 + 0 ≤ 0 by first | omega | decide) (Nat.le_of_ble_eq_true rfl) (fun r334235 w334236 dc334232 ds334233 hp334234 => ?_) (fun _ _ _ _ _ z => z.elim)
                    obtain ⟨o334237, rfl, rfl, hdc, hds, bo334237, ht334238⟩ := hp334234
                    change G _ _ _ _ _ _ _ (.int o334237 :: _) _ _ _
                    refine G_widen (cs' := 0) (sl' := 0) (by omega) (by omega) ?_
                    refine G_istore (L' := [(7, .int o334237), (6, .ref q334177), (5, .int g334132), (4, .ref q332338), (3, .int g331659), (0, .ref q277512), (1, .ref q277513), (2, .int p277514)]) dr_cX17_graph_142 (Nat.le_of_ble_eq_true rfl) rfl ?_
                    refine G_iload_n 7 dr_cX17_graph_144 rfl ?_
                    refine G_if_ne 172 dr_cX17_graph_145 (by decide +kernel) (fun hc334239 => ?_) (fun hc334239 => ?_)
                    · have r334240 : p277514.toInt ≠ 0 := gj_neq hc334239 (show Int32.toInt 0 = 0 by decide)
                      have bp277514' : gB p277514 1 1 := gB_t1 bp277514 r334240
                      refine G_iconst (-1) dr_cX17_graph_172 (by decide +kernel) ?_
                      refine G_istore (L' := [(8, .int (-1)), (7, .int o334237), (6, .ref q334177), (5, .int g334132), (4, .ref q332338), (3, .int g331659), (0, .ref q277512), (1, .ref q277513), (2, .int p277514)]) dr_cX17_graph_173 (Nat.le_of_ble_eq_true rfl) rfl ?_
                      refine G_iload 1 dr_cX17_graph_175 rfl ?_
                      refine G_if_lt 277 dr_cX17_graph_177 (by decide +kernel) (fun hc334241 => ?_) (fun hc334241 => ?_)
                      · have r334242 : o334237.toInt < 0 := gj_lt hc334241 (show Int32.toInt 0 = 0 by decide)
                        have bo334237' : gB o334237 (-1) (-1) := ⟨by omega, by omega⟩
                        refine G_aload_n 6 dr_cX17_graph_277 rfl ?_
                        refine G_aload 2 dr_cX17_graph_278 rfl ?_
                        refine G_iload_n 8 dr_cX17_graph_280 rfl ?_
                        refine Gw_callV (As := [.ref q334177, .int p277514]) (gV_ok D I) (ct_284347_SpillForgeModel_back l hl0 D I γ el P277510 F334212 q277512 q334177 p277514 hT334213 htq277512 ht334180 (gB_w bp277514' (by decide) (by decide))) dr_cX17_graph_281 ⟨wr_10_174, wr_1_14, wr_10_177, by decide, rfl, (Nat.le_of_ble_eq_true rfl), (Nat.le_of_ble_eq_true rfl)⟩ wr_10_176 wr_p_96 hm334148 he334224 rfl (show 0 + 0 ≤ 0 by first | omega | decide) (show 0 + 0 ≤ 0 by first | omega | decide) (Nat.le_of_ble_eq_true rfl) (fun r334246 w334247 dc334243 ds334244 hp334245 => ?_) (fun _ _ _ _ _ z => z.elim)
                        obtain ⟨F334251, rfl, rfl, hT334252, hs334253, hdc, hds, x334248, x334249, ht334250⟩ := hp334245
                        have he334254 : F334251 q277513 = .inr (18, [.ref q331672, .ref q331673, .int p331674, .int p331675]) := (hs334253 q277513 (rT0 htq277513 (by decide)) (rT1 htq277513 (by decide)) (rT2 htq277513 (by decide))).trans he334215
                        have he334255 : F334251 q331672 = .inr (4, [.int p332319, .ref q332321, .int p332320]) := (hs334253 q331672 (rT0 ht331676 (by decide)) (rT1 ht331676 (by decide)) (rT2 ht331676 (by decide))).trans he334216
                        have he334256 : F334251 q332321 = .inl (I (.object "java/lang/Object"), n332335, .inr (.inr (.inr (.inr f332336)))) := (hs334253 q332321 (rT0 r332327 (by decide)) (rT1 r332327 (by decide)) (rT2 r332327 (by decide))).trans he334217
                        have he334257 : F334251 q332338 = .inr (17, [.ref q332348, .ref q332349, .int p332350, .int p332351]) := (hs334253 q332338 (rT0 ht332344 (by decide)) (rT1 ht332344 (by decide)) (rT2 ht332344 (by decide))).trans he334218
                        have he334258 : F334251 q332348 = .inr (4, [.int p334158, .ref q334160, .int p334159]) := (hs334253 q332348 (rT0 ht332352 (by decide)) (rT1 ht332352 (by decide)) (rT2 ht332352 (by decide))).trans he334219
                        have he334259 : F334251 q334160 = .inl (I (.object "java/lang/Object"), n334174, .inr (.inr (.inr (.inr f334175)))) := (hs334253 q334160 (rT0 r334166 (by decide)) (rT1 r334166 (by decide)) (rT2 r334166 (by decide))).trans he334220
                        have he334260 : F334251 q334177 = .inr (20, [.int p334192, .int p334193, .int p334194, .int p334195, .int p334196, .int p334197, .int p334198]) := (hs334253 q334177 (rT0 ht334180 (by decide)) (rT1 ht334180 (by decide)) (rT2 ht334180 (by decide))).trans he334221
                        have hs334261 : rStr γ [] F277511 F334251 := rStr_tr hs334222 hs334253
                        have kp334262 : F334251 q277512 = F277511 q277512 := (x334248).trans kp334223
                        have kp334263 : F334251 (γ 9 3) = F334212 (γ 9 3) := x334249
                        have he334264 : F334251 q277512 = .inr (22, [.ref (γ 9 0), .ref (γ 9 1), .ref (γ 9 2), .ref (γ 9 3), .ref (γ 9 4), .ref (γ 9 5), .ref (γ 9 6), .ref (γ 9 7), .ref (γ 9 8), .int p277521, .int p277522, .int p277523, .int p277524, .int p277525, .int p277526, .ref (γ 9 15), .ref (γ 9 16), .ref (γ 9 17), .ref (γ 9 18), .ref (γ 9 19), .ref (γ 9 20), .ref (γ 9 21), .ref (γ 9 22), .int p277527, .int p277528, .int p277529, .int p277530, .int p277531, .ref q277519, .ref (γ 9 29), .int p277532, .ref (γ 9 31), .int p277533, .int p277534, .int p277535, .ref q277520]) := (x334248).trans he334224
                        change G _ _ _ _ _ _ _ _ _ _ _
                        refine G_widen (cs' := 0) (sl' := 0) (by omega) (by omega) ?_
                        obtain ⟨z334265, hz334265⟩ : ∃ z : Int32, z = g334132 + Int32.ofInt (-1) := ⟨_, rfl⟩
                        have ez334265 : z334265.toInt = g334132.toInt + (-1) := gI_inc hz334265 (by decide) bg334132' (by decide) (by decide)
                        have bz334265 : gB z334265 (-1) 999998 := ⟨by omega, by omega⟩
                        refine G_iinc (L' := [(5, .int z334265), (8, .int (-1)), (7, .int o334237), (6, .ref q334177), (4, .ref q332338), (3, .int g331659), (0, .ref q277512), (1, .ref q277513), (2, .int p277514)]) z334265 3 dr_cX17_graph_284 rfl hz334265.symm (Nat.le_of_ble_eq_true rfl) rfl ?_
                        refine G_goto 109 dr_cX17_graph_287 (by decide +kernel) ?_
                        refine G_lv (L' := [(5, .int z334265), (4, .ref q332338), (3, .int g331659), (0, .ref q277512), (1, .ref q277513), (2, .int p277514)]) [0, 4, 5, 6, 7, 8] rfl ?_
                        exact ih109_334138 F334251 z334265 (gB_w bz334265 (by decide) (by decide)) hT334252 hs334261 (by omega) (fun h0 => by have z := gr334228 h0; rw [← kp334263] at z; rw [show ((g334132.toInt : Int).toNat : Nat) = (z334265.toInt + 1 : Int).toNat by omega] at z; exact z) kp334262 (fun k e1 ht => kt109_334139 k e1 (fun R c1 c2 c3 c4 c5 c6 c7 c8 c9 c10 c11 => c2 F334133 g334132 q332348 q334177 p334159 F334212 p334192 p334193 p334196 o334237 F334251 z334265 k e1 bg334132 hT334134 hs334135 x334136 x334137 x334138 r334153 fq334154 hx334178 fq334182 ht334188 hT334213 hs334214 x334209 x334210 ht334211 fq334229 fq334230 fq334231 bo334237 ht334238 r334240 r334242 hT334252 hs334253 x334248 x334249 ht334250 ez334265 (ht R c1 c2 c3 c4 c5 c6 c7 c8 c9 c10 c11))) (mz_dn ez334265 (Int.le_trans (by decide) bg334132'.1) hm109_334138)
                      · have r334266 : 0 ≤ o334237.toInt := gj_nlt hc334241 (show Int32.toInt 0 = 0 by decide)
                        have bo334237' : gB o334237 0 1999 := ⟨by omega, by omega⟩
                        refine G_iload 0 dr_cX17_graph_180 rfl ?_
                        refine G_if_lt 204 dr_cX17_graph_182 (by decide +kernel) (fun _ => ?_) (fun hc => absurd hc (by decide))
                        refine G_iconst 0 dr_cX17_graph_204 (by decide +kernel) ?_
                        refine G_istore (L' := [(9, .int 0), (8, .int (-1)), (7, .int o334237), (6, .ref q334177), (5, .int g334132), (4, .ref q332338), (3, .int g331659), (0, .ref q277512), (1, .ref q277513), (2, .int p277514)]) dr_cX17_graph_205 (Nat.le_of_ble_eq_true rfl) rfl ?_
                        refine G_iconst 0 dr_cX17_graph_207 (by decide +kernel) ?_
                        refine G_istore (L' := [(10, .int 0), (9, .int 0), (8, .int (-1)), (7, .int o334237), (6, .ref q334177), (5, .int g334132), (4, .ref q332338), (3, .int g331659), (0, .ref q277512), (1, .ref q277513), (2, .int p277514)]) dr_cX17_graph_208 (Nat.le_of_ble_eq_true rfl) rfl ?_
                        have hlp210_334385 : ∀ (n210_334385 : Nat) (F334381 : Nat → va_E) (g334380 : Int32), gB g334380 0 32 → RS D I P277510 F334381 γ el → rStr γ [] F277511 F334381 → (gIp (p277514.toInt = 0) (rGr γ el F277511 q277513 (γ 6 (γ 1 q277513)) (cB (F334381 (γ 9 3))) (vB (g331659.toInt : Int).toNat (g334132.toInt : Int).toNat))) → (F334381 q277512 = F277511 q277512) → (∀ (k : Nat) (e1 : Nat → va_E), tl_RModel_graph_210 D I γ el P277510 F277511 p277514 q277513 g331659 g334132 q277512 o334237 F334381 g334380 k e1 → tl_RModel_graph_210 D I γ el P277510 F277511 p277514 q277513 g331659 g334132 q277512 o334237 F334212 (0 : Int32) k e1) → ((33 : Int) - g334380.toInt).toNat < n210_334385 → G (gV D I) l (gRm 5 111 0 0) (gMA (gV D I) (pt_277516_SpillForgeModel_graph D I γ el P277510 F277511 q277512 q277513 p277514) gNA 0 0) ky_277516_SpillForgeModel_graph 210 [(10, .int g334380), (9, .int 0), (8, .int (-1)), (7, .int o334237), (6, .ref q334177), (5, .int g334132), (4, .ref q332338), (3, .int g331659), (0, .ref q277512), (1, .ref q277513), (2, .int p277514)] [] (va_pl P277510 F334381) 0 0 := by
                          intro n210_334385
                          induction n210_334385 with
                          | zero => intro F334381 g334380 bg334380 hT334382 hs334383 x334384 x334385 kt210_334386 hm210_334385; exact absurd hm210_334385 (Nat.not_lt_zero _)
                          | succ n210_334385 ih210_334385 =>
                            intro F334381 g334380 bg334380 hT334382 hs334383 x334384 x334385 kt210_334386 hm210_334385
                            have hs334387 : rStr γ [] F334212 F334381 := fun b h0 hb hw => (hs334383 b h0 hb hw).trans (hs334222 b h0 hb hw).symm
                            have he334388 : F334381 q277513 = .inr (18, [.ref q331672, .ref q331673, .int p331674, .int p331675]) := (hs334387 q277513 (rT0 htq277513 (by decide)) (rT1 htq277513 (by decide)) (rT2 htq277513 (by decide))).trans he334215
                            have he334389 : F334381 q331672 = .inr (4, [.int p332319, .ref q332321, .int p332320]) := (hs334387 q331672 (rT0 ht331676 (by decide)) (rT1 ht331676 (by decide)) (rT2 ht331676 (by decide))).trans he334216
                            have he334390 : F334381 q332321 = .inl (I (.object "java/lang/Object"), n332335, .inr (.inr (.inr (.inr f332336)))) := (hs334387 q332321 (rT0 r332327 (by decide)) (rT1 r332327 (by decide)) (rT2 r332327 (by decide))).trans he334217
                            have he334391 : F334381 q332338 = .inr (17, [.ref q332348, .ref q332349, .int p332350, .int p332351]) := (hs334387 q332338 (rT0 ht332344 (by decide)) (rT1 ht332344 (by decide)) (rT2 ht332344 (by decide))).trans he334218
                            have he334392 : F334381 q332348 = .inr (4, [.int p334158, .ref q334160, .int p334159]) := (hs334387 q332348 (rT0 ht332352 (by decide)) (rT1 ht332352 (by decide)) (rT2 ht332352 (by decide))).trans he334219
                            have he334393 : F334381 q334160 = .inl (I (.object "java/lang/Object"), n334174, .inr (.inr (.inr (.inr f334175)))) := (hs334387 q334160 (rT0 r334166 (by decide)) (rT1 r334166 (by decide)) (rT2 r334166 (by decide))).trans he334220
                            have he334394 : F334381 q334177 = .inr (20, [.int p334192, .int p334193, .int p334194, .int p334195, .int p334196, .int p334197, .int p334198]) := (hs334387 q334177 (rT0 ht334180 (by decide)) (rT1 ht334180 (by decide)) (rT2 ht334180 (by decide))).trans he334221
                            have hs334395 : rStr γ [] F277511 F334381 := rStr_tr hs334222 hs334387
                            have he334396 : F334381 q277512 = .inr (22, [.ref (γ 9 0), .ref (γ 9 1), .ref (γ 9 2), .ref (γ 9 3), .ref (γ 9 4), .ref (γ 9 5), .ref (γ 9 6), .ref (γ 9 7), .ref (γ 9 8), .int p277521, .int p277522, .int p277523, .int p277524, .int p277525, .int p277526, .ref (γ 9 15), .ref (γ 9 16), .ref (γ 9 17), .ref (γ 9 18), .ref (γ 9 19), .ref (γ 9 20), .ref (γ 9 21), .ref (γ 9 22), .int p277527, .int p277528, .int p277529, .int p277530, .int p277531, .ref q277519, .ref (γ 9 29), .int p277532, .ref (γ 9 31), .int p277533, .int p277534, .int p277535, .ref q277520]) := x334385.trans he277518
                            have hm334397 : q277512 ∈ P277510 := RS_m hT334382 htq277512 (by decide)
                            refine G_iload 0 dr_cX17_graph_210 rfl ?_
                            refine G_bipush 32 dr_cX17_graph_212 (by decide +kernel) ?_
                            refine G_icmp_ge 243 dr_cX17_graph_214 (by decide +kernel) (fun hc334398 => ?_) (fun hc334398 => ?_)
                            · have r334399 : 32 ≤ g334380.toInt := gj_leL hc334398 (show Int32.toInt 32 = 32 by decide)
                              have bg334380' : gB g334380 32 32 := ⟨by omega, by omega⟩
                              have hx334400 : tl_RModel_graph_210 D I γ el P277510 F277511 p277514 q277513 g331659 g334132 q277512 o334237 F334212 (0 : Int32) 243 F334381 := kt210_334386 243 F334381 (fun R c1 c2 => c1 F334381 g334380 bg334380 hT334382 hs334383 x334384 x334385 r334399)
                              refine G_iload 2 dr_cX17_graph_243 rfl ?_
                              refine G_if_lt 265 dr_cX17_graph_245 (by decide +kernel) (fun _ => ?_) (fun hc => absurd hc (by decide))
                              refine G_aload_n 8 dr_cX17_graph_265 rfl ?_
                              have fq334401 : fR (F334381 q277512) 1 = (γ 9 1) := by rw [he334396]; rfl
                              refine Gp_get 1 hm334397 he334396 dr_cX17_graph_266 (gk_X17 D I) (Nat.le_of_ble_eq_true rfl) wr_7_75 rfl ?_
                              refine G_iload 3 dr_cX17_graph_269 rfl ?_
                              have hm334402 : (γ 9 1) ∈ P277510 := RS_m hT334382 ht277539 (by decide)
                              obtain ⟨f334404, he334403, hg334405⟩ := show rk_13 I γ (F334381 (γ 9 1)) from RS_o hT334382 ht277539
                              obtain ⟨q334406, hx334408⟩ : ∃ x, x = γ 11 o334237.toInt.toNat := ⟨_, rfl⟩
                              have ht334407 : rKd γ q334406 36 := by rw [hx334408]; exact (hg334405 _ (show o334237.toInt.toNat < 2000 by omega)).2.1
                              refine Gp_aald 5 hm334402 he334403 dr_cX17_graph_271 rfl rfl (gB_in bo334237' (by decide) (by decide)) ?_
                              rw [show f334404 o334237.toNatClampNeg = some q334406 from (hg334405 _ (show o334237.toInt.toNat < 2000 by omega)).1.trans (by rw [hx334408])]
                              change G _ _ _ _ _ _ _ (.ref q334406 :: _) _ _ _
                              refine G_iload 3 dr_cX17_graph_272 rfl ?_
                              have hm334409 : q334406 ∈ P277510 := RS_m hT334382 ht334407 (by decide)
                              obtain ⟨f334411, he334410, wf334411⟩ := show rk_36 I (F334381 q334406) from RS_o hT334382 ht334407
                              refine Gw_callS (As := [.ref q334406, .int o334237]) (gV_ok D I) (cp_1880_SpillForgeModel_clear l hl0 D I P277510 F334381 q334406 o334237 f334411 hm334409 he334410 bo334237' wf334411) dr_cX17_graph_274 ⟨wr_10_185, wr_1_14, wr_10_187, by decide, rfl, (Nat.le_of_ble_eq_true rfl), (Nat.le_of_ble_eq_true rfl)⟩ wr_10_186 (show 0 + 0 ≤ 0 by first | omega | decide) (show 0 + 0 ≤ 0 by first | omega | decide) (Nat.le_of_ble_eq_true rfl) (fun r334415 w334416 dc334412 ds334413 hp334414 => ?_) (fun _ _ _ _ _ z => z.elim)
                              obtain ⟨F334420, f334417, rfl, rfl, hfr334422, he334423, hdc, hds, x334418, ht334419⟩ := hp334414
                              have he334424 : F334420 q277513 = .inr (18, [.ref q331672, .ref q331673, .int p331674, .int p331675]) := (hfr334422 q277513 hm331670 (nm_c (rn_oa he334388 he334410) nm_n)).trans he334388
                              have he334425 : F334420 q331672 = .inr (4, [.int p332319, .ref q332321, .int p332320]) := (hfr334422 q331672 hm332317 (nm_c (rn_oa he334389 he334410) nm_n)).trans he334389
                              have he334426 : F334420 q332321 = .inl (I (.object "java/lang/Object"), n332335, .inr (.inr (.inr (.inr f332336)))) := (hfr334422 q332321 hm332337 (nm_c (rn_ref_long he334390 he334410) nm_n)).trans he334390
                              have he334427 : F334420 q332338 = .inr (17, [.ref q332348, .ref q332349, .int p332350, .int p332351]) := (hfr334422 q332338 hm332346 (nm_c (rn_oa he334391 he334410) nm_n)).trans he334391
                              have he334428 : F334420 q332348 = .inr (4, [.int p334158, .ref q334160, .int p334159]) := (hfr334422 q332348 hm334156 (nm_c (rn_oa he334392 he334410) nm_n)).trans he334392
                              have he334429 : F334420 q334160 = .inl (I (.object "java/lang/Object"), n334174, .inr (.inr (.inr (.inr f334175)))) := (hfr334422 q334160 hm334176 (nm_c (rn_ref_long he334393 he334410) nm_n)).trans he334393
                              have he334430 : F334420 q334177 = .inr (20, [.int p334192, .int p334193, .int p334194, .int p334195, .int p334196, .int p334197, .int p334198]) := (hfr334422 q334177 hm334190 (nm_c (rn_oa he334394 he334410) nm_n)).trans he334394
                              have he334431 : F334420 q277512 = .inr (22, [.ref (γ 9 0), .ref (γ 9 1), .ref (γ 9 2), .ref (γ 9 3), .ref (γ 9 4), .ref (γ 9 5), .ref (γ 9 6), .ref (γ 9 7), .ref (γ 9 8), .int p277521, .int p277522, .int p277523, .int p277524, .int p277525, .int p277526, .ref (γ 9 15), .ref (γ 9 16), .ref (γ 9 17), .ref (γ 9 18), .ref (γ 9 19), .ref (γ 9 20), .ref (γ 9 21), .ref (γ 9 22), .int p277527, .int p277528, .int p277529, .int p277530, .int p277531, .ref q277519, .ref (γ 9 29), .int p277532, .ref (γ 9 31), .int p277533, .int p277534, .int p277535, .ref q277520]) := (hfr334422 q277512 hm334397 (nm_c (rn_oa he334396 he334410) nm_n)).trans he334396
                              have he334432 : F334420 (γ 9 1) = .inl (I (.array .long), 2000, .inr (.inr (.inr (.inr f334404)))) := (hfr334422 (γ 9 1) hm334402 (nm_c (rn_ref_long he334403 he334410) nm_n)).trans he334403
                              have hfr334433 : rFr [q334406] P277510 F334381 F334420 := rFr_call (rSub_rf (P := P277510)) (rFr_rf (W := []) (P := P277510) (F := F334381)) hfr334422 (fun b hb hn => ⟨nm_n, (nm_c (fun e => hn (e ▸ List.mem_cons_self)) nm_n)⟩)
                              change G _ _ _ _ _ _ _ _ _ _ _
                              refine G_widen (cs' := 0) (sl' := 0) (by omega) (by omega) ?_
                              have hT334434 : RS D I P277510 F334420 γ el := RS_fr hT334382 hfr334433 ht334407 (by decide) ⟨f334417, he334423, x334418⟩
                              have hs334435 : rStr γ [] F277511 F334420 := rStr_fr hT334382 hs334383 hfr334433 ht334407 (by decide)
                              have kp334436 : F334420 q277512 = F277511 q277512 := (hfr334433 q277512 (RS_m hT334382 htq277512 (by decide)) (nm_c (rn_ty htq277512 ht334407 (by decide)) nm_n)).trans x334385
                              have kp334437 : F334420 (γ 9 3) = F334381 (γ 9 3) := hfr334433 (γ 9 3) (RS_m hT334382 ht277541 (by decide)) (nm_c (rn_ty ht277541 ht334407 (by decide)) nm_n)
                              refine G_aload_n 8 dr_cX17_graph_277 rfl ?_
                              refine G_aload 4 dr_cX17_graph_278 rfl ?_
                              refine G_iload_n 10 dr_cX17_graph_280 rfl ?_
                              refine Gw_callV (As := [.ref q334177, .int p277514]) (gV_ok D I) (ct_284347_SpillForgeModel_back l hl0 D I γ el P277510 F334420 q277512 q334177 p277514 hT334434 htq277512 ht334180 (gB_w bp277514' (by decide) (by decide))) dr_cX17_graph_281 ⟨wr_10_174, wr_1_14, wr_10_177, by decide, rfl, (Nat.le_of_ble_eq_true rfl), (Nat.le_of_ble_eq_true rfl)⟩ wr_10_176 wr_p_96 hm334397 he334431 rfl (show 0 + 0 ≤ 0 by first | omega | decide) (show 0 + 0 ≤ 0 by first | omega | decide) (Nat.le_of_ble_eq_true rfl) (fun r334441 w334442 dc334438 ds334439 hp334440 => ?_) (fun _ _ _ _ _ z => z.elim)
                              obtain ⟨F334446, rfl, rfl, hT334447, hs334448, hdc, hds, x334443, x334444, ht334445⟩ := hp334440
                              have he334449 : F334446 q277513 = .inr (18, [.ref q331672, .ref q331673, .int p331674, .int p331675]) := (hs334448 q277513 (rT0 htq277513 (by decide)) (rT1 htq277513 (by decide)) (rT2 htq277513 (by decide))).trans he334424
                              have he334450 : F334446 q331672 = .inr (4, [.int p332319, .ref q332321, .int p332320]) := (hs334448 q331672 (rT0 ht331676 (by decide)) (rT1 ht331676 (by decide)) (rT2 ht331676 (by decide))).trans he334425
                              have he334451 : F334446 q332321 = .inl (I (.object "java/lang/Object"), n332335, .inr (.inr (.inr (.inr f332336)))) := (hs334448 q332321 (rT0 r332327 (by decide)) (rT1 r332327 (by decide)) (rT2 r332327 (by decide))).trans he334426
                              have he334452 : F334446 q332338 = .inr (17, [.ref q332348, .ref q332349, .int p332350, .int p332351]) := (hs334448 q332338 (rT0 ht332344 (by decide)) (rT1 ht332344 (by decide)) (rT2 ht332344 (by decide))).trans he334427
                              have he334453 : F334446 q332348 = .inr (4, [.int p334158, .ref q334160, .int p334159]) := (hs334448 q332348 (rT0 ht332352 (by decide)) (rT1 ht332352 (by decide)) (rT2 ht332352 (by decide))).trans he334428
                              have he334454 : F334446 q334160 = .inl (I (.object "java/lang/Object"), n334174, .inr (.inr (.inr (.inr f334175)))) := (hs334448 q334160 (rT0 r334166 (by decide)) (rT1 r334166 (by decide)) (rT2 r334166 (by decide))).trans he334429
                              have he334455 : F334446 q334177 = .inr (20, [.int p334192, .int p334193, .int p334194, .int p334195, .int p334196, .int p334197, .int p334198]) := (hs334448 q334177 (rT0 ht334180 (by decide)) (rT1 ht334180 (by decide)) (rT2 ht334180 (by decide))).trans he334430
                              have hs334456 : rStr γ [] F277511 F334446 := rStr_tr hs334435 hs334448
                              have kp334457 : F334446 q277512 = F277511 q277512 := (x334443).trans kp334436
                              have kp334458 : F334446 (γ 9 3) = F334381 (γ 9 3) := (x334444).trans kp334437
                              have he334459 : F334446 q277512 = .inr (22, [.ref (γ 9 0), .ref (γ 9 1), .ref (γ 9 2), .ref (γ 9 3), .ref (γ 9 4), .ref (γ 9 5), .ref (γ 9 6), .ref (γ 9 7), .ref (γ 9 8), .int p277521, .int p277522, .int p277523, .int p277524, .int p277525, .int p277526, .ref (γ 9 15), .ref (γ 9 16), .ref (γ 9 17), .ref (γ 9 18), .ref (γ 9 19), .ref (γ 9 20), .ref (γ 9 21), .ref (γ 9 22), .int p277527, .int p277528, .int p277529, .int p277530, .int p277531, .ref q277519, .ref (γ 9 29), .int p277532, .ref (γ 9 31), .int p277533, .int p277534, .int p277535, .ref q277520]) := (x334443).trans he334431
                              change G _ _ _ _ _ _ _ _ _ _ _
                              refine G_widen (cs' := 0) (sl' := 0) (by omega) (by omega) ?_
                              obtain ⟨z334460, hz334460⟩ : ∃ z : Int32, z = g334132 + Int32.ofInt (-1) := ⟨_, rfl⟩
                              have ez334460 : z334460.toInt = g334132.toInt + (-1) := gI_inc hz334460 (by decide) bg334132' (by decide) (by decide)
                              have bz334460 : gB z334460 (-1) 999998 := ⟨by omega, by omega⟩
                              refine G_iinc (L' := [(5, .int z334460), (10, .int g334380), (9, .int 0), (8, .int (-1)), (7, .int o334237), (6, .ref q334177), (4, .ref q332338), (3, .int g331659), (0, .ref q277512), (1, .ref q277513), (2, .int p277514)]) z334460 5 dr_cX17_graph_284 rfl hz334460.symm (Nat.le_of_ble_eq_true rfl) rfl ?_
                              refine G_goto 109 dr_cX17_graph_287 (by decide +kernel) ?_
                              refine G_lv (L' := [(5, .int z334460), (4, .ref q332338), (3, .int g331659), (0, .ref q277512), (1, .ref q277513), (2, .int p277514)]) [0, 6, 7, 8, 9, 10] rfl ?_
                              exact ih109_334138 F334446 z334460 (gB_w bz334460 (by decide) (by decide)) hT334447 hs334456 (by omega) (fun h0 => by have z := x334384 h0; rw [← kp334458] at z; rw [show ((g334132.toInt : Int).toNat : Nat) = (z334460.toInt + 1 : Int).toNat by omega] at z; exact z) kp334457 (fun k e1 ht => kt109_334139 k e1 (fun R c1 c2 c3 c4 c5 c6 c7 c8 c9 c10 c11 => c3 F334133 g334132 q332348 q334177 p334159 F334212 p334192 p334193 p334196 o334237 F334381 q334406 f334411 f334417 F334420 F334446 z334460 k e1 bg334132 hT334134 hs334135 x334136 x334137 x334138 r334153 fq334154 hx334178 fq334182 ht334188 hT334213 hs334214 x334209 x334210 ht334211 fq334229 fq334230 fq334231 bo334237 ht334238 r334240 r334266 hx334400 fq334401 hx334408 he334410 ht334419 hfr334433 he334423 hT334434 hT334447 hs334448 x334443 x334444 ht334445 ez334460 (ht R c1 c2 c3 c4 c5 c6 c7 c8 c9 c10 c11))) (mz_dn ez334460 (Int.le_trans (by decide) bg334132'.1) hm109_334138)
                            · have r334461 : g334380.toInt < 32 := gj_nleL hc334398 (show Int32.toInt 32 = 32 by decide)
                              have bg334380' : gB g334380 0 31 := ⟨by omega, by omega⟩
                              refine G_aload_n 8 dr_cX17_graph_217 rfl ?_
                              have fq334462 : fR (F334381 q277512) 1 = (γ 9 1) := by rw [he334396]; rfl
                              refine Gp_get 1 hm334397 he334396 dr_cX17_graph_218 (gk_X17 D I) (Nat.le_of_ble_eq_true rfl) wr_7_75 rfl ?_
                              refine G_iload 3 dr_cX17_graph_221 rfl ?_
                              have hm334463 : (γ 9 1) ∈ P277510 := RS_m hT334382 ht277539 (by decide)
                              obtain ⟨f334465, he334464, hg334466⟩ := show rk_13 I γ (F334381 (γ 9 1)) from RS_o hT334382 ht277539
                              obtain ⟨q334467, hx334469⟩ : ∃ x, x = γ 11 o334237.toInt.toNat := ⟨_, rfl⟩
                              have ht334468 : rKd γ q334467 36 := by rw [hx334469]; exact (hg334466 _ (show o334237.toInt.toNat < 2000 by omega)).2.1
                              refine Gp_aald 5 hm334463 he334464 dr_cX17_graph_223 rfl rfl (gB_in bo334237' (by decide) (by decide)) ?_
                              rw [show f334465 o334237.toNatClampNeg = some q334467 from (hg334466 _ (show o334237.toInt.toNat < 2000 by omega)).1.trans (by rw [hx334469])]
                              change G _ _ _ _ _ _ _ (.ref q334467 :: _) _ _ _
                              refine G_iload 0 dr_cX17_graph_224 rfl ?_
                              refine G_dup2_11 dr_cX17_graph_226 rfl rfl ?_
                              have hm334470 : q334467 ∈ P277510 := RS_m hT334382 ht334468 (by decide)
                              obtain ⟨f334472, he334471, wf334472⟩ := show rk_36 I (F334381 q334467) from RS_o hT334382 ht334468
                              refine Gp_lald 2 hm334470 he334471 dr_cX17_graph_227 rfl (gB_in bg334380' (by decide) (by decide)) (G_namL fun u334473 hu334473 => ?_)
                              have qu334473 : lb_Q u334473 (2000 - 64 * g334380.toInt) := lb_Wld hu334473 wf334472 (by omega) (by omega) (lb_Mod0 (by omega) (by omega))
                              refine G_aload_n 8 dr_cX17_graph_228 rfl ?_
                              have fq334474 : fR (F334381 q277512) 2 = (γ 9 2) := by rw [he334396]; rfl
                              refine Gp_get 2 hm334397 he334396 dr_cX17_graph_229 (gk_X17 D I) (Nat.le_of_ble_eq_true rfl) wr_7_76 rfl ?_
                              refine G_iload 0 dr_cX17_graph_232 rfl ?_
                              have hm334475 : (γ 9 2) ∈ P277510 := RS_m hT334382 ht277540 (by decide)
                              obtain ⟨f334477, he334476, wf334477⟩ := show rk_35 I (F334381 (γ 9 2)) from RS_o hT334382 ht277540
                              refine Gp_lald 2 hm334475 he334476 dr_cX17_graph_234 rfl (gB_in bg334380' (by decide) (by decide)) (G_namL fun u334478 hu334478 => ?_)
                              have qu334478 : lb_Q u334478 (2000 - 64 * g334380.toInt) := lb_Wld hu334478 wf334477 (by omega) (by omega) (lb_Mod0 (by omega) (by omega))
                              refine G_lor dr_cX17_graph_235 (G_namL fun u334479 hu334479 => ?_)
                              have qu334479 : lb_Q u334479 (2000 - 64 * g334380.toInt) := lb_Qor hu334479 qu334473 qu334478
                              refine Gp_last 2 hm334470 he334471 dr_cX17_graph_236 rfl (gB_in bg334380' (by decide) (by decide)) (fun F334480 e334481 n334482 => ?_)
                              obtain ⟨f334483, hf334483⟩ : ∃ z, z = vp_updL f334472 g334380.toNatClampNeg u334479 := ⟨_, rfl⟩
                              rw [← hf334483] at e334481
                              have he334484 : F334480 q277513 = .inr (18, [.ref q331672, .ref q331673, .int p331674, .int p331675]) := (n334482 q277513 (rn_oa he334388 he334471)).trans he334388
                              have he334485 : F334480 q331672 = .inr (4, [.int p332319, .ref q332321, .int p332320]) := (n334482 q331672 (rn_oa he334389 he334471)).trans he334389
                              have he334486 : F334480 q332321 = .inl (I (.object "java/lang/Object"), n332335, .inr (.inr (.inr (.inr f332336)))) := (n334482 q332321 (rn_ref_long he334390 he334471)).trans he334390
                              have he334487 : F334480 q332338 = .inr (17, [.ref q332348, .ref q332349, .int p332350, .int p332351]) := (n334482 q332338 (rn_oa he334391 he334471)).trans he334391
                              have he334488 : F334480 q332348 = .inr (4, [.int p334158, .ref q334160, .int p334159]) := (n334482 q332348 (rn_oa he334392 he334471)).trans he334392
                              have he334489 : F334480 q334160 = .inl (I (.object "java/lang/Object"), n334174, .inr (.inr (.inr (.inr f334175)))) := (n334482 q334160 (rn_ref_long he334393 he334471)).trans he334393
                              have he334490 : F334480 q334177 = .inr (20, [.int p334192, .int p334193, .int p334194, .int p334195, .int p334196, .int p334197, .int p334198]) := (n334482 q334177 (rn_oa he334394 he334471)).trans he334394
                              have he334491 : F334480 q277512 = .inr (22, [.ref (γ 9 0), .ref (γ 9 1), .ref (γ 9 2), .ref (γ 9 3), .ref (γ 9 4), .ref (γ 9 5), .ref (γ 9 6), .ref (γ 9 7), .ref (γ 9 8), .int p277521, .int p277522, .int p277523, .int p277524, .int p277525, .int p277526, .ref (γ 9 15), .ref (γ 9 16), .ref (γ 9 17), .ref (γ 9 18), .ref (γ 9 19), .ref (γ 9 20), .ref (γ 9 21), .ref (γ 9 22), .int p277527, .int p277528, .int p277529, .int p277530, .int p277531, .ref q277519, .ref (γ 9 29), .int p277532, .ref (γ 9 31), .int p277533, .int p277534, .int p277535, .ref q277520]) := (n334482 q277512 (rn_oa he334396 he334471)).trans he334396
                              have he334492 : F334480 (γ 9 1) = .inl (I (.array .long), 2000, .inr (.inr (.inr (.inr f334465)))) := (n334482 (γ 9 1) (rn_ref_long he334464 he334471)).trans he334464
                              have he334493 : F334480 (γ 9 2) = .inl (I .long, 32, .inr (.inl f334477)) := (n334482 (γ 9 2) (rn_ty ht277540 ht334468 (by decide))).trans he334476
                              have he334494 : F334480 q334467 = .inl (I .long, 32, .inr (.inl f334483)) := e334481
                              have hs334495 : rStr γ [] F277511 F334480 := rStr_put hs334383 n334482 ht334468 (by decide)
                              have kp334496 : F334480 q277512 = F277511 q277512 := (n334482 q277512 (rn_ty htq277512 ht334468 (by decide))).trans x334385
                              have kp334497 : F334480 (γ 9 3) = F334381 (γ 9 3) := n334482 (γ 9 3) (rn_ty ht277541 ht334468 (by decide))
                              have wf334483 : lb_W f334483 (32) (32) (2000) := lb_Wst hf334483 wf334472 (by omega) (lb_Mod0 (by omega) (by omega)) qu334479
                              obtain ⟨z334498, hz334498⟩ : ∃ z : Int32, z = g334380 + Int32.ofInt 1 := ⟨_, rfl⟩
                              have ez334498 : z334498.toInt = g334380.toInt + 1 := gI_inc hz334498 (by decide) bg334380' (by decide) (by decide)
                              have bz334498 : gB z334498 1 32 := ⟨by omega, by omega⟩
                              refine G_iinc (L' := [(10, .int z334498), (9, .int 0), (8, .int (-1)), (7, .int o334237), (6, .ref q334177), (5, .int g334132), (4, .ref q332338), (3, .int g331659), (0, .ref q277512), (1, .ref q277513), (2, .int p277514)]) z334498 0 dr_cX17_graph_237 rfl hz334498.symm (Nat.le_of_ble_eq_true rfl) rfl ?_
                              refine G_goto 210 dr_cX17_graph_240 (by decide +kernel) ?_
                              have hT334499 : RS D I P277510 F334480 γ el := RS_set hT334382 n334482 ht334468 (by decide) ⟨f334483, he334494, wf334483⟩
                              exact ih210_334385 F334480 z334498 (gB_w bz334498 (by decide) (by decide)) hT334499 hs334495 (by rw [kp334497]; exact x334384) kp334496 (fun k e1 ht => kt210_334386 k e1 (fun R c1 c2 => c2 F334381 g334380 q334467 f334472 u334473 f334477 u334478 u334479 f334483 F334480 z334498 k e1 bg334380 hT334382 hs334383 x334384 x334385 r334461 fq334462 hx334469 he334471 hu334473 fq334474 he334476 hu334478 hu334479 hf334483 n334482 he334494 ez334498 (ht R c1 c2))) (mz_up ez334498 (Int.le_trans bg334380'.2 (by decide)) hm210_334385)
                        exact hlp210_334385 (((33 : Int) - 0).toNat + 1) F334212 0 (gB_w (gBl (show Int32.toInt 0 = 0 by decide)) (by decide) (by decide)) hT334213 hs334222 gr334228 kp334223 (fun k e1 ht => ht) (Nat.lt_succ_self _)
                    · have r334500 : p277514.toInt = 0 := gj_eq hc334239 (show Int32.toInt 0 = 0 by decide)
                      have bp277514' : gB p277514 0 0 := gB_t0 r334500
                      refine G_aload 1 dr_cX17_graph_148 rfl ?_
                      refine Gp_get 0 hm334190 he334221 dr_cX17_graph_150 (gk_X15 D I) (Nat.le_of_ble_eq_true rfl) wr_9_177 rfl ?_
                      refine G_if_ne 172 dr_cX17_graph_153 (by decide +kernel) (fun hc334501 => ?_) (fun hc334501 => ?_)
                      · have r334502 : p334192.toInt ≠ 0 := gj_neq hc334501 (show Int32.toInt 0 = 0 by decide)
                        have bp334192' : gB p334192 1 32 := ⟨by omega, by omega⟩
                        refine G_iconst (-1) dr_cX17_graph_172 (by decide +kernel) ?_
                        refine G_istore (L' := [(8, .int (-1)), (7, .int o334237), (6, .ref q334177), (5, .int g334132), (4, .ref q332338), (3, .int g331659), (0, .ref q277512), (1, .ref q277513), (2, .int p277514)]) dr_cX17_graph_173 (Nat.le_of_ble_eq_true rfl) rfl ?_
                        refine G_iload 1 dr_cX17_graph_175 rfl ?_
                        refine G_if_lt 277 dr_cX17_graph_177 (by decide +kernel) (fun hc334503 => ?_) (fun hc334503 => ?_)
                        · have r334504 : o334237.toInt < 0 := gj_lt hc334503 (show Int32.toInt 0 = 0 by decide)
                          have bo334237' : gB o334237 (-1) (-1) := ⟨by omega, by omega⟩
                          refine G_aload_n 6 dr_cX17_graph_277 rfl ?_
                          refine G_aload 2 dr_cX17_graph_278 rfl ?_
                          refine G_iload_n 8 dr_cX17_graph_280 rfl ?_
                          refine Gw_callV (As := [.ref q334177, .int p277514]) (gV_ok D I) (ct_284347_SpillForgeModel_back l hl0 D I γ el P277510 F334212 q277512 q334177 p277514 hT334213 htq277512 ht334180 (gB_w bp277514' (by decide) (by decide))) dr_cX17_graph_281 ⟨wr_10_174, wr_1_14, wr_10_177, by decide, rfl, (Nat.le_of_ble_eq_true rfl), (Nat.le_of_ble_eq_true rfl)⟩ wr_10_176 wr_p_96 hm334148 he334224 rfl (show 0 + 0 ≤ 0 by first | omega | decide) (show 0 + 0 ≤ 0 by first | omega | decide) (Nat.le_of_ble_eq_true rfl) (fun r334508 w334509 dc334505 ds334506 hp334507 => ?_) (fun _ _ _ _ _ z => z.elim)
                          obtain ⟨F334513, rfl, rfl, hT334514, hs334515, hdc, hds, x334510, x334511, ht334512⟩ := hp334507
                          have he334516 : F334513 q277513 = .inr (18, [.ref q331672, .ref q331673, .int p331674, .int p331675]) := (hs334515 q277513 (rT0 htq277513 (by decide)) (rT1 htq277513 (by decide)) (rT2 htq277513 (by decide))).trans he334215
                          have he334517 : F334513 q331672 = .inr (4, [.int p332319, .ref q332321, .int p332320]) := (hs334515 q331672 (rT0 ht331676 (by decide)) (rT1 ht331676 (by decide)) (rT2 ht331676 (by decide))).trans he334216
                          have he334518 : F334513 q332321 = .inl (I (.object "java/lang/Object"), n332335, .inr (.inr (.inr (.inr f332336)))) := (hs334515 q332321 (rT0 r332327 (by decide)) (rT1 r332327 (by decide)) (rT2 r332327 (by decide))).trans he334217
                          have he334519 : F334513 q332338 = .inr (17, [.ref q332348, .ref q332349, .int p332350, .int p332351]) := (hs334515 q332338 (rT0 ht332344 (by decide)) (rT1 ht332344 (by decide)) (rT2 ht332344 (by decide))).trans he334218
                          have he334520 : F334513 q332348 = .inr (4, [.int p334158, .ref q334160, .int p334159]) := (hs334515 q332348 (rT0 ht332352 (by decide)) (rT1 ht332352 (by decide)) (rT2 ht332352 (by decide))).trans he334219
                          have he334521 : F334513 q334160 = .inl (I (.object "java/lang/Object"), n334174, .inr (.inr (.inr (.inr f334175)))) := (hs334515 q334160 (rT0 r334166 (by decide)) (rT1 r334166 (by decide)) (rT2 r334166 (by decide))).trans he334220
                          have he334522 : F334513 q334177 = .inr (20, [.int p334192, .int p334193, .int p334194, .int p334195, .int p334196, .int p334197, .int p334198]) := (hs334515 q334177 (rT0 ht334180 (by decide)) (rT1 ht334180 (by decide)) (rT2 ht334180 (by decide))).trans he334221
                          have hs334523 : rStr γ [] F277511 F334513 := rStr_tr hs334222 hs334515
                          have kp334524 : F334513 q277512 = F277511 q277512 := (x334510).trans kp334223
                          have kp334525 : F334513 (γ 9 3) = F334212 (γ 9 3) := x334511
                          have he334526 : F334513 q277512 = .inr (22, [.ref (γ 9 0), .ref (γ 9 1), .ref (γ 9 2), .ref (γ 9 3), .ref (γ 9 4), .ref (γ 9 5), .ref (γ 9 6), .ref (γ 9 7), .ref (γ 9 8), .int p277521, .int p277522, .int p277523, .int p277524, .int p277525, .int p277526, .ref (γ 9 15), .ref (γ 9 16), .ref (γ 9 17), .ref (γ 9 18), .ref (γ 9 19), .ref (γ 9 20), .ref (γ 9 21), .ref (γ 9 22), .int p277527, .int p277528, .int p277529, .int p277530, .int p277531, .ref q277519, .ref (γ 9 29), .int p277532, .ref (γ 9 31), .int p277533, .int p277534, .int p277535, .ref q277520]) := (x334510).trans he334224
                          change G _ _ _ _ _ _ _ _ _ _ _
                          refine G_widen (cs' := 0) (sl' := 0) (by omega) (by omega) ?_
                          obtain ⟨z334527, hz334527⟩ : ∃ z : Int32, z = g334132 + Int32.ofInt (-1) := ⟨_, rfl⟩
                          have ez334527 : z334527.toInt = g334132.toInt + (-1) := gI_inc hz334527 (by decide) bg334132' (by decide) (by decide)
                          have bz334527 : gB z334527 (-1) 999998 := ⟨by omega, by omega⟩
                          refine G_iinc (L' := [(5, .int z334527), (8, .int (-1)), (7, .int o334237), (6, .ref q334177), (4, .ref q332338), (3, .int g331659), (0, .ref q277512), (1, .ref q277513), (2, .int p277514)]) z334527 3 dr_cX17_graph_284 rfl hz334527.symm (Nat.le_of_ble_eq_true rfl) rfl ?_
                          refine G_goto 109 dr_cX17_graph_287 (by decide +kernel) ?_
                          refine G_lv (L' := [(5, .int z334527), (4, .ref q332338), (3, .int g331659), (0, .ref q277512), (1, .ref q277513), (2, .int p277514)]) [0, 4, 5, 6, 7, 8] rfl ?_
                          exact ih109_334138 F334513 z334527 (gB_w bz334527 (by decide) (by decide)) hT334514 hs334523 (by omega) (fun h0 => by have z := gr334228 h0; rw [← kp334525] at z; rw [show ((g334132.toInt : Int).toNat : Nat) = (z334527.toInt + 1 : Int).toNat by omega] at z; exact z) kp334524 (fun k e1 ht => kt109_334139 k e1 (fun R c1 c2 c3 c4 c5 c6 c7 c8 c9 c10 c11 => c4 F334133 g334132 q332348 q334177 p334159 F334212 p334192 p334193 p334196 o334237 F334513 z334527 k e1 bg334132 hT334134 hs334135 x334136 x334137 x334138 r334153 fq334154 hx334178 fq334182 ht334188 hT334213 hs334214 x334209 x334210 ht334211 fq334229 fq334230 fq334231 bo334237 ht334238 r334500 r334502 r334504 hT334514 hs334515 x334510 x334511 ht334512 ez334527 (ht R c1 c2 c3 c4 c5 c6 c7 c8 c9 c10 c11))) (mz_dn ez334527 (Int.le_trans (by decide) bg334132'.1) hm109_334138)
                        · have r334528 : 0 ≤ o334237.toInt := gj_nlt hc334503 (show Int32.toInt 0 = 0 by decide)
                          have bo334237' : gB o334237 0 1999 := ⟨by omega, by omega⟩
                          refine G_iload 0 dr_cX17_graph_180 rfl ?_
                          refine G_if_lt 204 dr_cX17_graph_182 (by decide +kernel) (fun _ => ?_) (fun hc => absurd hc (by decide))
                          refine G_iconst 0 dr_cX17_graph_204 (by decide +kernel) ?_
                          refine G_istore (L' := [(9, .int 0), (8, .int (-1)), (7, .int o334237), (6, .ref q334177), (5, .int g334132), (4, .ref q332338), (3, .int g331659), (0, .ref q277512), (1, .ref q277513), (2, .int p277514)]) dr_cX17_graph_205 (Nat.le_of_ble_eq_true rfl) rfl ?_
                          refine G_iconst 0 dr_cX17_graph_207 (by decide +kernel) ?_
                          refine G_istore (L' := [(10, .int 0), (9, .int 0), (8, .int (-1)), (7, .int o334237), (6, .ref q334177), (5, .int g334132), (4, .ref q332338), (3, .int g331659), (0, .ref q277512), (1, .ref q277513), (2, .int p277514)]) dr_cX17_graph_208 (Nat.le_of_ble_eq_true rfl) rfl ?_
                          have hlp210_334647 : ∀ (n210_334647 : Nat) (F334643 : Nat → va_E) (g334642 : Int32), gB g334642 0 32 → RS D I P277510 F334643 γ el → rStr γ [] F277511 F334643 → (gIp (p277514.toInt = 0) (rGr γ el F277511 q277513 (γ 6 (γ 1 q277513)) (cB (F334643 (γ 9 3))) (vB (g331659.toInt : Int).toNat (g334132.toInt : Int).toNat))) → (F334643 q277512 = F277511 q277512) → (∀ (k : Nat) (e1 : Nat → va_E), tl_RModel_graph_210_2 D I γ el P277510 F277511 p277514 q277513 g331659 g334132 q277512 o334237 F334643 g334642 k e1 → tl_RModel_graph_210_2 D I γ el P277510 F277511 p277514 q277513 g331659 g334132 q277512 o334237 F334212 (0 : Int32) k e1) → ((33 : Int) - g334642.toInt).toNat < n210_334647 → G (gV D I) l (gRm 5 111 0 0) (gMA (gV D I) (pt_277516_SpillForgeModel_graph D I γ el P277510 F277511 q277512 q277513 p277514) gNA 0 0) ky_277516_SpillForgeModel_graph 210 [(10, .int g334642), (9, .int 0), (8, .int (-1)), (7, .int o334237), (6, .ref q334177), (5, .int g334132), (4, .ref q332338), (3, .int g331659), (0, .ref q277512), (1, .ref q277513), (2, .int p277514)] [] (va_pl P277510 F334643) 0 0 := by
                            intro n210_334647
                            induction n210_334647 with
                            | zero => intro F334643 g334642 bg334642 hT334644 hs334645 x334646 x334647 kt210_334648 hm210_334647; exact absurd hm210_334647 (Nat.not_lt_zero _)
                            | succ n210_334647 ih210_334647 =>
                              intro F334643 g334642 bg334642 hT334644 hs334645 x334646 x334647 kt210_334648 hm210_334647
                              have hs334649 : rStr γ [] F334212 F334643 := fun b h0 hb hw => (hs334645 b h0 hb hw).trans (hs334222 b h0 hb hw).symm
                              have he334650 : F334643 q277513 = .inr (18, [.ref q331672, .ref q331673, .int p331674, .int p331675]) := (hs334649 q277513 (rT0 htq277513 (by decide)) (rT1 htq277513 (by decide)) (rT2 htq277513 (by decide))).trans he334215
                              have he334651 : F334643 q331672 = .inr (4, [.int p332319, .ref q332321, .int p332320]) := (hs334649 q331672 (rT0 ht331676 (by decide)) (rT1 ht331676 (by decide)) (rT2 ht331676 (by decide))).trans he334216
                              have he334652 : F334643 q332321 = .inl (I (.object "java/lang/Object"), n332335, .inr (.inr (.inr (.inr f332336)))) := (hs334649 q332321 (rT0 r332327 (by decide)) (rT1 r332327 (by decide)) (rT2 r332327 (by decide))).trans he334217
                              have he334653 : F334643 q332338 = .inr (17, [.ref q332348, .ref q332349, .int p332350, .int p332351]) := (hs334649 q332338 (rT0 ht332344 (by decide)) (rT1 ht332344 (by decide)) (rT2 ht332344 (by decide))).trans he334218
                              have he334654 : F334643 q332348 = .inr (4, [.int p334158, .ref q334160, .int p334159]) := (hs334649 q332348 (rT0 ht332352 (by decide)) (rT1 ht332352 (by decide)) (rT2 ht332352 (by decide))).trans he334219
                              have he334655 : F334643 q334160 = .inl (I (.object "java/lang/Object"), n334174, .inr (.inr (.inr (.inr f334175)))) := (hs334649 q334160 (rT0 r334166 (by decide)) (rT1 r334166 (by decide)) (rT2 r334166 (by decide))).trans he334220
                              have he334656 : F334643 q334177 = .inr (20, [.int p334192, .int p334193, .int p334194, .int p334195, .int p334196, .int p334197, .int p334198]) := (hs334649 q334177 (rT0 ht334180 (by decide)) (rT1 ht334180 (by decide)) (rT2 ht334180 (by decide))).trans he334221
                              have hs334657 : rStr γ [] F277511 F334643 := rStr_tr hs334222 hs334649
                              have he334658 : F334643 q277512 = .inr (22, [.ref (γ 9 0), .ref (γ 9 1), .ref (γ 9 2), .ref (γ 9 3), .ref (γ 9 4), .ref (γ 9 5), .ref (γ 9 6), .ref (γ 9 7), .ref (γ 9 8), .int p277521, .int p277522, .int p277523, .int p277524, .int p277525, .int p277526, .ref (γ 9 15), .ref (γ 9 16), .ref (γ 9 17), .ref (γ 9 18), .ref (γ 9 19), .ref (γ 9 20), .ref (γ 9 21), .ref (γ 9 22), .int p277527, .int p277528, .int p277529, .int p277530, .int p277531, .ref q277519, .ref (γ 9 29), .int p277532, .ref (γ 9 31), .int p277533, .int p277534, .int p277535, .ref q277520]) := x334647.trans he277518
                              have hm334659 : q277512 ∈ P277510 := RS_m hT334644 htq277512 (by decide)
                              refine G_iload 0 dr_cX17_graph_210 rfl ?_
                              refine G_bipush 32 dr_cX17_graph_212 (by decide +kernel) ?_
                              refine G_icmp_ge 243 dr_cX17_graph_214 (by decide +kernel) (fun hc334660 => ?_) (fun hc334660 => ?_)
                              · have r334661 : 32 ≤ g334642.toInt := gj_leL hc334660 (show Int32.toInt 32 = 32 by decide)
                                have bg334642' : gB g334642 32 32 := ⟨by omega, by omega⟩
                                have hx334662 : tl_RModel_graph_210_2 D I γ el P277510 F277511 p277514 q277513 g331659 g334132 q277512 o334237 F334212 (0 : Int32) 243 F334643 := kt210_334648 243 F334643 (fun R c1 c2 => c1 F334643 g334642 bg334642 hT334644 hs334645 x334646 x334647 r334661)
                                refine G_iload 2 dr_cX17_graph_243 rfl ?_
                                refine G_if_lt 265 dr_cX17_graph_245 (by decide +kernel) (fun _ => ?_) (fun hc => absurd hc (by decide))
                                refine G_aload_n 8 dr_cX17_graph_265 rfl ?_
                                have fq334663 : fR (F334643 q277512) 1 = (γ 9 1) := by rw [he334658]; rfl
                                refine Gp_get 1 hm334659 he334658 dr_cX17_graph_266 (gk_X17 D I) (Nat.le_of_ble_eq_true rfl) wr_7_75 rfl ?_
                                refine G_iload 3 dr_cX17_graph_269 rfl ?_
                                have hm334664 : (γ 9 1) ∈ P277510 := RS_m hT334644 ht277539 (by decide)
                                obtain ⟨f334666, he334665, hg334667⟩ := show rk_13 I γ (F334643 (γ 9 1)) from RS_o hT334644 ht277539
                                obtain ⟨q334668, hx334670⟩ : ∃ x, x = γ 11 o334237.toInt.toNat := ⟨_, rfl⟩
                                have ht334669 : rKd γ q334668 36 := by rw [hx334670]; exact (hg334667 _ (show o334237.toInt.toNat < 2000 by omega)).2.1
                                refine Gp_aald 5 hm334664 he334665 dr_cX17_graph_271 rfl rfl (gB_in bo334237' (by decide) (by decide)) ?_
                                rw [show f334666 o334237.toNatClampNeg = some q334668 from (hg334667 _ (show o334237.toInt.toNat < 2000 by omega)).1.trans (by rw [hx334670])]
                                change G _ _ _ _ _ _ _ (.ref q334668 :: _) _ _ _
                                refine G_iload 3 dr_cX17_graph_272 rfl ?_
                                have hm334671 : q334668 ∈ P277510 := RS_m hT334644 ht334669 (by decide)
                                obtain ⟨f334673, he334672, wf334673⟩ := show rk_36 I (F334643 q334668) from RS_o hT334644 ht334669
                                refine Gw_callS (As := [.ref q334668, .int o334237]) (gV_ok D I) (cp_1880_SpillForgeModel_clear l hl0 D I P277510 F334643 q334668 o334237 f334673 hm334671 he334672 bo334237' wf334673) dr_cX17_graph_274 ⟨wr_10_185, wr_1_14, wr_10_187, by decide, rfl, (Nat.le_of_ble_eq_true rfl), (Nat.le_of_ble_eq_true rfl)⟩ wr_10_186 (show 0 + 0 ≤ 0 by first | omega | decide) (show 0 + 0 ≤ 0 by first | omega | decide) (Nat.le_of_ble_eq_true rfl) (fun r334677 w334678 dc334674 ds334675 hp334676 => ?_) (fun _ _ _ _ _ z => z.elim)
                                obtain ⟨F334682, f334679, rfl, rfl, hfr334684, he334685, hdc, hds, x334680, ht334681⟩ := hp334676
                                have he334686 : F334682 q277513 = .inr (18, [.ref q331672, .ref q331673, .int p331674, .int p331675]) := (hfr334684 q277513 hm331670 (nm_c (rn_oa he334650 he334672) nm_n)).trans he334650
                                have he334687 : F334682 q331672 = .inr (4, [.int p332319, .ref q332321, .int p332320]) := (hfr334684 q331672 hm332317 (nm_c (rn_oa he334651 he334672) nm_n)).trans he334651
                                have he334688 : F334682 q332321 = .inl (I (.object "java/lang/Object"), n332335, .inr (.inr (.inr (.inr f332336)))) := (hfr334684 q332321 hm332337 (nm_c (rn_ref_long he334652 he334672) nm_n)).trans he334652
                                have he334689 : F334682 q332338 = .inr (17, [.ref q332348, .ref q332349, .int p332350, .int p332351]) := (hfr334684 q332338 hm332346 (nm_c (rn_oa he334653 he334672) nm_n)).trans he334653
                                have he334690 : F334682 q332348 = .inr (4, [.int p334158, .ref q334160, .int p334159]) := (hfr334684 q332348 hm334156 (nm_c (rn_oa he334654 he334672) nm_n)).trans he334654
                                have he334691 : F334682 q334160 = .inl (I (.object "java/lang/Object"), n334174, .inr (.inr (.inr (.inr f334175)))) := (hfr334684 q334160 hm334176 (nm_c (rn_ref_long he334655 he334672) nm_n)).trans he334655
                                have he334692 : F334682 q334177 = .inr (20, [.int p334192, .int p334193, .int p334194, .int p334195, .int p334196, .int p334197, .int p334198]) := (hfr334684 q334177 hm334190 (nm_c (rn_oa he334656 he334672) nm_n)).trans he334656
                                have he334693 : F334682 q277512 = .inr (22, [.ref (γ 9 0), .ref (γ 9 1), .ref (γ 9 2), .ref (γ 9 3), .ref (γ 9 4), .ref (γ 9 5), .ref (γ 9 6), .ref (γ 9 7), .ref (γ 9 8), .int p277521, .int p277522, .int p277523, .int p277524, .int p277525, .int p277526, .ref (γ 9 15), .ref (γ 9 16), .ref (γ 9 17), .ref (γ 9 18), .ref (γ 9 19), .ref (γ 9 20), .ref (γ 9 21), .ref (γ 9 22), .int p277527, .int p277528, .int p277529, .int p277530, .int p277531, .ref q277519, .ref (γ 9 29), .int p277532, .ref (γ 9 31), .int p277533, .int p277534, .int p277535, .ref q277520]) := (hfr334684 q277512 hm334659 (nm_c (rn_oa he334658 he334672) nm_n)).trans he334658
                                have he334694 : F334682 (γ 9 1) = .inl (I (.array .long), 2000, .inr (.inr (.inr (.inr f334666)))) := (hfr334684 (γ 9 1) hm334664 (nm_c (rn_ref_long he334665 he334672) nm_n)).trans he334665
                                have hfr334695 : rFr [q334668] P277510 F334643 F334682 := rFr_call (rSub_rf (P := P277510)) (rFr_rf (W := []) (P := P277510) (F := F334643)) hfr334684 (fun b hb hn => ⟨nm_n, (nm_c (fun e => hn (e ▸ List.mem_cons_self)) nm_n)⟩)
                                change G _ _ _ _ _ _ _ _ _ _ _
                                refine G_widen (cs' := 0) (sl' := 0) (by omega) (by omega) ?_
                                have hT334696 : RS D I P277510 F334682 γ el := RS_fr hT334644 hfr334695 ht334669 (by decide) ⟨f334679, he334685, x334680⟩
                                have hs334697 : rStr γ [] F277511 F334682 := rStr_fr hT334644 hs334645 hfr334695 ht334669 (by decide)
                                have kp334698 : F334682 q277512 = F277511 q277512 := (hfr334695 q277512 (RS_m hT334644 htq277512 (by decide)) (nm_c (rn_ty htq277512 ht334669 (by decide)) nm_n)).trans x334647
                                have kp334699 : F334682 (γ 9 3) = F334643 (γ 9 3) := hfr334695 (γ 9 3) (RS_m hT334644 ht277541 (by decide)) (nm_c (rn_ty ht277541 ht334669 (by decide)) nm_n)
                                refine G_aload_n 8 dr_cX17_graph_277 rfl ?_
                                refine G_aload 4 dr_cX17_graph_278 rfl ?_
                                refine G_iload_n 10 dr_cX17_graph_280 rfl ?_
                                refine Gw_callV (As := [.ref q334177, .int p277514]) (gV_ok D I) (ct_284347_SpillForgeModel_back l hl0 D I γ el P277510 F334682 q277512 q334177 p277514 hT334696 htq277512 ht334180 (gB_w bp277514' (by decide) (by decide))) dr_cX17_graph_281 ⟨wr_10_174, wr_1_14, wr_10_177, by decide, rfl, (Nat.le_of_ble_eq_true rfl), (Nat.le_of_ble_eq_true rfl)⟩ wr_10_176 wr_p_96 hm334659 he334693 rfl (show 0 + 0 ≤ 0 by first | omega | decide) (show 0 + 0 ≤ 0 by first | omega | decide) (Nat.le_of_ble_eq_true rfl) (fun r334703 w334704 dc334700 ds334701 hp334702 => ?_) (fun _ _ _ _ _ z => z.elim)
                                obtain ⟨F334708, rfl, rfl, hT334709, hs334710, hdc, hds, x334705, x334706, ht334707⟩ := hp334702
                                have he334711 : F334708 q277513 = .inr (18, [.ref q331672, .ref q331673, .int p331674, .int p331675]) := (hs334710 q277513 (rT0 htq277513 (by decide)) (rT1 htq277513 (by decide)) (rT2 htq277513 (by decide))).trans he334686
                                have he334712 : F334708 q331672 = .inr (4, [.int p332319, .ref q332321, .int p332320]) := (hs334710 q331672 (rT0 ht331676 (by decide)) (rT1 ht331676 (by decide)) (rT2 ht331676 (by decide))).trans he334687
                                have he334713 : F334708 q332321 = .inl (I (.object "java/lang/Object"), n332335, .inr (.inr (.inr (.inr f332336)))) := (hs334710 q332321 (rT0 r332327 (by decide)) (rT1 r332327 (by decide)) (rT2 r332327 (by decide))).trans he334688
                                have he334714 : F334708 q332338 = .inr (17, [.ref q332348, .ref q332349, .int p332350, .int p332351]) := (hs334710 q332338 (rT0 ht332344 (by decide)) (rT1 ht332344 (by decide)) (rT2 ht332344 (by decide))).trans he334689
                                have he334715 : F334708 q332348 = .inr (4, [.int p334158, .ref q334160, .int p334159]) := (hs334710 q332348 (rT0 ht332352 (by decide)) (rT1 ht332352 (by decide)) (rT2 ht332352 (by decide))).trans he334690
                                have he334716 : F334708 q334160 = .inl (I (.object "java/lang/Object"), n334174, .inr (.inr (.inr (.inr f334175)))) := (hs334710 q334160 (rT0 r334166 (by decide)) (rT1 r334166 (by decide)) (rT2 r334166 (by decide))).trans he334691
                                have he334717 : F334708 q334177 = .inr (20, [.int p334192, .int p334193, .int p334194, .int p334195, .int p334196, .int p334197, .int p334198]) := (hs334710 q334177 (rT0 ht334180 (by decide)) (rT1 ht334180 (by decide)) (rT2 ht334180 (by decide))).trans he334692
                                have hs334718 : rStr γ [] F277511 F334708 := rStr_tr hs334697 hs334710
                                have kp334719 : F334708 q277512 = F277511 q277512 := (x334705).trans kp334698
                                have kp334720 : F334708 (γ 9 3) = F334643 (γ 9 3) := (x334706).trans kp334699
                                have he334721 : F334708 q277512 = .inr (22, [.ref (γ 9 0), .ref (γ 9 1), .ref (γ 9 2), .ref (γ 9 3), .ref (γ 9 4), .ref (γ 9 5), .ref (γ 9 6), .ref (γ 9 7), .ref (γ 9 8), .int p277521, .int p277522, .int p277523, .int p277524, .int p277525, .int p277526, .ref (γ 9 15), .ref (γ 9 16), .ref (γ 9 17), .ref (γ 9 18), .ref (γ 9 19), .ref (γ 9 20), .ref (γ 9 21), .ref (γ 9 22), .int p277527, .int p277528, .int p277529, .int p277530, .int p277531, .ref q277519, .ref (γ 9 29), .int p277532, .ref (γ 9 31), .int p277533, .int p277534, .int p277535, .ref q277520]) := (x334705).trans he334693
                                change G _ _ _ _ _ _ _ _ _ _ _
                                refine G_widen (cs' := 0) (sl' := 0) (by omega) (by omega) ?_
                                obtain ⟨z334722, hz334722⟩ : ∃ z : Int32, z = g334132 + Int32.ofInt (-1) := ⟨_, rfl⟩
                                have ez334722 : z334722.toInt = g334132.toInt + (-1) := gI_inc hz334722 (by decide) bg334132' (by decide) (by decide)
                                have bz334722 : gB z334722 (-1) 999998 := ⟨by omega, by omega⟩
                                refine G_iinc (L' := [(5, .int z334722), (10, .int g334642), (9, .int 0), (8, .int (-1)), (7, .int o334237), (6, .ref q334177), (4, .ref q332338), (3, .int g331659), (0, .ref q277512), (1, .ref q277513), (2, .int p277514)]) z334722 5 dr_cX17_graph_284 rfl hz334722.symm (Nat.le_of_ble_eq_true rfl) rfl ?_
                                refine G_goto 109 dr_cX17_graph_287 (by decide +kernel) ?_
                                refine G_lv (L' := [(5, .int z334722), (4, .ref q332338), (3, .int g331659), (0, .ref q277512), (1, .ref q277513), (2, .int p277514)]) [0, 6, 7, 8, 9, 10] rfl ?_
                                exact ih109_334138 F334708 z334722 (gB_w bz334722 (by decide) (by decide)) hT334709 hs334718 (by omega) (fun h0 => by have z := x334646 h0; rw [← kp334720] at z; rw [show ((g334132.toInt : Int).toNat : Nat) = (z334722.toInt + 1 : Int).toNat by omega] at z; exact z) kp334719 (fun k e1 ht => kt109_334139 k e1 (fun R c1 c2 c3 c4 c5 c6 c7 c8 c9 c10 c11 => c5 F334133 g334132 q332348 q334177 p334159 F334212 p334192 p334193 p334196 o334237 F334643 q334668 f334673 f334679 F334682 F334708 z334722 k e1 bg334132 hT334134 hs334135 x334136 x334137 x334138 r334153 fq334154 hx334178 fq334182 ht334188 hT334213 hs334214 x334209 x334210 ht334211 fq334229 fq334230 fq334231 bo334237 ht334238 r334500 r334502 r334528 hx334662 fq334663 hx334670 he334672 ht334681 hfr334695 he334685 hT334696 hT334709 hs334710 x334705 x334706 ht334707 ez334722 (ht R c1 c2 c3 c4 c5 c6 c7 c8 c9 c10 c11))) (mz_dn ez334722 (Int.le_trans (by decide) bg334132'.1) hm109_334138)
                              · have r334723 : g334642.toInt < 32 := gj_nleL hc334660 (show Int32.toInt 32 = 32 by decide)
                                have bg334642' : gB g334642 0 31 := ⟨by omega, by omega⟩
                                refine G_aload_n 8 dr_cX17_graph_217 rfl ?_
                                have fq334724 : fR (F334643 q277512) 1 = (γ 9 1) := by rw [he334658]; rfl
                                refine Gp_get 1 hm334659 he334658 dr_cX17_graph_218 (gk_X17 D I) (Nat.le_of_ble_eq_true rfl) wr_7_75 rfl ?_
                                refine G_iload 3 dr_cX17_graph_221 rfl ?_
                                have hm334725 : (γ 9 1) ∈ P277510 := RS_m hT334644 ht277539 (by decide)
                                obtain ⟨f334727, he334726, hg334728⟩ := show rk_13 I γ (F334643 (γ 9 1)) from RS_o hT334644 ht277539
                                obtain ⟨q334729, hx334731⟩ : ∃ x, x = γ 11 o334237.toInt.toNat := ⟨_, rfl⟩
                                have ht334730 : rKd γ q334729 36 := by rw [hx334731]; exact (hg334728 _ (show o334237.toInt.toNat < 2000 by omega)).2.1
                                refine Gp_aald 5 hm334725 he334726 dr_cX17_graph_223 rfl rfl (gB_in bo334237' (by decide) (by decide)) ?_
                                rw [show f334727 o334237.toNatClampNeg = some q334729 from (hg334728 _ (show o334237.toInt.toNat < 2000 by omega)).1.trans (by rw [hx334731])]
                                change G _ _ _ _ _ _ _ (.ref q334729 :: _) _ _ _
                                refine G_iload 0 dr_cX17_graph_224 rfl ?_
                                refine G_dup2_11 dr_cX17_graph_226 rfl rfl ?_
                                have hm334732 : q334729 ∈ P277510 := RS_m hT334644 ht334730 (by decide)
                                obtain ⟨f334734, he334733, wf334734⟩ := show rk_36 I (F334643 q334729) from RS_o hT334644 ht334730
                                refine Gp_lald 2 hm334732 he334733 dr_cX17_graph_227 rfl (gB_in bg334642' (by decide) (by decide)) (G_namL fun u334735 hu334735 => ?_)
                                have qu334735 : lb_Q u334735 (2000 - 64 * g334642.toInt) := lb_Wld hu334735 wf334734 (by omega) (by omega) (lb_Mod0 (by omega) (by omega))
                                refine G_aload_n 8 dr_cX17_graph_228 rfl ?_
                                have fq334736 : fR (F334643 q277512) 2 = (γ 9 2) := by rw [he334658]; rfl
                                refine Gp_get 2 hm334659 he334658 dr_cX17_graph_229 (gk_X17 D I) (Nat.le_of_ble_eq_true rfl) wr_7_76 rfl ?_
                                refine G_iload 0 dr_cX17_graph_232 rfl ?_
                                have hm334737 : (γ 9 2) ∈ P277510 := RS_m hT334644 ht277540 (by decide)
                                obtain ⟨f334739, he334738, wf334739⟩ := show rk_35 I (F334643 (γ 9 2)) from RS_o hT334644 ht277540
                                refine Gp_lald 2 hm334737 he334738 dr_cX17_graph_234 rfl (gB_in bg334642' (by decide) (by decide)) (G_namL fun u334740 hu334740 => ?_)
                                have qu334740 : lb_Q u334740 (2000 - 64 * g334642.toInt) := lb_Wld hu334740 wf334739 (by omega) (by omega) (lb_Mod0 (by omega) (by omega))
                                refine G_lor dr_cX17_graph_235 (G_namL fun u334741 hu334741 => ?_)
                                have qu334741 : lb_Q u334741 (2000 - 64 * g334642.toInt) := lb_Qor hu334741 qu334735 qu334740
                                refine Gp_last 2 hm334732 he334733 dr_cX17_graph_236 rfl (gB_in bg334642' (by decide) (by decide)) (fun F334742 e334743 n334744 => ?_)
                                obtain ⟨f334745, hf334745⟩ : ∃ z, z = vp_updL f334734 g334642.toNatClampNeg u334741 := ⟨_, rfl⟩
                                rw [← hf334745] at e334743
                                have he334746 : F334742 q277513 = .inr (18, [.ref q331672, .ref q331673, .int p331674, .int p331675]) := (n334744 q277513 (rn_oa he334650 he334733)).trans he334650
                                have he334747 : F334742 q331672 = .inr (4, [.int p332319, .ref q332321, .int p332320]) := (n334744 q331672 (rn_oa he334651 he334733)).trans he334651
                                have he334748 : F334742 q332321 = .inl (I (.object "java/lang/Object"), n332335, .inr (.inr (.inr (.inr f332336)))) := (n334744 q332321 (rn_ref_long he334652 he334733)).trans he334652
                                have he334749 : F334742 q332338 = .inr (17, [.ref q332348, .ref q332349, .int p332350, .int p332351]) := (n334744 q332338 (rn_oa he334653 he334733)).trans he334653
                                have he334750 : F334742 q332348 = .inr (4, [.int p334158, .ref q334160, .int p334159]) := (n334744 q332348 (rn_oa he334654 he334733)).trans he334654
                                have he334751 : F334742 q334160 = .inl (I (.object "java/lang/Object"), n334174, .inr (.inr (.inr (.inr f334175)))) := (n334744 q334160 (rn_ref_long he334655 he334733)).trans he334655
                                have he334752 : F334742 q334177 = .inr (20, [.int p334192, .int p334193, .int p334194, .int p334195, .int p334196, .int p334197, .int p334198]) := (n334744 q334177 (rn_oa he334656 he334733)).trans he334656
                                have he334753 : F334742 q277512 = .inr (22, [.ref (γ 9 0), .ref (γ 9 1), .ref (γ 9 2), .ref (γ 9 3), .ref (γ 9 4), .ref (γ 9 5), .ref (γ 9 6), .ref (γ 9 7), .ref (γ 9 8), .int p277521, .int p277522, .int p277523, .int p277524, .int p277525, .int p277526, .ref (γ 9 15), .ref (γ 9 16), .ref (γ 9 17), .ref (γ 9 18), .ref (γ 9 19), .ref (γ 9 20), .ref (γ 9 21), .ref (γ 9 22), .int p277527, .int p277528, .int p277529, .int p277530, .int p277531, .ref q277519, .ref (γ 9 29), .int p277532, .ref (γ 9 31), .int p277533, .int p277534, .int p277535, .ref q277520]) := (n334744 q277512 (rn_oa he334658 he334733)).trans he334658
                                have he334754 : F334742 (γ 9 1) = .inl (I (.array .long), 2000, .inr (.inr (.inr (.inr f334727)))) := (n334744 (γ 9 1) (rn_ref_long he334726 he334733)).trans he334726
                                have he334755 : F334742 (γ 9 2) = .inl (I .long, 32, .inr (.inl f334739)) := (n334744 (γ 9 2) (rn_ty ht277540 ht334730 (by decide))).trans he334738
                                have he334756 : F334742 q334729 = .inl (I .long, 32, .inr (.inl f334745)) := e334743
                                have hs334757 : rStr γ [] F277511 F334742 := rStr_put hs334645 n334744 ht334730 (by decide)
                                have kp334758 : F334742 q277512 = F277511 q277512 := (n334744 q277512 (rn_ty htq277512 ht334730 (by decide))).trans x334647
                                have kp334759 : F334742 (γ 9 3) = F334643 (γ 9 3) := n334744 (γ 9 3) (rn_ty ht277541 ht334730 (by decide))
                                have wf334745 : lb_W f334745 (32) (32) (2000) := lb_Wst hf334745 wf334734 (by omega) (lb_Mod0 (by omega) (by omega)) qu334741
                                obtain ⟨z334760, hz334760⟩ : ∃ z : Int32, z = g334642 + Int32.ofInt 1 := ⟨_, rfl⟩
                                have ez334760 : z334760.toInt = g334642.toInt + 1 := gI_inc hz334760 (by decide) bg334642' (by decide) (by decide)
                                have bz334760 : gB z334760 1 32 := ⟨by omega, by omega⟩
                                refine G_iinc (L' := [(10, .int z334760), (9, .int 0), (8, .int (-1)), (7, .int o334237), (6, .ref q334177), (5, .int g334132), (4, .ref q332338), (3, .int g331659), (0, .ref q277512), (1, .ref q277513), (2, .int p277514)]) z334760 0 dr_cX17_graph_237 rfl hz334760.symm (Nat.le_of_ble_eq_true rfl) rfl ?_
                                refine G_goto 210 dr_cX17_graph_240 (by decide +kernel) ?_
                                have hT334761 : RS D I P277510 F334742 γ el := RS_set hT334644 n334744 ht334730 (by decide) ⟨f334745, he334756, wf334745⟩
                                exact ih210_334647 F334742 z334760 (gB_w bz334760 (by decide) (by decide)) hT334761 hs334757 (by rw [kp334759]; exact x334646) kp334758 (fun k e1 ht => kt210_334648 k e1 (fun R c1 c2 => c2 F334643 g334642 q334729 f334734 u334735 f334739 u334740 u334741 f334745 F334742 z334760 k e1 bg334642 hT334644 hs334645 x334646 x334647 r334723 fq334724 hx334731 he334733 hu334735 fq334736 he334738 hu334740 hu334741 hf334745 n334744 he334756 ez334760 (ht R c1 c2))) (mz_up ez334760 (Int.le_trans bg334642'.2 (by decide)) hm210_334647)
                          exact hlp210_334647 (((33 : Int) - 0).toNat + 1) F334212 0 (gB_w (gBl (show Int32.toInt 0 = 0 by decide)) (by decide) (by decide)) hT334213 hs334222 gr334228 kp334223 (fun k e1 ht => ht) (Nat.lt_succ_self _)
                      · have r334762 : p334192.toInt = 0 := gj_eq hc334501 (show Int32.toInt 0 = 0 by decide)
                        have bp334192' : gB p334192 0 0 := ⟨by omega, by omega⟩
                        refine G_aload 1 dr_cX17_graph_156 rfl ?_
                        have fq334763 : fI (F334212 q334177) 5 = p334197 := by rw [he334221]; rfl
                        refine Gp_get 5 hm334190 he334221 dr_cX17_graph_158 (gk_X15 D I) (Nat.le_of_ble_eq_true rfl) wr_9_197 rfl ?_
                        refine G_if_eq 172 dr_cX17_graph_161 (by decide +kernel) (fun hc334764 => ?_) (fun hc334764 => ?_)
                        · have r334765 : p334197.toInt = 0 := gj_eq hc334764 (show Int32.toInt 0 = 0 by decide)
                          have bp334197' : gB p334197 0 0 := gB_t0 r334765
                          refine G_iconst (-1) dr_cX17_graph_172 (by decide +kernel) ?_
                          refine G_istore (L' := [(8, .int (-1)), (7, .int o334237), (6, .ref q334177), (5, .int g334132), (4, .ref q332338), (3, .int g331659), (0, .ref q277512), (1, .ref q277513), (2, .int p277514)]) dr_cX17_graph_173 (Nat.le_of_ble_eq_true rfl) rfl ?_
                          refine G_iload 1 dr_cX17_graph_175 rfl ?_
                          refine G_if_lt 277 dr_cX17_graph_177 (by decide +kernel) (fun hc334766 => ?_) (fun hc334766 => ?_)
                          · have r334767 : o334237.toInt < 0 := gj_lt hc334766 (show Int32.toInt 0 = 0 by decide)
                            have bo334237' : gB o334237 (-1) (-1) := ⟨by omega, by omega⟩
                            refine G_aload_n 6 dr_cX17_graph_277 rfl ?_
                            refine G_aload 2 dr_cX17_graph_278 rfl ?_
                            refine G_iload_n 8 dr_cX17_graph_280 rfl ?_
                            refine Gw_callV (As := [.ref q334177, .int p277514]) (gV_ok D I) (ct_284347_SpillForgeModel_back l hl0 D I γ el P277510 F334212 q277512 q334177 p277514 hT334213 htq277512 ht334180 (gB_w bp277514' (by decide) (by decide))) dr_cX17_graph_281 ⟨wr_10_174, wr_1_14, wr_10_177, by decide, rfl, (Nat.le_of_ble_eq_true rfl), (Nat.le_of_ble_eq_true rfl)⟩ wr_10_176 wr_p_96 hm334148 he334224 rfl (show 0 + 0 ≤ 0 by first | omega | decide) (show 0 + 0 ≤ 0 by first | omega | decide) (Nat.le_of_ble_eq_true rfl) (fun r334771 w334772 dc334768 ds334769 hp334770 => ?_) (fun _ _ _ _ _ z => z.elim)
                            obtain ⟨F334776, rfl, rfl, hT334777, hs334778, hdc, hds, x334773, x334774, ht334775⟩ := hp334770
                            have he334779 : F334776 q277513 = .inr (18, [.ref q331672, .ref q331673, .int p331674, .int p331675]) := (hs334778 q277513 (rT0 htq277513 (by decide)) (rT1 htq277513 (by decide)) (rT2 htq277513 (by decide))).trans he334215
                            have he334780 : F334776 q331672 = .inr (4, [.int p332319, .ref q332321, .int p332320]) := (hs334778 q331672 (rT0 ht331676 (by decide)) (rT1 ht331676 (by decide)) (rT2 ht331676 (by decide))).trans he334216
                            have he334781 : F334776 q332321 = .inl (I (.object "java/lang/Object"), n332335, .inr (.inr (.inr (.inr f332336)))) := (hs334778 q332321 (rT0 r332327 (by decide)) (rT1 r332327 (by decide)) (rT2 r332327 (by decide))).trans he334217
                            have he334782 : F334776 q332338 = .inr (17, [.ref q332348, .ref q332349, .int p332350, .int p332351]) := (hs334778 q332338 (rT0 ht332344 (by decide)) (rT1 ht332344 (by decide)) (rT2 ht332344 (by decide))).trans he334218
                            have he334783 : F334776 q332348 = .inr (4, [.int p334158, .ref q334160, .int p334159]) := (hs334778 q332348 (rT0 ht332352 (by decide)) (rT1 ht332352 (by decide)) (rT2 ht332352 (by decide))).trans he334219
                            have he334784 : F334776 q334160 = .inl (I (.object "java/lang/Object"), n334174, .inr (.inr (.inr (.inr f334175)))) := (hs334778 q334160 (rT0 r334166 (by decide)) (rT1 r334166 (by decide)) (rT2 r334166 (by decide))).trans he334220
                            have he334785 : F334776 q334177 = .inr (20, [.int p334192, .int p334193, .int p334194, .int p334195, .int p334196, .int p334197, .int p334198]) := (hs334778 q334177 (rT0 ht334180 (by decide)) (rT1 ht334180 (by decide)) (rT2 ht334180 (by decide))).trans he334221
                            have hs334786 : rStr γ [] F277511 F334776 := rStr_tr hs334222 hs334778
                            have kp334787 : F334776 q277512 = F277511 q277512 := (x334773).trans kp334223
                            have kp334788 : F334776 (γ 9 3) = F334212 (γ 9 3) := x334774
                            have he334789 : F334776 q277512 = .inr (22, [.ref (γ 9 0), .ref (γ 9 1), .ref (γ 9 2), .ref (γ 9 3), .ref (γ 9 4), .ref (γ 9 5), .ref (γ 9 6), .ref (γ 9 7), .ref (γ 9 8), .int p277521, .int p277522, .int p277523, .int p277524, .int p277525, .int p277526, .ref (γ 9 15), .ref (γ 9 16), .ref (γ 9 17), .ref (γ 9 18), .ref (γ 9 19), .ref (γ 9 20), .ref (γ 9 21), .ref (γ 9 22), .int p277527, .int p277528, .int p277529, .int p277530, .int p277531, .ref q277519, .ref (γ 9 29), .int p277532, .ref (γ 9 31), .int p277533, .int p277534, .int p277535, .ref q277520]) := (x334773).trans he334224
                            change G _ _ _ _ _ _ _ _ _ _ _
                            refine G_widen (cs' := 0) (sl' := 0) (by omega) (by omega) ?_
                            obtain ⟨z334790, hz334790⟩ : ∃ z : Int32, z = g334132 + Int32.ofInt (-1) := ⟨_, rfl⟩
                            have ez334790 : z334790.toInt = g334132.toInt + (-1) := gI_inc hz334790 (by decide) bg334132' (by decide) (by decide)
                            have bz334790 : gB z334790 (-1) 999998 := ⟨by omega, by omega⟩
                            refine G_iinc (L' := [(5, .int z334790), (8, .int (-1)), (7, .int o334237), (6, .ref q334177), (4, .ref q332338), (3, .int g331659), (0, .ref q277512), (1, .ref q277513), (2, .int p277514)]) z334790 3 dr_cX17_graph_284 rfl hz334790.symm (Nat.le_of_ble_eq_true rfl) rfl ?_
                            refine G_goto 109 dr_cX17_graph_287 (by decide +kernel) ?_
                            refine G_lv (L' := [(5, .int z334790), (4, .ref q332338), (3, .int g331659), (0, .ref q277512), (1, .ref q277513), (2, .int p277514)]) [0, 4, 5, 6, 7, 8] rfl ?_
                            exact ih109_334138 F334776 z334790 (gB_w bz334790 (by decide) (by decide)) hT334777 hs334786 (by omega) (fun h0 => by have z := gr334228 h0; rw [← kp334788] at z; rw [show ((g334132.toInt : Int).toNat : Nat) = (z334790.toInt + 1 : Int).toNat by omega] at z; exact z) kp334787 (fun k e1 ht => kt109_334139 k e1 (fun R c1 c2 c3 c4 c5 c6 c7 c8 c9 c10 c11 => c6 F334133 g334132 q332348 q334177 p334159 F334212 p334192 p334193 p334196 o334237 p334197 F334776 z334790 k e1 bg334132 hT334134 hs334135 x334136 x334137 x334138 r334153 fq334154 hx334178 fq334182 ht334188 hT334213 hs334214 x334209 x334210 ht334211 fq334229 fq334230 fq334231 bo334237 ht334238 r334500 r334762 fq334763 r334765 r334767 hT334777 hs334778 x334773 x334774 ht334775 ez334790 (ht R c1 c2 c3 c4 c5 c6 c7 c8 c9 c10 c11))) (mz_dn ez334790 (Int.le_trans (by decide) bg334132'.1) hm109_334138)
                          · have r334791 : 0 ≤ o334237.toInt := gj_nlt hc334766 (show Int32.toInt 0 = 0 by decide)
                            have bo334237' : gB o334237 0 1999 := ⟨by omega, by omega⟩
                            refine G_iload 0 dr_cX17_graph_180 rfl ?_
                            refine G_if_lt 204 dr_cX17_graph_182 (by decide +kernel) (fun _ => ?_) (fun hc => absurd hc (by decide))
                            refine G_iconst 0 dr_cX17_graph_204 (by decide +kernel) ?_
                            refine G_istore (L' := [(9, .int 0), (8, .int (-1)), (7, .int o334237), (6, .ref q334177), (5, .int g334132), (4, .ref q332338), (3, .int g331659), (0, .ref q277512), (1, .ref q277513), (2, .int p277514)]) dr_cX17_graph_205 (Nat.le_of_ble_eq_true rfl) rfl ?_
                            refine G_iconst 0 dr_cX17_graph_207 (by decide +kernel) ?_
                            refine G_istore (L' := [(10, .int 0), (9, .int 0), (8, .int (-1)), (7, .int o334237), (6, .ref q334177), (5, .int g334132), (4, .ref q332338), (3, .int g331659), (0, .ref q277512), (1, .ref q277513), (2, .int p277514)]) dr_cX17_graph_208 (Nat.le_of_ble_eq_true rfl) rfl ?_
                            have hlp210_334910 : ∀ (n210_334910 : Nat) (F334906 : Nat → va_E) (g334905 : Int32), gB g334905 0 32 → RS D I P277510 F334906 γ el → rStr γ [] F277511 F334906 → (gIp (p277514.toInt = 0) (rGr γ el F277511 q277513 (γ 6 (γ 1 q277513)) (cB (F334906 (γ 9 3))) (vB (g331659.toInt : Int).toNat (g334132.toInt : Int).toNat))) → (F334906 q277512 = F277511 q277512) → (∀ (k : Nat) (e1 : Nat → va_E), tl_RModel_graph_210_3 D I γ el P277510 F277511 p277514 q277513 g331659 g334132 q277512 o334237 F334906 g334905 k e1 → tl_RModel_graph_210_3 D I γ el P277510 F277511 p277514 q277513 g331659 g334132 q277512 o334237 F334212 (0 : Int32) k e1) → ((33 : Int) - g334905.toInt).toNat < n210_334910 → G (gV D I) l (gRm 5 111 0 0) (gMA (gV D I) (pt_277516_SpillForgeModel_graph D I γ el P277510 F277511 q277512 q277513 p277514) gNA 0 0) ky_277516_SpillForgeModel_graph 210 [(10, .int g334905), (9, .int 0), (8, .int (-1)), (7, .int o334237), (6, .ref q334177), (5, .int g334132), (4, .ref q332338), (3, .int g331659), (0, .ref q277512), (1, .ref q277513), (2, .int p277514)] [] (va_pl P277510 F334906) 0 0 := by
                              intro n210_334910
                              induction n210_334910 with
                              | zero => intro F334906 g334905 bg334905 hT334907 hs334908 x334909 x334910 kt210_334911 hm210_334910; exact absurd hm210_334910 (Nat.not_lt_zero _)
                              | succ n210_334910 ih210_334910 =>
                                intro F334906 g334905 bg334905 hT334907 hs334908 x334909 x334910 kt210_334911 hm210_334910
                                have hs334912 : rStr γ [] F334212 F334906 := fun b h0 hb hw => (hs334908 b h0 hb hw).trans (hs334222 b h0 hb hw).symm
                                have he334913 : F334906 q277513 = .inr (18, [.ref q331672, .ref q331673, .int p331674, .int p331675]) := (hs334912 q277513 (rT0 htq277513 (by decide)) (rT1 htq277513 (by decide)) (rT2 htq277513 (by decide))).trans he334215
                                have he334914 : F334906 q331672 = .inr (4, [.int p332319, .ref q332321, .int p332320]) := (hs334912 q331672 (rT0 ht331676 (by decide)) (rT1 ht331676 (by decide)) (rT2 ht331676 (by decide))).trans he334216
                                have he334915 : F334906 q332321 = .inl (I (.object "java/lang/Object"), n332335, .inr (.inr (.inr (.inr f332336)))) := (hs334912 q332321 (rT0 r332327 (by decide)) (rT1 r332327 (by decide)) (rT2 r332327 (by decide))).trans he334217
                                have he334916 : F334906 q332338 = .inr (17, [.ref q332348, .ref q332349, .int p332350, .int p332351]) := (hs334912 q332338 (rT0 ht332344 (by decide)) (rT1 ht332344 (by decide)) (rT2 ht332344 (by decide))).trans he334218
                                have he334917 : F334906 q332348 = .inr (4, [.int p334158, .ref q334160, .int p334159]) := (hs334912 q332348 (rT0 ht332352 (by decide)) (rT1 ht332352 (by decide)) (rT2 ht332352 (by decide))).trans he334219
                                have he334918 : F334906 q334160 = .inl (I (.object "java/lang/Object"), n334174, .inr (.inr (.inr (.inr f334175)))) := (hs334912 q334160 (rT0 r334166 (by decide)) (rT1 r334166 (by decide)) (rT2 r334166 (by decide))).trans he334220
                                have he334919 : F334906 q334177 = .inr (20, [.int p334192, .int p334193, .int p334194, .int p334195, .int p334196, .int p334197, .int p334198]) := (hs334912 q334177 (rT0 ht334180 (by decide)) (rT1 ht334180 (by decide)) (rT2 ht334180 (by decide))).trans he334221
                                have hs334920 : rStr γ [] F277511 F334906 := rStr_tr hs334222 hs334912
                                have he334921 : F334906 q277512 = .inr (22, [.ref (γ 9 0), .ref (γ 9 1), .ref (γ 9 2), .ref (γ 9 3), .ref (γ 9 4), .ref (γ 9 5), .ref (γ 9 6), .ref (γ 9 7), .ref (γ 9 8), .int p277521, .int p277522, .int p277523, .int p277524, .int p277525, .int p277526, .ref (γ 9 15), .ref (γ 9 16), .ref (γ 9 17), .ref (γ 9 18), .ref (γ 9 19), .ref (γ 9 20), .ref (γ 9 21), .ref (γ 9 22), .int p277527, .int p277528, .int p277529, .int p277530, .int p277531, .ref q277519, .ref (γ 9 29), .int p277532, .ref (γ 9 31), .int p277533, .int p277534, .int p277535, .ref q277520]) := x334910.trans he277518
                                have hm334922 : q277512 ∈ P277510 := RS_m hT334907 htq277512 (by decide)
                                refine G_iload 0 dr_cX17_graph_210 rfl ?_
                                refine G_bipush 32 dr_cX17_graph_212 (by decide +kernel) ?_
                                refine G_icmp_ge 243 dr_cX17_graph_214 (by decide +kernel) (fun hc334923 => ?_) (fun hc334923 => ?_)
                                · have r334924 : 32 ≤ g334905.toInt := gj_leL hc334923 (show Int32.toInt 32 = 32 by decide)
                                  have bg334905' : gB g334905 32 32 := ⟨by omega, by omega⟩
                                  have hx334925 : tl_RModel_graph_210_3 D I γ el P277510 F277511 p277514 q277513 g331659 g334132 q277512 o334237 F334212 (0 : Int32) 243 F334906 := kt210_334911 243 F334906 (fun R c1 c2 => c1 F334906 g334905 bg334905 hT334907 hs334908 x334909 x334910 r334924)
                                  refine G_iload 2 dr_cX17_graph_243 rfl ?_
                                  refine G_if_lt 265 dr_cX17_graph_245 (by decide +kernel) (fun _ => ?_) (fun hc => absurd hc (by decide))
                                  refine G_aload_n 8 dr_cX17_graph_265 rfl ?_
                                  have fq334926 : fR (F334906 q277512) 1 = (γ 9 1) := by rw [he334921]; rfl
                                  refine Gp_get 1 hm334922 he334921 dr_cX17_graph_266 (gk_X17 D I) (Nat.le_of_ble_eq_true rfl) wr_7_75 rfl ?_
                                  refine G_iload 3 dr_cX17_graph_269 rfl ?_
                                  have hm334927 : (γ 9 1) ∈ P277510 := RS_m hT334907 ht277539 (by decide)
                                  obtain ⟨f334929, he334928, hg334930⟩ := show rk_13 I γ (F334906 (γ 9 1)) from RS_o hT334907 ht277539
                                  obtain ⟨q334931, hx334933⟩ : ∃ x, x = γ 11 o334237.toInt.toNat := ⟨_, rfl⟩
                                  have ht334932 : rKd γ q334931 36 := by rw [hx334933]; exact (hg334930 _ (show o334237.toInt.toNat < 2000 by omega)).2.1
                                  refine Gp_aald 5 hm334927 he334928 dr_cX17_graph_271 rfl rfl (gB_in bo334237' (by decide) (by decide)) ?_
                                  rw [show f334929 o334237.toNatClampNeg = some q334931 from (hg334930 _ (show o334237.toInt.toNat < 2000 by omega)).1.trans (by rw [hx334933])]
                                  change G _ _ _ _ _ _ _ (.ref q334931 :: _) _ _ _
                                  refine G_iload 3 dr_cX17_graph_272 rfl ?_
                                  have hm334934 : q334931 ∈ P277510 := RS_m hT334907 ht334932 (by decide)
                                  obtain ⟨f334936, he334935, wf334936⟩ := show rk_36 I (F334906 q334931) from RS_o hT334907 ht334932
                                  refine Gw_callS (As := [.ref q334931, .int o334237]) (gV_ok D I) (cp_1880_SpillForgeModel_clear l hl0 D I P277510 F334906 q334931 o334237 f334936 hm334934 he334935 bo334237' wf334936) dr_cX17_graph_274 ⟨wr_10_185, wr_1_14, wr_10_187, by decide, rfl, (Nat.le_of_ble_eq_true rfl), (Nat.le_of_ble_eq_true rfl)⟩ wr_10_186 (show 0 + 0 ≤ 0 by first | omega | decide) (show 0 + 0 ≤ 0 by first | omega | decide) (Nat.le_of_ble_eq_true rfl) (fun r334940 w334941 dc334937 ds334938 hp334939 => ?_) (fun _ _ _ _ _ z => z.elim)
                                  obtain ⟨F334945, f334942, rfl, rfl, hfr334947, he334948, hdc, hds, x334943, ht334944⟩ := hp334939
                                  have he334949 : F334945 q277513 = .inr (18, [.ref q331672, .ref q331673, .int p331674, .int p331675]) := (hfr334947 q277513 hm331670 (nm_c (rn_oa he334913 he334935) nm_n)).trans he334913
                                  have he334950 : F334945 q331672 = .inr (4, [.int p332319, .ref q332321, .int p332320]) := (hfr334947 q331672 hm332317 (nm_c (rn_oa he334914 he334935) nm_n)).trans he334914
                                  have he334951 : F334945 q332321 = .inl (I (.object "java/lang/Object"), n332335, .inr (.inr (.inr (.inr f332336)))) := (hfr334947 q332321 hm332337 (nm_c (rn_ref_long he334915 he334935) nm_n)).trans he334915
                                  have he334952 : F334945 q332338 = .inr (17, [.ref q332348, .ref q332349, .int p332350, .int p332351]) := (hfr334947 q332338 hm332346 (nm_c (rn_oa he334916 he334935) nm_n)).trans he334916
                                  have he334953 : F334945 q332348 = .inr (4, [.int p334158, .ref q334160, .int p334159]) := (hfr334947 q332348 hm334156 (nm_c (rn_oa he334917 he334935) nm_n)).trans he334917
                                  have he334954 : F334945 q334160 = .inl (I (.object "java/lang/Object"), n334174, .inr (.inr (.inr (.inr f334175)))) := (hfr334947 q334160 hm334176 (nm_c (rn_ref_long he334918 he334935) nm_n)).trans he334918
                                  have he334955 : F334945 q334177 = .inr (20, [.int p334192, .int p334193, .int p334194, .int p334195, .int p334196, .int p334197, .int p334198]) := (hfr334947 q334177 hm334190 (nm_c (rn_oa he334919 he334935) nm_n)).trans he334919
                                  have he334956 : F334945 q277512 = .inr (22, [.ref (γ 9 0), .ref (γ 9 1), .ref (γ 9 2), .ref (γ 9 3), .ref (γ 9 4), .ref (γ 9 5), .ref (γ 9 6), .ref (γ 9 7), .ref (γ 9 8), .int p277521, .int p277522, .int p277523, .int p277524, .int p277525, .int p277526, .ref (γ 9 15), .ref (γ 9 16), .ref (γ 9 17), .ref (γ 9 18), .ref (γ 9 19), .ref (γ 9 20), .ref (γ 9 21), .ref (γ 9 22), .int p277527, .int p277528, .int p277529, .int p277530, .int p277531, .ref q277519, .ref (γ 9 29), .int p277532, .ref (γ 9 31), .int p277533, .int p277534, .int p277535, .ref q277520]) := (hfr334947 q277512 hm334922 (nm_c (rn_oa he334921 he334935) nm_n)).trans he334921
                                  have he334957 : F334945 (γ 9 1) = .inl (I (.array .long), 2000, .inr (.inr (.inr (.inr f334929)))) := (hfr334947 (γ 9 1) hm334927 (nm_c (rn_ref_long he334928 he334935) nm_n)).trans he334928
                                  have hfr334958 : rFr [q334931] P277510 F334906 F334945 := rFr_call (rSub_rf (P := P277510)) (rFr_rf (W := []) (P := P277510) (F := F334906)) hfr334947 (fun b hb hn => ⟨nm_n, (nm_c (fun e => hn (e ▸ List.mem_cons_self)) nm_n)⟩)
                                  change G _ _ _ _ _ _ _ _ _ _ _
                                  refine G_widen (cs' := 0) (sl' := 0) (by omega) (by omega) ?_
                                  have hT334959 : RS D I P277510 F334945 γ el := RS_fr hT334907 hfr334958 ht334932 (by decide) ⟨f334942, he334948, x334943⟩
                                  have hs334960 : rStr γ [] F277511 F334945 := rStr_fr hT334907 hs334908 hfr334958 ht334932 (by decide)
                                  have kp334961 : F334945 q277512 = F277511 q277512 := (hfr334958 q277512 (RS_m hT334907 htq277512 (by decide)) (nm_c (rn_ty htq277512 ht334932 (by decide)) nm_n)).trans x334910
                                  have kp334962 : F334945 (γ 9 3) = F334906 (γ 9 3) := hfr334958 (γ 9 3) (RS_m hT334907 ht277541 (by decide)) (nm_c (rn_ty ht277541 ht334932 (by decide)) nm_n)
                                  refine G_aload_n 8 dr_cX17_graph_277 rfl ?_
                                  refine G_aload 4 dr_cX17_graph_278 rfl ?_
                                  refine G_iload_n 10 dr_cX17_graph_280 rfl ?_
                                  refine Gw_callV (As := [.ref q334177, .int p277514]) (gV_ok D I) (ct_284347_SpillForgeModel_back l hl0 D I γ el P277510 F334945 q277512 q334177 p277514 hT334959 htq277512 ht334180 (gB_w bp277514' (by decide) (by decide))) dr_cX17_graph_281 ⟨wr_10_174, wr_1_14, wr_10_177, by decide, rfl, (Nat.le_of_ble_eq_true rfl), (Nat.le_of_ble_eq_true rfl)⟩ wr_10_176 wr_p_96 hm334922 he334956 rfl (show 0 + 0 ≤ 0 by first | omega | decide) (show 0 + 0 ≤ 0 by first | omega | decide) (Nat.le_of_ble_eq_true rfl) (fun r334966 w334967 dc334963 ds334964 hp334965 => ?_) (fun _ _ _ _ _ z => z.elim)
                                  obtain ⟨F334971, rfl, rfl, hT334972, hs334973, hdc, hds, x334968, x334969, ht334970⟩ := hp334965
                                  have he334974 : F334971 q277513 = .inr (18, [.ref q331672, .ref q331673, .int p331674, .int p331675]) := (hs334973 q277513 (rT0 htq277513 (by decide)) (rT1 htq277513 (by decide)) (rT2 htq277513 (by decide))).trans he334949
                                  have he334975 : F334971 q331672 = .inr (4, [.int p332319, .ref q332321, .int p332320]) := (hs334973 q331672 (rT0 ht331676 (by decide)) (rT1 ht331676 (by decide)) (rT2 ht331676 (by decide))).trans he334950
                                  have he334976 : F334971 q332321 = .inl (I (.object "java/lang/Object"), n332335, .inr (.inr (.inr (.inr f332336)))) := (hs334973 q332321 (rT0 r332327 (by decide)) (rT1 r332327 (by decide)) (rT2 r332327 (by decide))).trans he334951
                                  have he334977 : F334971 q332338 = .inr (17, [.ref q332348, .ref q332349, .int p332350, .int p332351]) := (hs334973 q332338 (rT0 ht332344 (by decide)) (rT1 ht332344 (by decide)) (rT2 ht332344 (by decide))).trans he334952
                                  have he334978 : F334971 q332348 = .inr (4, [.int p334158, .ref q334160, .int p334159]) := (hs334973 q332348 (rT0 ht332352 (by decide)) (rT1 ht332352 (by decide)) (rT2 ht332352 (by decide))).trans he334953
                                  have he334979 : F334971 q334160 = .inl (I (.object "java/lang/Object"), n334174, .inr (.inr (.inr (.inr f334175)))) := (hs334973 q334160 (rT0 r334166 (by decide)) (rT1 r334166 (by decide)) (rT2 r334166 (by decide))).trans he334954
                                  have he334980 : F334971 q334177 = .inr (20, [.int p334192, .int p334193, .int p334194, .int p334195, .int p334196, .int p334197, .int p334198]) := (hs334973 q334177 (rT0 ht334180 (by decide)) (rT1 ht334180 (by decide)) (rT2 ht334180 (by decide))).trans he334955
                                  have hs334981 : rStr γ [] F277511 F334971 := rStr_tr hs334960 hs334973
                                  have kp334982 : F334971 q277512 = F277511 q277512 := (x334968).trans kp334961
                                  have kp334983 : F334971 (γ 9 3) = F334906 (γ 9 3) := (x334969).trans kp334962
                                  have he334984 : F334971 q277512 = .inr (22, [.ref (γ 9 0), .ref (γ 9 1), .ref (γ 9 2), .ref (γ 9 3), .ref (γ 9 4), .ref (γ 9 5), .ref (γ 9 6), .ref (γ 9 7), .ref (γ 9 8), .int p277521, .int p277522, .int p277523, .int p277524, .int p277525, .int p277526, .ref (γ 9 15), .ref (γ 9 16), .ref (γ 9 17), .ref (γ 9 18), .ref (γ 9 19), .ref (γ 9 20), .ref (γ 9 21), .ref (γ 9 22), .int p277527, .int p277528, .int p277529, .int p277530, .int p277531, .ref q277519, .ref (γ 9 29), .int p277532, .ref (γ 9 31), .int p277533, .int p277534, .int p277535, .ref q277520]) := (x334968).trans he334956
                                  change G _ _ _ _ _ _ _ _ _ _ _
                                  refine G_widen (cs' := 0) (sl' := 0) (by omega) (by omega) ?_
                                  obtain ⟨z334985, hz334985⟩ : ∃ z : Int32, z = g334132 + Int32.ofInt (-1) := ⟨_, rfl⟩
                                  have ez334985 : z334985.toInt = g334132.toInt + (-1) := gI_inc hz334985 (by decide) bg334132' (by decide) (by decide)
                                  have bz334985 : gB z334985 (-1) 999998 := ⟨by omega, by omega⟩
                                  refine G_iinc (L' := [(5, .int z334985), (10, .int g334905), (9, .int 0), (8, .int (-1)), (7, .int o334237), (6, .ref q334177), (4, .ref q332338), (3, .int g331659), (0, .ref q277512), (1, .ref q277513), (2, .int p277514)]) z334985 5 dr_cX17_graph_284 rfl hz334985.symm (Nat.le_of_ble_eq_true rfl) rfl ?_
                                  refine G_goto 109 dr_cX17_graph_287 (by decide +kernel) ?_
                                  refine G_lv (L' := [(5, .int z334985), (4, .ref q332338), (3, .int g331659), (0, .ref q277512), (1, .ref q277513), (2, .int p277514)]) [0, 6, 7, 8, 9, 10] rfl ?_
                                  exact ih109_334138 F334971 z334985 (gB_w bz334985 (by decide) (by decide)) hT334972 hs334981 (by omega) (fun h0 => by have z := x334909 h0; rw [← kp334983] at z; rw [show ((g334132.toInt : Int).toNat : Nat) = (z334985.toInt + 1 : Int).toNat by omega] at z; exact z) kp334982 (fun k e1 ht => kt109_334139 k e1 (fun R c1 c2 c3 c4 c5 c6 c7 c8 c9 c10 c11 => c7 F334133 g334132 q332348 q334177 p334159 F334212 p334192 p334193 p334196 o334237 p334197 F334906 q334931 f334936 f334942 F334945 F334971 z334985 k e1 bg334132 hT334134 hs334135 x334136 x334137 x334138 r334153 fq334154 hx334178 fq334182 ht334188 hT334213 hs334214 x334209 x334210 ht334211 fq334229 fq334230 fq334231 bo334237 ht334238 r334500 r334762 fq334763 r334765 r334791 hx334925 fq334926 hx334933 he334935 ht334944 hfr334958 he334948 hT334959 hT334972 hs334973 x334968 x334969 ht334970 ez334985 (ht R c1 c2 c3 c4 c5 c6 c7 c8 c9 c10 c11))) (mz_dn ez334985 (Int.le_trans (by decide) bg334132'.1) hm109_334138)
                                · have r334986 : g334905.toInt < 32 := gj_nleL hc334923 (show Int32.toInt 32 = 32 by decide)
                                  have bg334905' : gB g334905 0 31 := ⟨by omega, by omega⟩
                                  refine G_aload_n 8 dr_cX17_graph_217 rfl ?_
                                  have fq334987 : fR (F334906 q277512) 1 = (γ 9 1) := by rw [he334921]; rfl
                                  refine Gp_get 1 hm334922 he334921 dr_cX17_graph_218 (gk_X17 D I) (Nat.le_of_ble_eq_true rfl) wr_7_75 rfl ?_
                                  refine G_iload 3 dr_cX17_graph_221 rfl ?_
                                  have hm334988 : (γ 9 1) ∈ P277510 := RS_m hT334907 ht277539 (by decide)
                                  obtain ⟨f334990, he334989, hg334991⟩ := show rk_13 I γ (F334906 (γ 9 1)) from RS_o hT334907 ht277539
                                  obtain ⟨q334992, hx334994⟩ : ∃ x, x = γ 11 o334237.toInt.toNat := ⟨_, rfl⟩
                                  have ht334993 : rKd γ q334992 36 := by rw [hx334994]; exact (hg334991 _ (show o334237.toInt.toNat < 2000 by omega)).2.1
                                  refine Gp_aald 5 hm334988 he334989 dr_cX17_graph_223 rfl rfl (gB_in bo334237' (by decide) (by decide)) ?_
                                  rw [show f334990 o334237.toNatClampNeg = some q334992 from (hg334991 _ (show o334237.toInt.toNat < 2000 by omega)).1.trans (by rw [hx334994])]
                                  change G _ _ _ _ _ _ _ (.ref q334992 :: _) _ _ _
                                  refine G_iload 0 dr_cX17_graph_224 rfl ?_
                                  refine G_dup2_11 dr_cX17_graph_226 rfl rfl ?_
                                  have hm334995 : q334992 ∈ P277510 := RS_m hT334907 ht334993 (by decide)
                                  obtain ⟨f334997, he334996, wf334997⟩ := show rk_36 I (F334906 q334992) from RS_o hT334907 ht334993
                                  refine Gp_lald 2 hm334995 he334996 dr_cX17_graph_227 rfl (gB_in bg334905' (by decide) (by decide)) (G_namL fun u334998 hu334998 => ?_)
                                  have qu334998 : lb_Q u334998 (2000 - 64 * g334905.toInt) := lb_Wld hu334998 wf334997 (by omega) (by omega) (lb_Mod0 (by omega) (by omega))
                                  refine G_aload_n 8 dr_cX17_graph_228 rfl ?_
                                  have fq334999 : fR (F334906 q277512) 2 = (γ 9 2) := by rw [he334921]; rfl
                                  refine Gp_get 2 hm334922 he334921 dr_cX17_graph_229 (gk_X17 D I) (Nat.le_of_ble_eq_true rfl) wr_7_76 rfl ?_
                                  refine G_iload 0 dr_cX17_graph_232 rfl ?_
                                  have hm335000 : (γ 9 2) ∈ P277510 := RS_m hT334907 ht277540 (by decide)
                                  obtain ⟨f335002, he335001, wf335002⟩ := show rk_35 I (F334906 (γ 9 2)) from RS_o hT334907 ht277540
                                  refine Gp_lald 2 hm335000 he335001 dr_cX17_graph_234 rfl (gB_in bg334905' (by decide) (by decide)) (G_namL fun u335003 hu335003 => ?_)
                                  have qu335003 : lb_Q u335003 (2000 - 64 * g334905.toInt) := lb_Wld hu335003 wf335002 (by omega) (by omega) (lb_Mod0 (by omega) (by omega))
                                  refine G_lor dr_cX17_graph_235 (G_namL fun u335004 hu335004 => ?_)
                                  have qu335004 : lb_Q u335004 (2000 - 64 * g334905.toInt) := lb_Qor hu335004 qu334998 qu335003
                                  refine Gp_last 2 hm334995 he334996 dr_cX17_graph_236 rfl (gB_in bg334905' (by decide) (by decide)) (fun F335005 e335006 n335007 => ?_)
                                  obtain ⟨f335008, hf335008⟩ : ∃ z, z = vp_updL f334997 g334905.toNatClampNeg u335004 := ⟨_, rfl⟩
                                  rw [← hf335008] at e335006
                                  have he335009 : F335005 q277513 = .inr (18, [.ref q331672, .ref q331673, .int p331674, .int p331675]) := (n335007 q277513 (rn_oa he334913 he334996)).trans he334913
                                  have he335010 : F335005 q331672 = .inr (4, [.int p332319, .ref q332321, .int p332320]) := (n335007 q331672 (rn_oa he334914 he334996)).trans he334914
                                  have he335011 : F335005 q332321 = .inl (I (.object "java/lang/Object"), n332335, .inr (.inr (.inr (.inr f332336)))) := (n335007 q332321 (rn_ref_long he334915 he334996)).trans he334915
                                  have he335012 : F335005 q332338 = .inr (17, [.ref q332348, .ref q332349, .int p332350, .int p332351]) := (n335007 q332338 (rn_oa he334916 he334996)).trans he334916
                                  have he335013 : F335005 q332348 = .inr (4, [.int p334158, .ref q334160, .int p334159]) := (n335007 q332348 (rn_oa he334917 he334996)).trans he334917
                                  have he335014 : F335005 q334160 = .inl (I (.object "java/lang/Object"), n334174, .inr (.inr (.inr (.inr f334175)))) := (n335007 q334160 (rn_ref_long he334918 he334996)).trans he334918
                                  have he335015 : F335005 q334177 = .inr (20, [.int p334192, .int p334193, .int p334194, .int p334195, .int p334196, .int p334197, .int p334198]) := (n335007 q334177 (rn_oa he334919 he334996)).trans he334919
                                  have he335016 : F335005 q277512 = .inr (22, [.ref (γ 9 0), .ref (γ 9 1), .ref (γ 9 2), .ref (γ 9 3), .ref (γ 9 4), .ref (γ 9 5), .ref (γ 9 6), .ref (γ 9 7), .ref (γ 9 8), .int p277521, .int p277522, .int p277523, .int p277524, .int p277525, .int p277526, .ref (γ 9 15), .ref (γ 9 16), .ref (γ 9 17), .ref (γ 9 18), .ref (γ 9 19), .ref (γ 9 20), .ref (γ 9 21), .ref (γ 9 22), .int p277527, .int p277528, .int p277529, .int p277530, .int p277531, .ref q277519, .ref (γ 9 29), .int p277532, .ref (γ 9 31), .int p277533, .int p277534, .int p277535, .ref q277520]) := (n335007 q277512 (rn_oa he334921 he334996)).trans he334921
                                  have he335017 : F335005 (γ 9 1) = .inl (I (.array .long), 2000, .inr (.inr (.inr (.inr f334990)))) := (n335007 (γ 9 1) (rn_ref_long he334989 he334996)).trans he334989
                                  have he335018 : F335005 (γ 9 2) = .inl (I .long, 32, .inr (.inl f335002)) := (n335007 (γ 9 2) (rn_ty ht277540 ht334993 (by decide))).trans he335001
                                  have he335019 : F335005 q334992 = .inl (I .long, 32, .inr (.inl f335008)) := e335006
                                  have hs335020 : rStr γ [] F277511 F335005 := rStr_put hs334908 n335007 ht334993 (by decide)
                                  have kp335021 : F335005 q277512 = F277511 q277512 := (n335007 q277512 (rn_ty htq277512 ht334993 (by decide))).trans x334910
                                  have kp335022 : F335005 (γ 9 3) = F334906 (γ 9 3) := n335007 (γ 9 3) (rn_ty ht277541 ht334993 (by decide))
                                  have wf335008 : lb_W f335008 (32) (32) (2000) := lb_Wst hf335008 wf334997 (by omega) (lb_Mod0 (by omega) (by omega)) qu335004
                                  obtain ⟨z335023, hz335023⟩ : ∃ z : Int32, z = g334905 + Int32.ofInt 1 := ⟨_, rfl⟩
                                  have ez335023 : z335023.toInt = g334905.toInt + 1 := gI_inc hz335023 (by decide) bg334905' (by decide) (by decide)
                                  have bz335023 : gB z335023 1 32 := ⟨by omega, by omega⟩
                                  refine G_iinc (L' := [(10, .int z335023), (9, .int 0), (8, .int (-1)), (7, .int o334237), (6, .ref q334177), (5, .int g334132), (4, .ref q332338), (3, .int g331659), (0, .ref q277512), (1, .ref q277513), (2, .int p277514)]) z335023 0 dr_cX17_graph_237 rfl hz335023.symm (Nat.le_of_ble_eq_true rfl) rfl ?_
                                  refine G_goto 210 dr_cX17_graph_240 (by decide +kernel) ?_
                                  have hT335024 : RS D I P277510 F335005 γ el := RS_set hT334907 n335007 ht334993 (by decide) ⟨f335008, he335019, wf335008⟩
                                  exact ih210_334910 F335005 z335023 (gB_w bz335023 (by decide) (by decide)) hT335024 hs335020 (by rw [kp335022]; exact x334909) kp335021 (fun k e1 ht => kt210_334911 k e1 (fun R c1 c2 => c2 F334906 g334905 q334992 f334997 u334998 f335002 u335003 u335004 f335008 F335005 z335023 k e1 bg334905 hT334907 hs334908 x334909 x334910 r334986 fq334987 hx334994 he334996 hu334998 fq334999 he335001 hu335003 hu335004 hf335008 n335007 he335019 ez335023 (ht R c1 c2))) (mz_up ez335023 (Int.le_trans bg334905'.2 (by decide)) hm210_334910)
                            exact hlp210_334910 (((33 : Int) - 0).toNat + 1) F334212 0 (gB_w (gBl (show Int32.toInt 0 = 0 by decide)) (by decide) (by decide)) hT334213 hs334222 gr334228 kp334223 (fun k e1 ht => ht) (Nat.lt_succ_self _)
                        · have r335025 : p334197.toInt ≠ 0 := gj_neq hc334764 (show Int32.toInt 0 = 0 by decide)
                          have bp334197' : gB p334197 1 1 := gB_t1 bp334197 r335025
                          refine G_aload 1 dr_cX17_graph_164 rfl ?_
                          have fq335026 : fI (F334212 q334177) 2 = p334194 := by rw [he334221]; rfl
                          refine Gp_get 2 hm334190 he334221 dr_cX17_graph_166 (gk_X15 D I) (Nat.le_of_ble_eq_true rfl) wr_9_186 rfl ?_
                          refine G_goto 173 dr_cX17_graph_169 (by decide +kernel) ?_
                          refine G_istore (L' := [(8, .int p334194), (7, .int o334237), (6, .ref q334177), (5, .int g334132), (4, .ref q332338), (3, .int g331659), (0, .ref q277512), (1, .ref q277513), (2, .int p277514)]) dr_cX17_graph_173 (Nat.le_of_ble_eq_true rfl) rfl ?_
                          refine G_iload 1 dr_cX17_graph_175 rfl ?_
                          refine G_if_lt 277 dr_cX17_graph_177 (by decide +kernel) (fun hc335027 => ?_) (fun hc335027 => ?_)
                          · have r335028 : o334237.toInt < 0 := gj_lt hc335027 (show Int32.toInt 0 = 0 by decide)
                            have bo334237' : gB o334237 (-1) (-1) := ⟨by omega, by omega⟩
                            refine G_aload_n 6 dr_cX17_graph_277 rfl ?_
                            refine G_aload 2 dr_cX17_graph_278 rfl ?_
                            refine G_iload_n 8 dr_cX17_graph_280 rfl ?_
                            refine Gw_callV (As := [.ref q334177, .int p277514]) (gV_ok D I) (ct_284347_SpillForgeModel_back l hl0 D I γ el P277510 F334212 q277512 q334177 p277514 hT334213 htq277512 ht334180 (gB_w bp277514' (by decide) (by decide))) dr_cX17_graph_281 ⟨wr_10_174, wr_1_14, wr_10_177, by decide, rfl, (Nat.le_of_ble_eq_true rfl), (Nat.le_of_ble_eq_true rfl)⟩ wr_10_176 wr_p_96 hm334148 he334224 rfl (show 0 + 0 ≤ 0 by first | omega | decide) (show 0 + 0 ≤ 0 by first | omega | decide) (Nat.le_of_ble_eq_true rfl) (fun r335032 w335033 dc335029 ds335030 hp335031 => ?_) (fun _ _ _ _ _ z => z.elim)
                            obtain ⟨F335037, rfl, rfl, hT335038, hs335039, hdc, hds, x335034, x335035, ht335036⟩ := hp335031
                            have he335040 : F335037 q277513 = .inr (18, [.ref q331672, .ref q331673, .int p331674, .int p331675]) := (hs335039 q277513 (rT0 htq277513 (by decide)) (rT1 htq277513 (by decide)) (rT2 htq277513 (by decide))).trans he334215
                            have he335041 : F335037 q331672 = .inr (4, [.int p332319, .ref q332321, .int p332320]) := (hs335039 q331672 (rT0 ht331676 (by decide)) (rT1 ht331676 (by decide)) (rT2 ht331676 (by decide))).trans he334216
                            have he335042 : F335037 q332321 = .inl (I (.object "java/lang/Object"), n332335, .inr (.inr (.inr (.inr f332336)))) := (hs335039 q332321 (rT0 r332327 (by decide)) (rT1 r332327 (by decide)) (rT2 r332327 (by decide))).trans he334217
                            have he335043 : F335037 q332338 = .inr (17, [.ref q332348, .ref q332349, .int p332350, .int p332351]) := (hs335039 q332338 (rT0 ht332344 (by decide)) (rT1 ht332344 (by decide)) (rT2 ht332344 (by decide))).trans he334218
                            have he335044 : F335037 q332348 = .inr (4, [.int p334158, .ref q334160, .int p334159]) := (hs335039 q332348 (rT0 ht332352 (by decide)) (rT1 ht332352 (by decide)) (rT2 ht332352 (by decide))).trans he334219
                            have he335045 : F335037 q334160 = .inl (I (.object "java/lang/Object"), n334174, .inr (.inr (.inr (.inr f334175)))) := (hs335039 q334160 (rT0 r334166 (by decide)) (rT1 r334166 (by decide)) (rT2 r334166 (by decide))).trans he334220
                            have he335046 : F335037 q334177 = .inr (20, [.int p334192, .int p334193, .int p334194, .int p334195, .int p334196, .int p334197, .int p334198]) := (hs335039 q334177 (rT0 ht334180 (by decide)) (rT1 ht334180 (by decide)) (rT2 ht334180 (by decide))).trans he334221
                            have hs335047 : rStr γ [] F277511 F335037 := rStr_tr hs334222 hs335039
                            have kp335048 : F335037 q277512 = F277511 q277512 := (x335034).trans kp334223
                            have kp335049 : F335037 (γ 9 3) = F334212 (γ 9 3) := x335035
                            have he335050 : F335037 q277512 = .inr (22, [.ref (γ 9 0), .ref (γ 9 1), .ref (γ 9 2), .ref (γ 9 3), .ref (γ 9 4), .ref (γ 9 5), .ref (γ 9 6), .ref (γ 9 7), .ref (γ 9 8), .int p277521, .int p277522, .int p277523, .int p277524, .int p277525, .int p277526, .ref (γ 9 15), .ref (γ 9 16), .ref (γ 9 17), .ref (γ 9 18), .ref (γ 9 19), .ref (γ 9 20), .ref (γ 9 21), .ref (γ 9 22), .int p277527, .int p277528, .int p277529, .int p277530, .int p277531, .ref q277519, .ref (γ 9 29), .int p277532, .ref (γ 9 31), .int p277533, .int p277534, .int p277535, .ref q277520]) := (x335034).trans he334224
                            change G _ _ _ _ _ _ _ _ _ _ _
                            refine G_widen (cs' := 0) (sl' := 0) (by omega) (by omega) ?_
                            obtain ⟨z335051, hz335051⟩ : ∃ z : Int32, z = g334132 + Int32.ofInt (-1) := ⟨_, rfl⟩
                            have ez335051 : z335051.toInt = g334132.toInt + (-1) := gI_inc hz335051 (by decide) bg334132' (by decide) (by decide)
                            have bz335051 : gB z335051 (-1) 999998 := ⟨by omega, by omega⟩
                            refine G_iinc (L' := [(5, .int z335051), (8, .int p334194), (7, .int o334237), (6, .ref q334177), (4, .ref q332338), (3, .int g331659), (0, .ref q277512), (1, .ref q277513), (2, .int p277514)]) z335051 3 dr_cX17_graph_284 rfl hz335051.symm (Nat.le_of_ble_eq_true rfl) rfl ?_
                            refine G_goto 109 dr_cX17_graph_287 (by decide +kernel) ?_
                            refine G_lv (L' := [(5, .int z335051), (4, .ref q332338), (3, .int g331659), (0, .ref q277512), (1, .ref q277513), (2, .int p277514)]) [0, 4, 5, 6, 7, 8] rfl ?_
                            exact ih109_334138 F335037 z335051 (gB_w bz335051 (by decide) (by decide)) hT335038 hs335047 (by omega) (fun h0 => by have z := gr334228 h0; rw [← kp335049] at z; rw [show ((g334132.toInt : Int).toNat : Nat) = (z335051.toInt + 1 : Int).toNat by omega] at z; exact z) kp335048 (fun k e1 ht => kt109_334139 k e1 (fun R c1 c2 c3 c4 c5 c6 c7 c8 c9 c10 c11 => c8 F334133 g334132 q332348 q334177 p334159 F334212 p334192 p334193 p334196 o334237 p334197 F335037 z335051 k e1 bg334132 hT334134 hs334135 x334136 x334137 x334138 r334153 fq334154 hx334178 fq334182 ht334188 hT334213 hs334214 x334209 x334210 ht334211 fq334229 fq334230 fq334231 bo334237 ht334238 r334500 r334762 fq334763 r335025 r335028 hT335038 hs335039 x335034 x335035 ht335036 ez335051 (ht R c1 c2 c3 c4 c5 c6 c7 c8 c9 c10 c11))) (mz_dn ez335051 (Int.le_trans (by decide) bg334132'.1) hm109_334138)
                          · have r335052 : 0 ≤ o334237.toInt := gj_nlt hc335027 (show Int32.toInt 0 = 0 by decide)
                            have bo334237' : gB o334237 0 1999 := ⟨by omega, by omega⟩
                            refine G_iload 0 dr_cX17_graph_180 rfl ?_
                            refine G_if_lt 204 dr_cX17_graph_182 (by decide +kernel) (fun hc335053 => ?_) (fun hc335053 => ?_)
                            · have r335054 : p334194.toInt < 0 := gj_lt hc335053 (show Int32.toInt 0 = 0 by decide)
                              have bp334194' : gB p334194 (-2147483648) (-1) := ⟨by omega, by omega⟩
                              refine G_iconst 0 dr_cX17_graph_204 (by decide +kernel) ?_
                              refine G_istore (L' := [(9, .int 0), (8, .int p334194), (7, .int o334237), (6, .ref q334177), (5, .int g334132), (4, .ref q332338), (3, .int g331659), (0, .ref q277512), (1, .ref q277513), (2, .int p277514)]) dr_cX17_graph_205 (Nat.le_of_ble_eq_true rfl) rfl ?_
                              refine G_iconst 0 dr_cX17_graph_207 (by decide +kernel) ?_
                              refine G_istore (L' := [(10, .int 0), (9, .int 0), (8, .int p334194), (7, .int o334237), (6, .ref q334177), (5, .int g334132), (4, .ref q332338), (3, .int g331659), (0, .ref q277512), (1, .ref q277513), (2, .int p277514)]) dr_cX17_graph_208 (Nat.le_of_ble_eq_true rfl) rfl ?_
                              have hlp210_335173 : ∀ (n210_335173 : Nat) (F335169 : Nat → va_E) (g335168 : Int32), gB g335168 0 32 → RS D I P277510 F335169 γ el → rStr γ [] F277511 F335169 → (gIp (p277514.toInt = 0) (rGr γ el F277511 q277513 (γ 6 (γ 1 q277513)) (cB (F335169 (γ 9 3))) (vB (g331659.toInt : Int).toNat (g334132.toInt : Int).toNat))) → (F335169 q277512 = F277511 q277512) → (∀ (k : Nat) (e1 : Nat → va_E), tl_RModel_graph_210_4 D I γ el P277510 F277511 p277514 q277513 g331659 g334132 q277512 o334237 F335169 g335168 k e1 → tl_RModel_graph_210_4 D I γ el P277510 F277511 p277514 q277513 g331659 g334132 q277512 o334237 F334212 (0 : Int32) k e1) → ((33 : Int) - g335168.toInt).toNat < n210_335173 → G (gV D I) l (gRm 5 111 0 0) (gMA (gV D I) (pt_277516_SpillForgeModel_graph D I γ el P277510 F277511 q277512 q277513 p277514) gNA 0 0) ky_277516_SpillForgeModel_graph 210 [(10, .int g335168), (9, .int 0), (8, .int p334194), (7, .int o334237), (6, .ref q334177), (5, .int g334132), (4, .ref q332338), (3, .int g331659), (0, .ref q277512), (1, .ref q277513), (2, .int p277514)] [] (va_pl P277510 F335169) 0 0 := by
                                intro n210_335173
                                induction n210_335173 with
                                | zero => intro F335169 g335168 bg335168 hT335170 hs335171 x335172 x335173 kt210_335174 hm210_335173; exact absurd hm210_335173 (Nat.not_lt_zero _)
                                | succ n210_335173 ih210_335173 =>
                                  intro F335169 g335168 bg335168 hT335170 hs335171 x335172 x335173 kt210_335174 hm210_335173
                                  have hs335175 : rStr γ [] F334212 F335169 := fun b h0 hb hw => (hs335171 b h0 hb hw).trans (hs334222 b h0 hb hw).symm
                                  have he335176 : F335169 q277513 = .inr (18, [.ref q331672, .ref q331673, .int p331674, .int p331675]) := (hs335175 q277513 (rT0 htq277513 (by decide)) (rT1 htq277513 (by decide)) (rT2 htq277513 (by decide))).trans he334215
                                  have he335177 : F335169 q331672 = .inr (4, [.int p332319, .ref q332321, .int p332320]) := (hs335175 q331672 (rT0 ht331676 (by decide)) (rT1 ht331676 (by decide)) (rT2 ht331676 (by decide))).trans he334216
                                  have he335178 : F335169 q332321 = .inl (I (.object "java/lang/Object"), n332335, .inr (.inr (.inr (.inr f332336)))) := (hs335175 q332321 (rT0 r332327 (by decide)) (rT1 r332327 (by decide)) (rT2 r332327 (by decide))).trans he334217
                                  have he335179 : F335169 q332338 = .inr (17, [.ref q332348, .ref q332349, .int p332350, .int p332351]) := (hs335175 q332338 (rT0 ht332344 (by decide)) (rT1 ht332344 (by decide)) (rT2 ht332344 (by decide))).trans he334218
                                  have he335180 : F335169 q332348 = .inr (4, [.int p334158, .ref q334160, .int p334159]) := (hs335175 q332348 (rT0 ht332352 (by decide)) (rT1 ht332352 (by decide)) (rT2 ht332352 (by decide))).trans he334219
                                  have he335181 : F335169 q334160 = .inl (I (.object "java/lang/Object"), n334174, .inr (.inr (.inr (.inr f334175)))) := (hs335175 q334160 (rT0 r334166 (by decide)) (rT1 r334166 (by decide)) (rT2 r334166 (by decide))).trans he334220
                                  have he335182 : F335169 q334177 = .inr (20, [.int p334192, .int p334193, .int p334194, .int p334195, .int p334196, .int p334197, .int p334198]) := (hs335175 q334177 (rT0 ht334180 (by decide)) (rT1 ht334180 (by decide)) (rT2 ht334180 (by decide))).trans he334221
                                  have hs335183 : rStr γ [] F277511 F335169 := rStr_tr hs334222 hs335175
                                  have he335184 : F335169 q277512 = .inr (22, [.ref (γ 9 0), .ref (γ 9 1), .ref (γ 9 2), .ref (γ 9 3), .ref (γ 9 4), .ref (γ 9 5), .ref (γ 9 6), .ref (γ 9 7), .ref (γ 9 8), .int p277521, .int p277522, .int p277523, .int p277524, .int p277525, .int p277526, .ref (γ 9 15), .ref (γ 9 16), .ref (γ 9 17), .ref (γ 9 18), .ref (γ 9 19), .ref (γ 9 20), .ref (γ 9 21), .ref (γ 9 22), .int p277527, .int p277528, .int p277529, .int p277530, .int p277531, .ref q277519, .ref (γ 9 29), .int p277532, .ref (γ 9 31), .int p277533, .int p277534, .int p277535, .ref q277520]) := x335173.trans he277518
                                  have hm335185 : q277512 ∈ P277510 := RS_m hT335170 htq277512 (by decide)
                                  refine G_iload 0 dr_cX17_graph_210 rfl ?_
                                  refine G_bipush 32 dr_cX17_graph_212 (by decide +kernel) ?_
                                  refine G_icmp_ge 243 dr_cX17_graph_214 (by decide +kernel) (fun hc335186 => ?_) (fun hc335186 => ?_)
                                  · have r335187 : 32 ≤ g335168.toInt := gj_leL hc335186 (show Int32.toInt 32 = 32 by decide)
                                    have bg335168' : gB g335168 32 32 := ⟨by omega, by omega⟩
                                    have hx335188 : tl_RModel_graph_210_4 D I γ el P277510 F277511 p277514 q277513 g331659 g334132 q277512 o334237 F334212 (0 : Int32) 243 F335169 := kt210_335174 243 F335169 (fun R c1 c2 => c1 F335169 g335168 bg335168 hT335170 hs335171 x335172 x335173 r335187)
                                    refine G_iload 2 dr_cX17_graph_243 rfl ?_
                                    refine G_if_lt 265 dr_cX17_graph_245 (by decide +kernel) (fun _ => ?_) (fun hc => absurd (show False by have := gj_nlt hc (show Int32.toInt 0 = 0 by decide); omega) not_false)
                                    refine G_aload_n 8 dr_cX17_graph_265 rfl ?_
                                    have fq335189 : fR (F335169 q277512) 1 = (γ 9 1) := by rw [he335184]; rfl
                                    refine Gp_get 1 hm335185 he335184 dr_cX17_graph_266 (gk_X17 D I) (Nat.le_of_ble_eq_true rfl) wr_7_75 rfl ?_
                                    refine G_iload 3 dr_cX17_graph_269 rfl ?_
                                    have hm335190 : (γ 9 1) ∈ P277510 := RS_m hT335170 ht277539 (by decide)
                                    obtain ⟨f335192, he335191, hg335193⟩ := show rk_13 I γ (F335169 (γ 9 1)) from RS_o hT335170 ht277539
                                    obtain ⟨q335194, hx335196⟩ : ∃ x, x = γ 11 o334237.toInt.toNat := ⟨_, rfl⟩
                                    have ht335195 : rKd γ q335194 36 := by rw [hx335196]; exact (hg335193 _ (show o334237.toInt.toNat < 2000 by omega)).2.1
                                    refine Gp_aald 5 hm335190 he335191 dr_cX17_graph_271 rfl rfl (gB_in bo334237' (by decide) (by decide)) ?_
                                    rw [show f335192 o334237.toNatClampNeg = some q335194 from (hg335193 _ (show o334237.toInt.toNat < 2000 by omega)).1.trans (by rw [hx335196])]
                                    change G _ _ _ _ _ _ _ (.ref q335194 :: _) _ _ _
                                    refine G_iload 3 dr_cX17_graph_272 rfl ?_
                                    have hm335197 : q335194 ∈ P277510 := RS_m hT335170 ht335195 (by decide)
                                    obtain ⟨f335199, he335198, wf335199⟩ := show rk_36 I (F335169 q335194) from RS_o hT335170 ht335195
                                    refine Gw_callS (As := [.ref q335194, .int o334237]) (gV_ok D I) (cp_1880_SpillForgeModel_clear l hl0 D I P277510 F335169 q335194 o334237 f335199 hm335197 he335198 bo334237' wf335199) dr_cX17_graph_274 ⟨wr_10_185, wr_1_14, wr_10_187, by decide, rfl, (Nat.le_of_ble_eq_true rfl), (Nat.le_of_ble_eq_true rfl)⟩ wr_10_186 (show 0 + 0 ≤ 0 by first | omega | decide) (show 0 + 0 ≤ 0 by first | omega | decide) (Nat.le_of_ble_eq_true rfl) (fun r335203 w335204 dc335200 ds335201 hp335202 => ?_) (fun _ _ _ _ _ z => z.elim)
                                    obtain ⟨F335208, f335205, rfl, rfl, hfr335210, he335211, hdc, hds, x335206, ht335207⟩ := hp335202
                                    have he335212 : F335208 q277513 = .inr (18, [.ref q331672, .ref q331673, .int p331674, .int p331675]) := (hfr335210 q277513 hm331670 (nm_c (rn_oa he335176 he335198) nm_n)).trans he335176
                                    have he335213 : F335208 q331672 = .inr (4, [.int p332319, .ref q332321, .int p332320]) := (hfr335210 q331672 hm332317 (nm_c (rn_oa he335177 he335198) nm_n)).trans he335177
                                    have he335214 : F335208 q332321 = .inl (I (.object "java/lang/Object"), n332335, .inr (.inr (.inr (.inr f332336)))) := (hfr335210 q332321 hm332337 (nm_c (rn_ref_long he335178 he335198) nm_n)).trans he335178
                                    have he335215 : F335208 q332338 = .inr (17, [.ref q332348, .ref q332349, .int p332350, .int p332351]) := (hfr335210 q332338 hm332346 (nm_c (rn_oa he335179 he335198) nm_n)).trans he335179
                                    have he335216 : F335208 q332348 = .inr (4, [.int p334158, .ref q334160, .int p334159]) := (hfr335210 q332348 hm334156 (nm_c (rn_oa he335180 he335198) nm_n)).trans he335180
                                    have he335217 : F335208 q334160 = .inl (I (.object "java/lang/Object"), n334174, .inr (.inr (.inr (.inr f334175)))) := (hfr335210 q334160 hm334176 (nm_c (rn_ref_long he335181 he335198) nm_n)).trans he335181
                                    have he335218 : F335208 q334177 = .inr (20, [.int p334192, .int p334193, .int p334194, .int p334195, .int p334196, .int p334197, .int p334198]) := (hfr335210 q334177 hm334190 (nm_c (rn_oa he335182 he335198) nm_n)).trans he335182
                                    have he335219 : F335208 q277512 = .inr (22, [.ref (γ 9 0), .ref (γ 9 1), .ref (γ 9 2), .ref (γ 9 3), .ref (γ 9 4), .ref (γ 9 5), .ref (γ 9 6), .ref (γ 9 7), .ref (γ 9 8), .int p277521, .int p277522, .int p277523, .int p277524, .int p277525, .int p277526, .ref (γ 9 15), .ref (γ 9 16), .ref (γ 9 17), .ref (γ 9 18), .ref (γ 9 19), .ref (γ 9 20), .ref (γ 9 21), .ref (γ 9 22), .int p277527, .int p277528, .int p277529, .int p277530, .int p277531, .ref q277519, .ref (γ 9 29), .int p277532, .ref (γ 9 31), .int p277533, .int p277534, .int p277535, .ref q277520]) := (hfr335210 q277512 hm335185 (nm_c (rn_oa he335184 he335198) nm_n)).trans he335184
                                    have he335220 : F335208 (γ 9 1) = .inl (I (.array .long), 2000, .inr (.inr (.inr (.inr f335192)))) := (hfr335210 (γ 9 1) hm335190 (nm_c (rn_ref_long he335191 he335198) nm_n)).trans he335191
                                    have hfr335221 : rFr [q335194] P277510 F335169 F335208 := rFr_call (rSub_rf (P := P277510)) (rFr_rf (W := []) (P := P277510) (F := F335169)) hfr335210 (fun b hb hn => ⟨nm_n, (nm_c (fun e => hn (e ▸ List.mem_cons_self)) nm_n)⟩)
                                    change G _ _ _ _ _ _ _ _ _ _ _
                                    refine G_widen (cs' := 0) (sl' := 0) (by omega) (by omega) ?_
                                    have hT335222 : RS D I P277510 F335208 γ el := RS_fr hT335170 hfr335221 ht335195 (by decide) ⟨f335205, he335211, x335206⟩
                                    have hs335223 : rStr γ [] F277511 F335208 := rStr_fr hT335170 hs335171 hfr335221 ht335195 (by decide)
                                    have kp335224 : F335208 q277512 = F277511 q277512 := (hfr335221 q277512 (RS_m hT335170 htq277512 (by decide)) (nm_c (rn_ty htq277512 ht335195 (by decide)) nm_n)).trans x335173
                                    have kp335225 : F335208 (γ 9 3) = F335169 (γ 9 3) := hfr335221 (γ 9 3) (RS_m hT335170 ht277541 (by decide)) (nm_c (rn_ty ht277541 ht335195 (by decide)) nm_n)
                                    refine G_aload_n 8 dr_cX17_graph_277 rfl ?_
                                    refine G_aload 4 dr_cX17_graph_278 rfl ?_
                                    refine G_iload_n 10 dr_cX17_graph_280 rfl ?_
                                    refine Gw_callV (As := [.ref q334177, .int p277514]) (gV_ok D I) (ct_284347_SpillForgeModel_back l hl0 D I γ el P277510 F335208 q277512 q334177 p277514 hT335222 htq277512 ht334180 (gB_w bp277514' (by decide) (by decide))) dr_cX17_graph_281 ⟨wr_10_174, wr_1_14, wr_10_177, by decide, rfl, (Nat.le_of_ble_eq_true rfl), (Nat.le_of_ble_eq_true rfl)⟩ wr_10_176 wr_p_96 hm335185 he335219 rfl (show 0 + 0 ≤ 0 by first | omega | decide) (show 0 + 0 ≤ 0 by first | omega | decide) (Nat.le_of_ble_eq_true rfl) (fun r335229 w335230 dc335226 ds335227 hp335228 => ?_) (fun _ _ _ _ _ z => z.elim)
                                    obtain ⟨F335234, rfl, rfl, hT335235, hs335236, hdc, hds, x335231, x335232, ht335233⟩ := hp335228
                                    have he335237 : F335234 q277513 = .inr (18, [.ref q331672, .ref q331673, .int p331674, .int p331675]) := (hs335236 q277513 (rT0 htq277513 (by decide)) (rT1 htq277513 (by decide)) (rT2 htq277513 (by decide))).trans he335212
                                    have he335238 : F335234 q331672 = .inr (4, [.int p332319, .ref q332321, .int p332320]) := (hs335236 q331672 (rT0 ht331676 (by decide)) (rT1 ht331676 (by decide)) (rT2 ht331676 (by decide))).trans he335213
                                    have he335239 : F335234 q332321 = .inl (I (.object "java/lang/Object"), n332335, .inr (.inr (.inr (.inr f332336)))) := (hs335236 q332321 (rT0 r332327 (by decide)) (rT1 r332327 (by decide)) (rT2 r332327 (by decide))).trans he335214
                                    have he335240 : F335234 q332338 = .inr (17, [.ref q332348, .ref q332349, .int p332350, .int p332351]) := (hs335236 q332338 (rT0 ht332344 (by decide)) (rT1 ht332344 (by decide)) (rT2 ht332344 (by decide))).trans he335215
                                    have he335241 : F335234 q332348 = .inr (4, [.int p334158, .ref q334160, .int p334159]) := (hs335236 q332348 (rT0 ht332352 (by decide)) (rT1 ht332352 (by decide)) (rT2 ht332352 (by decide))).trans he335216
                                    have he335242 : F335234 q334160 = .inl (I (.object "java/lang/Object"), n334174, .inr (.inr (.inr (.inr f334175)))) := (hs335236 q334160 (rT0 r334166 (by decide)) (rT1 r334166 (by decide)) (rT2 r334166 (by decide))).trans he335217
                                    have he335243 : F335234 q334177 = .inr (20, [.int p334192, .int p334193, .int p334194, .int p334195, .int p334196, .int p334197, .int p334198]) := (hs335236 q334177 (rT0 ht334180 (by decide)) (rT1 ht334180 (by decide)) (rT2 ht334180 (by decide))).trans he335218
                                    have hs335244 : rStr γ [] F277511 F335234 := rStr_tr hs335223 hs335236
                                    have kp335245 : F335234 q277512 = F277511 q277512 := (x335231).trans kp335224
                                    have kp335246 : F335234 (γ 9 3) = F335169 (γ 9 3) := (x335232).trans kp335225
                                    have he335247 : F335234 q277512 = .inr (22, [.ref (γ 9 0), .ref (γ 9 1), .ref (γ 9 2), .ref (γ 9 3), .ref (γ 9 4), .ref (γ 9 5), .ref (γ 9 6), .ref (γ 9 7), .ref (γ 9 8), .int p277521, .int p277522, .int p277523, .int p277524, .int p277525, .int p277526, .ref (γ 9 15), .ref (γ 9 16), .ref (γ 9 17), .ref (γ 9 18), .ref (γ 9 19), .ref (γ 9 20), .ref (γ 9 21), .ref (γ 9 22), .int p277527, .int p277528, .int p277529, .int p277530, .int p277531, .ref q277519, .ref (γ 9 29), .int p277532, .ref (γ 9 31), .int p277533, .int p277534, .int p277535, .ref q277520]) := (x335231).trans he335219
                                    change G _ _ _ _ _ _ _ _ _ _ _
                                    refine G_widen (cs' := 0) (sl' := 0) (by omega) (by omega) ?_
                                    obtain ⟨z335248, hz335248⟩ : ∃ z : Int32, z = g334132 + Int32.ofInt (-1) := ⟨_, rfl⟩
                                    have ez335248 : z335248.toInt = g334132.toInt + (-1) := gI_inc hz335248 (by decide) bg334132' (by decide) (by decide)
                                    have bz335248 : gB z335248 (-1) 999998 := ⟨by omega, by omega⟩
                                    refine G_iinc (L' := [(5, .int z335248), (10, .int g335168), (9, .int 0), (8, .int p334194), (7, .int o334237), (6, .ref q334177), (4, .ref q332338), (3, .int g331659), (0, .ref q277512), (1, .ref q277513), (2, .int p277514)]) z335248 5 dr_cX17_graph_284 rfl hz335248.symm (Nat.le_of_ble_eq_true rfl) rfl ?_
                                    refine G_goto 109 dr_cX17_graph_287 (by decide +kernel) ?_
                                    refine G_lv (L' := [(5, .int z335248), (4, .ref q332338), (3, .int g331659), (0, .ref q277512), (1, .ref q277513), (2, .int p277514)]) [0, 6, 7, 8, 9, 10] rfl ?_
                                    exact ih109_334138 F335234 z335248 (gB_w bz335248 (by decide) (by decide)) hT335235 hs335244 (by omega) (fun h0 => by have z := x335172 h0; rw [← kp335246] at z; rw [show ((g334132.toInt : Int).toNat : Nat) = (z335248.toInt + 1 : Int).toNat by omega] at z; exact z) kp335245 (fun k e1 ht => kt109_334139 k e1 (fun R c1 c2 c3 c4 c5 c6 c7 c8 c9 c10 c11 => c9 F334133 g334132 q332348 q334177 p334159 F334212 p334192 p334193 p334196 o334237 p334197 p334194 F335169 q335194 f335199 f335205 F335208 F335234 z335248 k e1 bg334132 hT334134 hs334135 x334136 x334137 x334138 r334153 fq334154 hx334178 fq334182 ht334188 hT334213 hs334214 x334209 x334210 ht334211 fq334229 fq334230 fq334231 bo334237 ht334238 r334500 r334762 fq334763 r335025 fq335026 r335052 r335054 hx335188 fq335189 hx335196 he335198 ht335207 hfr335221 he335211 hT335222 hT335235 hs335236 x335231 x335232 ht335233 ez335248 (ht R c1 c2 c3 c4 c5 c6 c7 c8 c9 c10 c11))) (mz_dn ez335248 (Int.le_trans (by decide) bg334132'.1) hm109_334138)
                                  · have r335249 : g335168.toInt < 32 := gj_nleL hc335186 (show Int32.toInt 32 = 32 by decide)
                                    have bg335168' : gB g335168 0 31 := ⟨by omega, by omega⟩
                                    refine G_aload_n 8 dr_cX17_graph_217 rfl ?_
                                    have fq335250 : fR (F335169 q277512) 1 = (γ 9 1) := by rw [he335184]; rfl
                                    refine Gp_get 1 hm335185 he335184 dr_cX17_graph_218 (gk_X17 D I) (Nat.le_of_ble_eq_true rfl) wr_7_75 rfl ?_
                                    refine G_iload 3 dr_cX17_graph_221 rfl ?_
                                    have hm335251 : (γ 9 1) ∈ P277510 := RS_m hT335170 ht277539 (by decide)
                                    obtain ⟨f335253, he335252, hg335254⟩ := show rk_13 I γ (F335169 (γ 9 1)) from RS_o hT335170 ht277539
                                    obtain ⟨q335255, hx335257⟩ : ∃ x, x = γ 11 o334237.toInt.toNat := ⟨_, rfl⟩
                                    have ht335256 : rKd γ q335255 36 := by rw [hx335257]; exact (hg335254 _ (show o334237.toInt.toNat < 2000 by omega)).2.1
                                    refine Gp_aald 5 hm335251 he335252 dr_cX17_graph_223 rfl rfl (gB_in bo334237' (by decide) (by decide)) ?_
                                    rw [show f335253 o334237.toNatClampNeg = some q335255 from (hg335254 _ (show o334237.toInt.toNat < 2000 by omega)).1.trans (by rw [hx335257])]
                                    change G _ _ _ _ _ _ _ (.ref q335255 :: _) _ _ _
                                    refine G_iload 0 dr_cX17_graph_224 rfl ?_
                                    refine G_dup2_11 dr_cX17_graph_226 rfl rfl ?_
                                    have hm335258 : q335255 ∈ P277510 := RS_m hT335170 ht335256 (by decide)
                                    obtain ⟨f335260, he335259, wf335260⟩ := show rk_36 I (F335169 q335255) from RS_o hT335170 ht335256
                                    refine Gp_lald 2 hm335258 he335259 dr_cX17_graph_227 rfl (gB_in bg335168' (by decide) (by decide)) (G_namL fun u335261 hu335261 => ?_)
                                    have qu335261 : lb_Q u335261 (2000 - 64 * g335168.toInt) := lb_Wld hu335261 wf335260 (by omega) (by omega) (lb_Mod0 (by omega) (by omega))
                                    refine G_aload_n 8 dr_cX17_graph_228 rfl ?_
                                    have fq335262 : fR (F335169 q277512) 2 = (γ 9 2) := by rw [he335184]; rfl
                                    refine Gp_get 2 hm335185 he335184 dr_cX17_graph_229 (gk_X17 D I) (Nat.le_of_ble_eq_true rfl) wr_7_76 rfl ?_
                                    refine G_iload 0 dr_cX17_graph_232 rfl ?_
                                    have hm335263 : (γ 9 2) ∈ P277510 := RS_m hT335170 ht277540 (by decide)
                                    obtain ⟨f335265, he335264, wf335265⟩ := show rk_35 I (F335169 (γ 9 2)) from RS_o hT335170 ht277540
                                    refine Gp_lald 2 hm335263 he335264 dr_cX17_graph_234 rfl (gB_in bg335168' (by decide) (by decide)) (G_namL fun u335266 hu335266 => ?_)
                                    have qu335266 : lb_Q u335266 (2000 - 64 * g335168.toInt) := lb_Wld hu335266 wf335265 (by omega) (by omega) (lb_Mod0 (by omega) (by omega))
                                    refine G_lor dr_cX17_graph_235 (G_namL fun u335267 hu335267 => ?_)
                                    have qu335267 : lb_Q u335267 (2000 - 64 * g335168.toInt) := lb_Qor hu335267 qu335261 qu335266
                                    refine Gp_last 2 hm335258 he335259 dr_cX17_graph_236 rfl (gB_in bg335168' (by decide) (by decide)) (fun F335268 e335269 n335270 => ?_)
                                    obtain ⟨f335271, hf335271⟩ : ∃ z, z = vp_updL f335260 g335168.toNatClampNeg u335267 := ⟨_, rfl⟩
                                    rw [← hf335271] at e335269
                                    have he335272 : F335268 q277513 = .inr (18, [.ref q331672, .ref q331673, .int p331674, .int p331675]) := (n335270 q277513 (rn_oa he335176 he335259)).trans he335176
                                    have he335273 : F335268 q331672 = .inr (4, [.int p332319, .ref q332321, .int p332320]) := (n335270 q331672 (rn_oa he335177 he335259)).trans he335177
                                    have he335274 : F335268 q332321 = .inl (I (.object "java/lang/Object"), n332335, .inr (.inr (.inr (.inr f332336)))) := (n335270 q332321 (rn_ref_long he335178 he335259)).trans he335178
                                    have he335275 : F335268 q332338 = .inr (17, [.ref q332348, .ref q332349, .int p332350, .int p332351]) := (n335270 q332338 (rn_oa he335179 he335259)).trans he335179
                                    have he335276 : F335268 q332348 = .inr (4, [.int p334158, .ref q334160, .int p334159]) := (n335270 q332348 (rn_oa he335180 he335259)).trans he335180
                                    have he335277 : F335268 q334160 = .inl (I (.object "java/lang/Object"), n334174, .inr (.inr (.inr (.inr f334175)))) := (n335270 q334160 (rn_ref_long he335181 he335259)).trans he335181
                                    have he335278 : F335268 q334177 = .inr (20, [.int p334192, .int p334193, .int p334194, .int p334195, .int p334196, .int p334197, .int p334198]) := (n335270 q334177 (rn_oa he335182 he335259)).trans he335182
                                    have he335279 : F335268 q277512 = .inr (22, [.ref (γ 9 0), .ref (γ 9 1), .ref (γ 9 2), .ref (γ 9 3), .ref (γ 9 4), .ref (γ 9 5), .ref (γ 9 6), .ref (γ 9 7), .ref (γ 9 8), .int p277521, .int p277522, .int p277523, .int p277524, .int p277525, .int p277526, .ref (γ 9 15), .ref (γ 9 16), .ref (γ 9 17), .ref (γ 9 18), .ref (γ 9 19), .ref (γ 9 20), .ref (γ 9 21), .ref (γ 9 22), .int p277527, .int p277528, .int p277529, .int p277530, .int p277531, .ref q277519, .ref (γ 9 29), .int p277532, .ref (γ 9 31), .int p277533, .int p277534, .int p277535, .ref q277520]) := (n335270 q277512 (rn_oa he335184 he335259)).trans he335184
                                    have he335280 : F335268 (γ 9 1) = .inl (I (.array .long), 2000, .inr (.inr (.inr (.inr f335253)))) := (n335270 (γ 9 1) (rn_ref_long he335252 he335259)).trans he335252
                                    have he335281 : F335268 (γ 9 2) = .inl (I .long, 32, .inr (.inl f335265)) := (n335270 (γ 9 2) (rn_ty ht277540 ht335256 (by decide))).trans he335264
                                    have he335282 : F335268 q335255 = .inl (I .long, 32, .inr (.inl f335271)) := e335269
                                    have hs335283 : rStr γ [] F277511 F335268 := rStr_put hs335171 n335270 ht335256 (by decide)
                                    have kp335284 : F335268 q277512 = F277511 q277512 := (n335270 q277512 (rn_ty htq277512 ht335256 (by decide))).trans x335173
                                    have kp335285 : F335268 (γ 9 3) = F335169 (γ 9 3) := n335270 (γ 9 3) (rn_ty ht277541 ht335256 (by decide))
                                    have wf335271 : lb_W f335271 (32) (32) (2000) := lb_Wst hf335271 wf335260 (by omega) (lb_Mod0 (by omega) (by omega)) qu335267
                                    obtain ⟨z335286, hz335286⟩ : ∃ z : Int32, z = g335168 + Int32.ofInt 1 := ⟨_, rfl⟩
                                    have ez335286 : z335286.toInt = g335168.toInt + 1 := gI_inc hz335286 (by decide) bg335168' (by decide) (by decide)
                                    have bz335286 : gB z335286 1 32 := ⟨by omega, by omega⟩
                                    refine G_iinc (L' := [(10, .int z335286), (9, .int 0), (8, .int p334194), (7, .int o334237), (6, .ref q334177), (5, .int g334132), (4, .ref q332338), (3, .int g331659), (0, .ref q277512), (1, .ref q277513), (2, .int p277514)]) z335286 0 dr_cX17_graph_237 rfl hz335286.symm (Nat.le_of_ble_eq_true rfl) rfl ?_
                                    refine G_goto 210 dr_cX17_graph_240 (by decide +kernel) ?_
                                    have hT335287 : RS D I P277510 F335268 γ el := RS_set hT335170 n335270 ht335256 (by decide) ⟨f335271, he335282, wf335271⟩
                                    exact ih210_335173 F335268 z335286 (gB_w bz335286 (by decide) (by decide)) hT335287 hs335283 (by rw [kp335285]; exact x335172) kp335284 (fun k e1 ht => kt210_335174 k e1 (fun R c1 c2 => c2 F335169 g335168 q335255 f335260 u335261 f335265 u335266 u335267 f335271 F335268 z335286 k e1 bg335168 hT335170 hs335171 x335172 x335173 r335249 fq335250 hx335257 he335259 hu335261 fq335262 he335264 hu335266 hu335267 hf335271 n335270 he335282 ez335286 (ht R c1 c2))) (mz_up ez335286 (Int.le_trans bg335168'.2 (by decide)) hm210_335173)
                              exact hlp210_335173 (((33 : Int) - 0).toNat + 1) F334212 0 (gB_w (gBl (show Int32.toInt 0 = 0 by decide)) (by decide) (by decide)) hT334213 hs334222 gr334228 kp334223 (fun k e1 ht => ht) (Nat.lt_succ_self _)
                            · have r335288 : 0 ≤ p334194.toInt := gj_nlt hc335053 (show Int32.toInt 0 = 0 by decide)
                              have bp334194' : gB p334194 0 2147483647 := ⟨by omega, by omega⟩
                              refine G_aload_n 6 dr_cX17_graph_185 rfl ?_
                              have fq335289 : fR (F334212 q277512) 1 = (γ 9 1) := by rw [he334224]; rfl
                              refine Gp_get 1 hm334148 he334224 dr_cX17_graph_186 (gk_X17 D I) (Nat.le_of_ble_eq_true rfl) wr_7_75 rfl ?_
                              refine G_iload 1 dr_cX17_graph_189 rfl ?_
                              have hm335290 : (γ 9 1) ∈ P277510 := RS_m hT334213 ht277539 (by decide)
                              obtain ⟨f335292, he335291, hg335293⟩ := show rk_13 I γ (F334212 (γ 9 1)) from RS_o hT334213 ht277539
                              obtain ⟨q335294, hx335296⟩ : ∃ x, x = γ 11 o334237.toInt.toNat := ⟨_, rfl⟩
                              have ht335295 : rKd γ q335294 36 := by rw [hx335296]; exact (hg335293 _ (show o334237.toInt.toNat < 2000 by omega)).2.1
                              refine Gp_aald 5 hm335290 he335291 dr_cX17_graph_191 rfl rfl (gB_in bo334237' (by decide) (by decide)) ?_
                              rw [show f335292 o334237.toNatClampNeg = some q335294 from (hg335293 _ (show o334237.toInt.toNat < 2000 by omega)).1.trans (by rw [hx335296])]
                              change G _ _ _ _ _ _ _ (.ref q335294 :: _) _ _ _
                              refine G_iload 0 dr_cX17_graph_192 rfl ?_
                              have hm335297 : q335294 ∈ P277510 := RS_m hT334213 ht335295 (by decide)
                              obtain ⟨f335299, he335298, wf335299⟩ := show rk_36 I (F334212 q335294) from RS_o hT334213 ht335295
                              refine Gw_callS (As := [.ref q335294, .int p334194]) (gV_ok D I) (cp_1845_SpillForgeModel_has l hl0 D I P277510 F334212 q335294 p334194 f335299 hm335297 he335298 ⟨by omega, by omega⟩) dr_cX17_graph_194 ⟨wr_10_203, wr_1_14, wr_10_205, by decide, rfl, (Nat.le_of_ble_eq_true rfl), (Nat.le_of_ble_eq_true rfl)⟩ wr_10_204 (show 0 + 0 ≤ 0 by first | omega | decide) (show 0 + 0 ≤ 0 by first | omega | decide) (Nat.le_of_ble_eq_true rfl) (fun r335303 w335304 dc335300 ds335301 hp335302 => ?_) (fun _ _ _ _ _ z => z.elim)
                              rcases hp335302 with ⟨z335305, z335306, rfl, rfl, hdc, hds, r335307, r335308, r335309, r335310, r335311⟩ | ⟨z335312, z335313, rfl, rfl, hdc, hds, r335314, r335315, r335316, r335317, r335318⟩
                              · change G _ _ _ _ _ _ _ (.int 0 :: _) _ _ _
                                refine G_widen (cs' := 0) (sl' := 0) (by omega) (by omega) ?_
                                refine G_if_eq 204 dr_cX17_graph_197 (by decide +kernel) (fun _ => ?_) (fun hc => absurd hc (by decide))
                                refine G_iconst 0 dr_cX17_graph_204 (by decide +kernel) ?_
                                refine G_istore (L' := [(9, .int 0), (8, .int p334194), (7, .int o334237), (6, .ref q334177), (5, .int g334132), (4, .ref q332338), (3, .int g331659), (0, .ref q277512), (1, .ref q277513), (2, .int p277514)]) dr_cX17_graph_205 (Nat.le_of_ble_eq_true rfl) rfl ?_
                                refine G_iconst 0 dr_cX17_graph_207 (by decide +kernel) ?_
                                refine G_istore (L' := [(10, .int 0), (9, .int 0), (8, .int p334194), (7, .int o334237), (6, .ref q334177), (5, .int g334132), (4, .ref q332338), (3, .int g331659), (0, .ref q277512), (1, .ref q277513), (2, .int p277514)]) dr_cX17_graph_208 (Nat.le_of_ble_eq_true rfl) rfl ?_
                                have hlp210_335470 : ∀ (n210_335470 : Nat) (F335466 : Nat → va_E) (g335465 : Int32), gB g335465 0 32 → RS D I P277510 F335466 γ el → rStr γ [] F277511 F335466 → (gIp (p277514.toInt = 0) (rGr γ el F277511 q277513 (γ 6 (γ 1 q277513)) (cB (F335466 (γ 9 3))) (vB (g331659.toInt : Int).toNat (g334132.toInt : Int).toNat))) → (F335466 q277512 = F277511 q277512) → (∀ (k : Nat) (e1 : Nat → va_E), tl_RModel_graph_210_5 D I γ el P277510 F277511 p277514 q277513 g331659 g334132 q277512 o334237 F335466 g335465 k e1 → tl_RModel_graph_210_5 D I γ el P277510 F277511 p277514 q277513 g331659 g334132 q277512 o334237 F334212 (0 : Int32) k e1) → ((33 : Int) - g335465.toInt).toNat < n210_335470 → G (gV D I) l (gRm 5 111 0 0) (gMA (gV D I) (pt_277516_SpillForgeModel_graph D I γ el P277510 F277511 q277512 q277513 p277514) gNA 0 0) ky_277516_SpillForgeModel_graph 210 [(10, .int g335465), (9, .int 0), (8, .int p334194), (7, .int o334237), (6, .ref q334177), (5, .int g334132), (4, .ref q332338), (3, .int g331659), (0, .ref q277512), (1, .ref q277513), (2, .int p277514)] [] (va_pl P277510 F335466) 0 0 := by
                                  intro n210_335470
                                  induction n210_335470 with
                                  | zero => intro F335466 g335465 bg335465 hT335467 hs335468 x335469 x335470 kt210_335471 hm210_335470; exact absurd hm210_335470 (Nat.not_lt_zero _)
                                  | succ n210_335470 ih210_335470 =>
                                    intro F335466 g335465 bg335465 hT335467 hs335468 x335469 x335470 kt210_335471 hm210_335470
                                    have hs335472 : rStr γ [] F334212 F335466 := fun b h0 hb hw => (hs335468 b h0 hb hw).trans (hs334222 b h0 hb hw).symm
                                    have he335473 : F335466 q277513 = .inr (18, [.ref q331672, .ref q331673, .int p331674, .int p331675]) := (hs335472 q277513 (rT0 htq277513 (by decide)) (rT1 htq277513 (by decide)) (rT2 htq277513 (by decide))).trans he334215
                                    have he335474 : F335466 q331672 = .inr (4, [.int p332319, .ref q332321, .int p332320]) := (hs335472 q331672 (rT0 ht331676 (by decide)) (rT1 ht331676 (by decide)) (rT2 ht331676 (by decide))).trans he334216
                                    have he335475 : F335466 q332321 = .inl (I (.object "java/lang/Object"), n332335, .inr (.inr (.inr (.inr f332336)))) := (hs335472 q332321 (rT0 r332327 (by decide)) (rT1 r332327 (by decide)) (rT2 r332327 (by decide))).trans he334217
                                    have he335476 : F335466 q332338 = .inr (17, [.ref q332348, .ref q332349, .int p332350, .int p332351]) := (hs335472 q332338 (rT0 ht332344 (by decide)) (rT1 ht332344 (by decide)) (rT2 ht332344 (by decide))).trans he334218
                                    have he335477 : F335466 q332348 = .inr (4, [.int p334158, .ref q334160, .int p334159]) := (hs335472 q332348 (rT0 ht332352 (by decide)) (rT1 ht332352 (by decide)) (rT2 ht332352 (by decide))).trans he334219
                                    have he335478 : F335466 q334160 = .inl (I (.object "java/lang/Object"), n334174, .inr (.inr (.inr (.inr f334175)))) := (hs335472 q334160 (rT0 r334166 (by decide)) (rT1 r334166 (by decide)) (rT2 r334166 (by decide))).trans he334220
                                    have he335479 : F335466 q334177 = .inr (20, [.int p334192, .int p334193, .int p334194, .int p334195, .int p334196, .int p334197, .int p334198]) := (hs335472 q334177 (rT0 ht334180 (by decide)) (rT1 ht334180 (by decide)) (rT2 ht334180 (by decide))).trans he334221
                                    have hs335480 : rStr γ [] F277511 F335466 := rStr_tr hs334222 hs335472
                                    have he335481 : F335466 q277512 = .inr (22, [.ref (γ 9 0), .ref (γ 9 1), .ref (γ 9 2), .ref (γ 9 3), .ref (γ 9 4), .ref (γ 9 5), .ref (γ 9 6), .ref (γ 9 7), .ref (γ 9 8), .int p277521, .int p277522, .int p277523, .int p277524, .int p277525, .int p277526, .ref (γ 9 15), .ref (γ 9 16), .ref (γ 9 17), .ref (γ 9 18), .ref (γ 9 19), .ref (γ 9 20), .ref (γ 9 21), .ref (γ 9 22), .int p277527, .int p277528, .int p277529, .int p277530, .int p277531, .ref q277519, .ref (γ 9 29), .int p277532, .ref (γ 9 31), .int p277533, .int p277534, .int p277535, .ref q277520]) := x335470.trans he277518
                                    have hm335482 : q277512 ∈ P277510 := RS_m hT335467 htq277512 (by decide)
                                    refine G_iload 0 dr_cX17_graph_210 rfl ?_
                                    refine G_bipush 32 dr_cX17_graph_212 (by decide +kernel) ?_
                                    refine G_icmp_ge 243 dr_cX17_graph_214 (by decide +kernel) (fun hc335483 => ?_) (fun hc335483 => ?_)
                                    · have r335484 : 32 ≤ g335465.toInt := gj_leL hc335483 (show Int32.toInt 32 = 32 by decide)
                                      have bg335465' : gB g335465 32 32 := ⟨by omega, by omega⟩
                                      have hx335485 : tl_RModel_graph_210_5 D I γ el P277510 F277511 p277514 q277513 g331659 g334132 q277512 o334237 F334212 (0 : Int32) 243 F335466 := kt210_335471 243 F335466 (fun R c1 c2 => c1 F335466 g335465 bg335465 hT335467 hs335468 x335469 x335470 r335484)
                                      refine G_iload 2 dr_cX17_graph_243 rfl ?_
                                      refine G_if_lt 265 dr_cX17_graph_245 (by decide +kernel) (fun hc => absurd (show False by have := gj_lt hc (show Int32.toInt 0 = 0 by decide); omega) not_false) (fun _ => ?_)
                                      refine G_iload 1 dr_cX17_graph_248 rfl ?_
                                      refine G_if_ne 265 dr_cX17_graph_250 (by decide +kernel) (fun hc => absurd hc (by decide)) (fun _ => ?_)
                                      refine G_aload_n 8 dr_cX17_graph_253 rfl ?_
                                      have fq335486 : fR (F335466 q277512) 1 = (γ 9 1) := by rw [he335481]; rfl
                                      refine Gp_get 1 hm335482 he335481 dr_cX17_graph_254 (gk_X17 D I) (Nat.le_of_ble_eq_true rfl) wr_7_75 rfl ?_
                                      refine G_iload 3 dr_cX17_graph_257 rfl ?_
                                      have hm335487 : (γ 9 1) ∈ P277510 := RS_m hT335467 ht277539 (by decide)
                                      obtain ⟨f335489, he335488, hg335490⟩ := show rk_13 I γ (F335466 (γ 9 1)) from RS_o hT335467 ht277539
                                      obtain ⟨q335491, hx335493⟩ : ∃ x, x = γ 11 o334237.toInt.toNat := ⟨_, rfl⟩
                                      have ht335492 : rKd γ q335491 36 := by rw [hx335493]; exact (hg335490 _ (show o334237.toInt.toNat < 2000 by omega)).2.1
                                      refine Gp_aald 5 hm335487 he335488 dr_cX17_graph_259 rfl rfl (gB_in bo334237' (by decide) (by decide)) ?_
                                      rw [show f335489 o334237.toNatClampNeg = some q335491 from (hg335490 _ (show o334237.toInt.toNat < 2000 by omega)).1.trans (by rw [hx335493])]
                                      change G _ _ _ _ _ _ _ (.ref q335491 :: _) _ _ _
                                      refine G_iload 2 dr_cX17_graph_260 rfl ?_
                                      have hm335494 : q335491 ∈ P277510 := RS_m hT335467 ht335492 (by decide)
                                      obtain ⟨f335496, he335495, wf335496⟩ := show rk_36 I (F335466 q335491) from RS_o hT335467 ht335492
                                      refine Gw_callS (As := [.ref q335491, .int p334194]) (gV_ok D I) (cp_1880_SpillForgeModel_clear l hl0 D I P277510 F335466 q335491 p334194 f335496 hm335494 he335495 ⟨by omega, by omega⟩ wf335496) dr_cX17_graph_262 ⟨wr_10_185, wr_1_14, wr_10_187, by decide, rfl, (Nat.le_of_ble_eq_true rfl), (Nat.le_of_ble_eq_true rfl)⟩ wr_10_186 (show 0 + 0 ≤ 0 by first | omega | decide) (show 0 + 0 ≤ 0 by first | omega | decide) (Nat.le_of_ble_eq_true rfl) (fun r335500 w335501 dc335497 ds335498 hp335499 => ?_) (fun _ _ _ _ _ z => z.elim)
                                      obtain ⟨F335505, f335502, rfl, rfl, hfr335507, he335508, hdc, hds, x335503, ht335504⟩ := hp335499
                                      have he335509 : F335505 q277513 = .inr (18, [.ref q331672, .ref q331673, .int p331674, .int p331675]) := (hfr335507 q277513 hm331670 (nm_c (rn_oa he335473 he335495) nm_n)).trans he335473
                                      have he335510 : F335505 q331672 = .inr (4, [.int p332319, .ref q332321, .int p332320]) := (hfr335507 q331672 hm332317 (nm_c (rn_oa he335474 he335495) nm_n)).trans he335474
                                      have he335511 : F335505 q332321 = .inl (I (.object "java/lang/Object"), n332335, .inr (.inr (.inr (.inr f332336)))) := (hfr335507 q332321 hm332337 (nm_c (rn_ref_long he335475 he335495) nm_n)).trans he335475
                                      have he335512 : F335505 q332338 = .inr (17, [.ref q332348, .ref q332349, .int p332350, .int p332351]) := (hfr335507 q332338 hm332346 (nm_c (rn_oa he335476 he335495) nm_n)).trans he335476
                                      have he335513 : F335505 q332348 = .inr (4, [.int p334158, .ref q334160, .int p334159]) := (hfr335507 q332348 hm334156 (nm_c (rn_oa he335477 he335495) nm_n)).trans he335477
                                      have he335514 : F335505 q334160 = .inl (I (.object "java/lang/Object"), n334174, .inr (.inr (.inr (.inr f334175)))) := (hfr335507 q334160 hm334176 (nm_c (rn_ref_long he335478 he335495) nm_n)).trans he335478
                                      have he335515 : F335505 q334177 = .inr (20, [.int p334192, .int p334193, .int p334194, .int p334195, .int p334196, .int p334197, .int p334198]) := (hfr335507 q334177 hm334190 (nm_c (rn_oa he335479 he335495) nm_n)).trans he335479
                                      have he335516 : F335505 q277512 = .inr (22, [.ref (γ 9 0), .ref (γ 9 1), .ref (γ 9 2), .ref (γ 9 3), .ref (γ 9 4), .ref (γ 9 5), .ref (γ 9 6), .ref (γ 9 7), .ref (γ 9 8), .int p277521, .int p277522, .int p277523, .int p277524, .int p277525, .int p277526, .ref (γ 9 15), .ref (γ 9 16), .ref (γ 9 17), .ref (γ 9 18), .ref (γ 9 19), .ref (γ 9 20), .ref (γ 9 21), .ref (γ 9 22), .int p277527, .int p277528, .int p277529, .int p277530, .int p277531, .ref q277519, .ref (γ 9 29), .int p277532, .ref (γ 9 31), .int p277533, .int p277534, .int p277535, .ref q277520]) := (hfr335507 q277512 hm335482 (nm_c (rn_oa he335481 he335495) nm_n)).trans he335481
                                      have he335517 : F335505 (γ 9 1) = .inl (I (.array .long), 2000, .inr (.inr (.inr (.inr f335489)))) := (hfr335507 (γ 9 1) hm335487 (nm_c (rn_ref_long he335488 he335495) nm_n)).trans he335488
                                      have hfr335518 : rFr [q335491] P277510 F335466 F335505 := rFr_call (rSub_rf (P := P277510)) (rFr_rf (W := []) (P := P277510) (F := F335466)) hfr335507 (fun b hb hn => ⟨nm_n, (nm_c (fun e => hn (e ▸ List.mem_cons_self)) nm_n)⟩)
                                      change G _ _ _ _ _ _ _ _ _ _ _
                                      refine G_widen (cs' := 0) (sl' := 0) (by omega) (by omega) ?_
                                      have hT335519 : RS D I P277510 F335505 γ el := RS_fr hT335467 hfr335518 ht335492 (by decide) ⟨f335502, he335508, x335503⟩
                                      have hs335520 : rStr γ [] F277511 F335505 := rStr_fr hT335467 hs335468 hfr335518 ht335492 (by decide)
                                      have kp335521 : F335505 q277512 = F277511 q277512 := (hfr335518 q277512 (RS_m hT335467 htq277512 (by decide)) (nm_c (rn_ty htq277512 ht335492 (by decide)) nm_n)).trans x335470
                                      have kp335522 : F335505 (γ 9 3) = F335466 (γ 9 3) := hfr335518 (γ 9 3) (RS_m hT335467 ht277541 (by decide)) (nm_c (rn_ty ht277541 ht335492 (by decide)) nm_n)
                                      refine G_aload_n 8 dr_cX17_graph_265 rfl ?_
                                      have fq335523 : fR (F335505 q277512) 1 = (γ 9 1) := by rw [he335516]; rfl
                                      refine Gp_get 1 hm335482 he335516 dr_cX17_graph_266 (gk_X17 D I) (Nat.le_of_ble_eq_true rfl) wr_7_75 rfl ?_
                                      refine G_iload 3 dr_cX17_graph_269 rfl ?_
                                      obtain ⟨q335524, hx335526⟩ : ∃ x, x = γ 11 o334237.toInt.toNat := ⟨_, rfl⟩
                                      have ht335525 : rKd γ q335524 36 := by rw [hx335526]; exact (hg335490 _ (show o334237.toInt.toNat < 2000 by omega)).2.1
                                      refine Gp_aald 5 hm335487 he335517 dr_cX17_graph_271 rfl rfl (gB_in bo334237' (by decide) (by decide)) ?_
                                      rw [show f335489 o334237.toNatClampNeg = some q335524 from (hg335490 _ (show o334237.toInt.toNat < 2000 by omega)).1.trans (by rw [hx335526])]
                                      change G _ _ _ _ _ _ _ (.ref q335524 :: _) _ _ _
                                      refine G_iload 3 dr_cX17_graph_272 rfl ?_
                                      have hm335527 : q335524 ∈ P277510 := RS_m hT335519 ht335525 (by decide)
                                      obtain ⟨f335529, he335528, wf335529⟩ := show rk_36 I (F335505 q335524) from RS_o hT335519 ht335525
                                      refine Gw_callS (As := [.ref q335524, .int o334237]) (gV_ok D I) (cp_1880_SpillForgeModel_clear l hl0 D I P277510 F335505 q335524 o334237 f335529 hm335527 he335528 bo334237' wf335529) dr_cX17_graph_274 ⟨wr_10_185, wr_1_14, wr_10_187, by decide, rfl, (Nat.le_of_ble_eq_true rfl), (Nat.le_of_ble_eq_true rfl)⟩ wr_10_186 (show 0 + 0 ≤ 0 by first | omega | decide) (show 0 + 0 ≤ 0 by first | omega | decide) (Nat.le_of_ble_eq_true rfl) (fun r335533 w335534 dc335530 ds335531 hp335532 => ?_) (fun _ _ _ _ _ z => z.elim)
                                      obtain ⟨F335538, f335535, rfl, rfl, hfr335540, he335541, hdc, hds, x335536, ht335537⟩ := hp335532
                                      have he335542 : F335538 q277513 = .inr (18, [.ref q331672, .ref q331673, .int p331674, .int p331675]) := (hfr335540 q277513 hm331670 (nm_c (rn_oa he335509 he335528) nm_n)).trans he335509
                                      have he335543 : F335538 q331672 = .inr (4, [.int p332319, .ref q332321, .int p332320]) := (hfr335540 q331672 hm332317 (nm_c (rn_oa he335510 he335528) nm_n)).trans he335510
                                      have he335544 : F335538 q332321 = .inl (I (.object "java/lang/Object"), n332335, .inr (.inr (.inr (.inr f332336)))) := (hfr335540 q332321 hm332337 (nm_c (rn_ref_long he335511 he335528) nm_n)).trans he335511
                                      have he335545 : F335538 q332338 = .inr (17, [.ref q332348, .ref q332349, .int p332350, .int p332351]) := (hfr335540 q332338 hm332346 (nm_c (rn_oa he335512 he335528) nm_n)).trans he335512
                                      have he335546 : F335538 q332348 = .inr (4, [.int p334158, .ref q334160, .int p334159]) := (hfr335540 q332348 hm334156 (nm_c (rn_oa he335513 he335528) nm_n)).trans he335513
                                      have he335547 : F335538 q334160 = .inl (I (.object "java/lang/Object"), n334174, .inr (.inr (.inr (.inr f334175)))) := (hfr335540 q334160 hm334176 (nm_c (rn_ref_long he335514 he335528) nm_n)).trans he335514
                                      have he335548 : F335538 q334177 = .inr (20, [.int p334192, .int p334193, .int p334194, .int p334195, .int p334196, .int p334197, .int p334198]) := (hfr335540 q334177 hm334190 (nm_c (rn_oa he335515 he335528) nm_n)).trans he335515
                                      have he335549 : F335538 q277512 = .inr (22, [.ref (γ 9 0), .ref (γ 9 1), .ref (γ 9 2), .ref (γ 9 3), .ref (γ 9 4), .ref (γ 9 5), .ref (γ 9 6), .ref (γ 9 7), .ref (γ 9 8), .int p277521, .int p277522, .int p277523, .int p277524, .int p277525, .int p277526, .ref (γ 9 15), .ref (γ 9 16), .ref (γ 9 17), .ref (γ 9 18), .ref (γ 9 19), .ref (γ 9 20), .ref (γ 9 21), .ref (γ 9 22), .int p277527, .int p277528, .int p277529, .int p277530, .int p277531, .ref q277519, .ref (γ 9 29), .int p277532, .ref (γ 9 31), .int p277533, .int p277534, .int p277535, .ref q277520]) := (hfr335540 q277512 hm335482 (nm_c (rn_oa he335516 he335528) nm_n)).trans he335516
                                      have he335550 : F335538 (γ 9 1) = .inl (I (.array .long), 2000, .inr (.inr (.inr (.inr f335489)))) := (hfr335540 (γ 9 1) hm335487 (nm_c (rn_ref_long he335517 he335528) nm_n)).trans he335517
                                      have hfr335551 : rFr [q335524] P277510 F335505 F335538 := rFr_call (rSub_rf (P := P277510)) (rFr_rf (W := []) (P := P277510) (F := F335505)) hfr335540 (fun b hb hn => ⟨nm_n, (nm_c (fun e => hn (e ▸ List.mem_cons_self)) nm_n)⟩)
                                      change G _ _ _ _ _ _ _ _ _ _ _
                                      refine G_widen (cs' := 0) (sl' := 0) (by omega) (by omega) ?_
                                      have hT335552 : RS D I P277510 F335538 γ el := RS_fr hT335519 hfr335551 ht335525 (by decide) ⟨f335535, he335541, x335536⟩
                                      have hs335553 : rStr γ [] F277511 F335538 := rStr_fr hT335519 hs335520 hfr335551 ht335525 (by decide)
                                      have kp335554 : F335538 q277512 = F277511 q277512 := (hfr335551 q277512 (RS_m hT335519 htq277512 (by decide)) (nm_c (rn_ty htq277512 ht335525 (by decide)) nm_n)).trans kp335521
                                      have kp335555 : F335538 (γ 9 3) = F335466 (γ 9 3) := (hfr335551 (γ 9 3) (RS_m hT335519 ht277541 (by decide)) (nm_c (rn_ty ht277541 ht335525 (by decide)) nm_n)).trans kp335522
                                      refine G_aload_n 8 dr_cX17_graph_277 rfl ?_
                                      refine G_aload 4 dr_cX17_graph_278 rfl ?_
                                      refine G_iload_n 10 dr_cX17_graph_280 rfl ?_
                                      refine Gw_callV (As := [.ref q334177, .int p277514]) (gV_ok D I) (ct_284347_SpillForgeModel_back l hl0 D I γ el P277510 F335538 q277512 q334177 p277514 hT335552 htq277512 ht334180 (gB_w bp277514' (by decide) (by decide))) dr_cX17_graph_281 ⟨wr_10_174, wr_1_14, wr_10_177, by decide, rfl, (Nat.le_of_ble_eq_true rfl), (Nat.le_of_ble_eq_true rfl)⟩ wr_10_176 wr_p_96 hm335482 he335549 rfl (show 0 + 0 ≤ 0 by first | omega | decide) (show 0 + 0 ≤ 0 by first | omega | decide) (Nat.le_of_ble_eq_true rfl) (fun r335559 w335560 dc335556 ds335557 hp335558 => ?_) (fun _ _ _ _ _ z => z.elim)
                                      obtain ⟨F335564, rfl, rfl, hT335565, hs335566, hdc, hds, x335561, x335562, ht335563⟩ := hp335558
                                      have he335567 : F335564 q277513 = .inr (18, [.ref q331672, .ref q331673, .int p331674, .int p331675]) := (hs335566 q277513 (rT0 htq277513 (by decide)) (rT1 htq277513 (by decide)) (rT2 htq277513 (by decide))).trans he335542
                                      have he335568 : F335564 q331672 = .inr (4, [.int p332319, .ref q332321, .int p332320]) := (hs335566 q331672 (rT0 ht331676 (by decide)) (rT1 ht331676 (by decide)) (rT2 ht331676 (by decide))).trans he335543
                                      have he335569 : F335564 q332321 = .inl (I (.object "java/lang/Object"), n332335, .inr (.inr (.inr (.inr f332336)))) := (hs335566 q332321 (rT0 r332327 (by decide)) (rT1 r332327 (by decide)) (rT2 r332327 (by decide))).trans he335544
                                      have he335570 : F335564 q332338 = .inr (17, [.ref q332348, .ref q332349, .int p332350, .int p332351]) := (hs335566 q332338 (rT0 ht332344 (by decide)) (rT1 ht332344 (by decide)) (rT2 ht332344 (by decide))).trans he335545
                                      have he335571 : F335564 q332348 = .inr (4, [.int p334158, .ref q334160, .int p334159]) := (hs335566 q332348 (rT0 ht332352 (by decide)) (rT1 ht332352 (by decide)) (rT2 ht332352 (by decide))).trans he335546
                                      have he335572 : F335564 q334160 = .inl (I (.object "java/lang/Object"), n334174, .inr (.inr (.inr (.inr f334175)))) := (hs335566 q334160 (rT0 r334166 (by decide)) (rT1 r334166 (by decide)) (rT2 r334166 (by decide))).trans he335547
                                      have he335573 : F335564 q334177 = .inr (20, [.int p334192, .int p334193, .int p334194, .int p334195, .int p334196, .int p334197, .int p334198]) := (hs335566 q334177 (rT0 ht334180 (by decide)) (rT1 ht334180 (by decide)) (rT2 ht334180 (by decide))).trans he335548
                                      have hs335574 : rStr γ [] F277511 F335564 := rStr_tr hs335553 hs335566
                                      have kp335575 : F335564 q277512 = F277511 q277512 := (x335561).trans kp335554
                                      have kp335576 : F335564 (γ 9 3) = F335466 (γ 9 3) := (x335562).trans kp335555
                                      have he335577 : F335564 q277512 = .inr (22, [.ref (γ 9 0), .ref (γ 9 1), .ref (γ 9 2), .ref (γ 9 3), .ref (γ 9 4), .ref (γ 9 5), .ref (γ 9 6), .ref (γ 9 7), .ref (γ 9 8), .int p277521, .int p277522, .int p277523, .int p277524, .int p277525, .int p277526, .ref (γ 9 15), .ref (γ 9 16), .ref (γ 9 17), .ref (γ 9 18), .ref (γ 9 19), .ref (γ 9 20), .ref (γ 9 21), .ref (γ 9 22), .int p277527, .int p277528, .int p277529, .int p277530, .int p277531, .ref q277519, .ref (γ 9 29), .int p277532, .ref (γ 9 31), .int p277533, .int p277534, .int p277535, .ref q277520]) := (x335561).trans he335549
                                      change G _ _ _ _ _ _ _ _ _ _ _
                                      refine G_widen (cs' := 0) (sl' := 0) (by omega) (by omega) ?_
                                      obtain ⟨z335578, hz335578⟩ : ∃ z : Int32, z = g334132 + Int32.ofInt (-1) := ⟨_, rfl⟩
                                      have ez335578 : z335578.toInt = g334132.toInt + (-1) := gI_inc hz335578 (by decide) bg334132' (by decide) (by decide)
                                      have bz335578 : gB z335578 (-1) 999998 := ⟨by omega, by omega⟩
                                      refine G_iinc (L' := [(5, .int z335578), (10, .int g335465), (9, .int 0), (8, .int p334194), (7, .int o334237), (6, .ref q334177), (4, .ref q332338), (3, .int g331659), (0, .ref q277512), (1, .ref q277513), (2, .int p277514)]) z335578 5 dr_cX17_graph_284 rfl hz335578.symm (Nat.le_of_ble_eq_true rfl) rfl ?_
                                      refine G_goto 109 dr_cX17_graph_287 (by decide +kernel) ?_
                                      refine G_lv (L' := [(5, .int z335578), (4, .ref q332338), (3, .int g331659), (0, .ref q277512), (1, .ref q277513), (2, .int p277514)]) [0, 6, 7, 8, 9, 10] rfl ?_
                                      exact ih109_334138 F335564 z335578 (gB_w bz335578 (by decide) (by decide)) hT335565 hs335574 (by omega) (fun h0 => by have z := x335469 h0; rw [← kp335576] at z; rw [show ((g334132.toInt : Int).toNat : Nat) = (z335578.toInt + 1 : Int).toNat by omega] at z; exact z) kp335575 (fun k e1 ht => kt109_334139 k e1 (fun R c1 c2 c3 c4 c5 c6 c7 c8 c9 c10 c11 => c10 F334133 g334132 q332348 q334177 p334159 F334212 p334192 p334193 p334196 o334237 p334197 p334194 q335294 f335299 F335466 q335491 f335496 f335502 F335505 q335524 f335529 f335535 F335538 F335564 z335578 k e1 bg334132 hT334134 hs334135 x334136 x334137 x334138 r334153 fq334154 hx334178 fq334182 ht334188 hT334213 hs334214 x334209 x334210 ht334211 fq334229 fq334230 fq334231 bo334237 ht334238 r334500 r334762 fq334763 r335025 fq335026 r335052 r335288 fq335289 hx335296 he335298 r335311 hx335485 fq335486 hx335493 he335495 ht335504 hfr335518 he335508 hT335519 fq335523 hx335526 he335528 ht335537 hfr335551 he335541 hT335552 hT335565 hs335566 x335561 x335562 ht335563 ez335578 (ht R c1 c2 c3 c4 c5 c6 c7 c8 c9 c10 c11))) (mz_dn ez335578 (Int.le_trans (by decide) bg334132'.1) hm109_334138)
                                    · have r335579 : g335465.toInt < 32 := gj_nleL hc335483 (show Int32.toInt 32 = 32 by decide)
                                      have bg335465' : gB g335465 0 31 := ⟨by omega, by omega⟩
                                      refine G_aload_n 8 dr_cX17_graph_217 rfl ?_
                                      have fq335580 : fR (F335466 q277512) 1 = (γ 9 1) := by rw [he335481]; rfl
                                      refine Gp_get 1 hm335482 he335481 dr_cX17_graph_218 (gk_X17 D I) (Nat.le_of_ble_eq_true rfl) wr_7_75 rfl ?_
                                      refine G_iload 3 dr_cX17_graph_221 rfl ?_
                                      have hm335581 : (γ 9 1) ∈ P277510 := RS_m hT335467 ht277539 (by decide)
                                      obtain ⟨f335583, he335582, hg335584⟩ := show rk_13 I γ (F335466 (γ 9 1)) from RS_o hT335467 ht277539
                                      obtain ⟨q335585, hx335587⟩ : ∃ x, x = γ 11 o334237.toInt.toNat := ⟨_, rfl⟩
                                      have ht335586 : rKd γ q335585 36 := by rw [hx335587]; exact (hg335584 _ (show o334237.toInt.toNat < 2000 by omega)).2.1
                                      refine Gp_aald 5 hm335581 he335582 dr_cX17_graph_223 rfl rfl (gB_in bo334237' (by decide) (by decide)) ?_
                                      rw [show f335583 o334237.toNatClampNeg = some q335585 from (hg335584 _ (show o334237.toInt.toNat < 2000 by omega)).1.trans (by rw [hx335587])]
                                      change G _ _ _ _ _ _ _ (.ref q335585 :: _) _ _ _
                                      refine G_iload 0 dr_cX17_graph_224 rfl ?_
                                      refine G_dup2_11 dr_cX17_graph_226 rfl rfl ?_
                                      have hm335588 : q335585 ∈ P277510 := RS_m hT335467 ht335586 (by decide)
                                      obtain ⟨f335590, he335589, wf335590⟩ := show rk_36 I (F335466 q335585) from RS_o hT335467 ht335586
                                      refine Gp_lald 2 hm335588 he335589 dr_cX17_graph_227 rfl (gB_in bg335465' (by decide) (by decide)) (G_namL fun u335591 hu335591 => ?_)
                                      have qu335591 : lb_Q u335591 (2000 - 64 * g335465.toInt) := lb_Wld hu335591 wf335590 (by omega) (by omega) (lb_Mod0 (by omega) (by omega))
                                      refine G_aload_n 8 dr_cX17_graph_228 rfl ?_
                                      have fq335592 : fR (F335466 q277512) 2 = (γ 9 2) := by rw [he335481]; rfl
                                      refine Gp_get 2 hm335482 he335481 dr_cX17_graph_229 (gk_X17 D I) (Nat.le_of_ble_eq_true rfl) wr_7_76 rfl ?_
                                      refine G_iload 0 dr_cX17_graph_232 rfl ?_
                                      have hm335593 : (γ 9 2) ∈ P277510 := RS_m hT335467 ht277540 (by decide)
                                      obtain ⟨f335595, he335594, wf335595⟩ := show rk_35 I (F335466 (γ 9 2)) from RS_o hT335467 ht277540
                                      refine Gp_lald 2 hm335593 he335594 dr_cX17_graph_234 rfl (gB_in bg335465' (by decide) (by decide)) (G_namL fun u335596 hu335596 => ?_)
                                      have qu335596 : lb_Q u335596 (2000 - 64 * g335465.toInt) := lb_Wld hu335596 wf335595 (by omega) (by omega) (lb_Mod0 (by omega) (by omega))
                                      refine G_lor dr_cX17_graph_235 (G_namL fun u335597 hu335597 => ?_)
                                      have qu335597 : lb_Q u335597 (2000 - 64 * g335465.toInt) := lb_Qor hu335597 qu335591 qu335596
                                      refine Gp_last 2 hm335588 he335589 dr_cX17_graph_236 rfl (gB_in bg335465' (by decide) (by decide)) (fun F335598 e335599 n335600 => ?_)
                                      obtain ⟨f335601, hf335601⟩ : ∃ z, z = vp_updL f335590 g335465.toNatClampNeg u335597 := ⟨_, rfl⟩
                                      rw [← hf335601] at e335599
                                      have he335602 : F335598 q277513 = .inr (18, [.ref q331672, .ref q331673, .int p331674, .int p331675]) := (n335600 q277513 (rn_oa he335473 he335589)).trans he335473
                                      have he335603 : F335598 q331672 = .inr (4, [.int p332319, .ref q332321, .int p332320]) := (n335600 q331672 (rn_oa he335474 he335589)).trans he335474
                                      have he335604 : F335598 q332321 = .inl (I (.object "java/lang/Object"), n332335, .inr (.inr (.inr (.inr f332336)))) := (n335600 q332321 (rn_ref_long he335475 he335589)).trans he335475
                                      have he335605 : F335598 q332338 = .inr (17, [.ref q332348, .ref q332349, .int p332350, .int p332351]) := (n335600 q332338 (rn_oa he335476 he335589)).trans he335476
                                      have he335606 : F335598 q332348 = .inr (4, [.int p334158, .ref q334160, .int p334159]) := (n335600 q332348 (rn_oa he335477 he335589)).trans he335477
                                      have he335607 : F335598 q334160 = .inl (I (.object "java/lang/Object"), n334174, .inr (.inr (.inr (.inr f334175)))) := (n335600 q334160 (rn_ref_long he335478 he335589)).trans he335478
                                      have he335608 : F335598 q334177 = .inr (20, [.int p334192, .int p334193, .int p334194, .int p334195, .int p334196, .int p334197, .int p334198]) := (n335600 q334177 (rn_oa he335479 he335589)).trans he335479
                                      have he335609 : F335598 q277512 = .inr (22, [.ref (γ 9 0), .ref (γ 9 1), .ref (γ 9 2), .ref (γ 9 3), .ref (γ 9 4), .ref (γ 9 5), .ref (γ 9 6), .ref (γ 9 7), .ref (γ 9 8), .int p277521, .int p277522, .int p277523, .int p277524, .int p277525, .int p277526, .ref (γ 9 15), .ref (γ 9 16), .ref (γ 9 17), .ref (γ 9 18), .ref (γ 9 19), .ref (γ 9 20), .ref (γ 9 21), .ref (γ 9 22), .int p277527, .int p277528, .int p277529, .int p277530, .int p277531, .ref q277519, .ref (γ 9 29), .int p277532, .ref (γ 9 31), .int p277533, .int p277534, .int p277535, .ref q277520]) := (n335600 q277512 (rn_oa he335481 he335589)).trans he335481
                                      have he335610 : F335598 (γ 9 1) = .inl (I (.array .long), 2000, .inr (.inr (.inr (.inr f335583)))) := (n335600 (γ 9 1) (rn_ref_long he335582 he335589)).trans he335582
                                      have he335611 : F335598 (γ 9 2) = .inl (I .long, 32, .inr (.inl f335595)) := (n335600 (γ 9 2) (rn_ty ht277540 ht335586 (by decide))).trans he335594
                                      have he335612 : F335598 q335585 = .inl (I .long, 32, .inr (.inl f335601)) := e335599
                                      have hs335613 : rStr γ [] F277511 F335598 := rStr_put hs335468 n335600 ht335586 (by decide)
                                      have kp335614 : F335598 q277512 = F277511 q277512 := (n335600 q277512 (rn_ty htq277512 ht335586 (by decide))).trans x335470
                                      have kp335615 : F335598 (γ 9 3) = F335466 (γ 9 3) := n335600 (γ 9 3) (rn_ty ht277541 ht335586 (by decide))
                                      have wf335601 : lb_W f335601 (32) (32) (2000) := lb_Wst hf335601 wf335590 (by omega) (lb_Mod0 (by omega) (by omega)) qu335597
                                      obtain ⟨z335616, hz335616⟩ : ∃ z : Int32, z = g335465 + Int32.ofInt 1 := ⟨_, rfl⟩
                                      have ez335616 : z335616.toInt = g335465.toInt + 1 := gI_inc hz335616 (by decide) bg335465' (by decide) (by decide)
                                      have bz335616 : gB z335616 1 32 := ⟨by omega, by omega⟩
                                      refine G_iinc (L' := [(10, .int z335616), (9, .int 0), (8, .int p334194), (7, .int o334237), (6, .ref q334177), (5, .int g334132), (4, .ref q332338), (3, .int g331659), (0, .ref q277512), (1, .ref q277513), (2, .int p277514)]) z335616 0 dr_cX17_graph_237 rfl hz335616.symm (Nat.le_of_ble_eq_true rfl) rfl ?_
                                      refine G_goto 210 dr_cX17_graph_240 (by decide +kernel) ?_
                                      have hT335617 : RS D I P277510 F335598 γ el := RS_set hT335467 n335600 ht335586 (by decide) ⟨f335601, he335612, wf335601⟩
                                      exact ih210_335470 F335598 z335616 (gB_w bz335616 (by decide) (by decide)) hT335617 hs335613 (by rw [kp335615]; exact x335469) kp335614 (fun k e1 ht => kt210_335471 k e1 (fun R c1 c2 => c2 F335466 g335465 q335585 f335590 u335591 f335595 u335596 u335597 f335601 F335598 z335616 k e1 bg335465 hT335467 hs335468 x335469 x335470 r335579 fq335580 hx335587 he335589 hu335591 fq335592 he335594 hu335596 hu335597 hf335601 n335600 he335612 ez335616 (ht R c1 c2))) (mz_up ez335616 (Int.le_trans bg335465'.2 (by decide)) hm210_335470)
                                exact hlp210_335470 (((33 : Int) - 0).toNat + 1) F334212 0 (gB_w (gBl (show Int32.toInt 0 = 0 by decide)) (by decide) (by decide)) hT334213 hs334222 gr334228 kp334223 (fun k e1 ht => ht) (Nat.lt_succ_self _)
                              · change G _ _ _ _ _ _ _ (.int 1 :: _) _ _ _
                                refine G_widen (cs' := 0) (sl' := 0) (by omega) (by omega) ?_
                                refine G_if_eq 204 dr_cX17_graph_197 (by decide +kernel) (fun hc => absurd hc (by decide)) (fun _ => ?_)
                                refine G_iconst 1 dr_cX17_graph_200 (by decide +kernel) ?_
                                refine G_goto 205 dr_cX17_graph_201 (by decide +kernel) ?_
                                refine G_istore (L' := [(9, .int 1), (8, .int p334194), (7, .int o334237), (6, .ref q334177), (5, .int g334132), (4, .ref q332338), (3, .int g331659), (0, .ref q277512), (1, .ref q277513), (2, .int p277514)]) dr_cX17_graph_205 (Nat.le_of_ble_eq_true rfl) rfl ?_
                                refine G_iconst 0 dr_cX17_graph_207 (by decide +kernel) ?_
                                refine G_istore (L' := [(10, .int 0), (9, .int 1), (8, .int p334194), (7, .int o334237), (6, .ref q334177), (5, .int g334132), (4, .ref q332338), (3, .int g331659), (0, .ref q277512), (1, .ref q277513), (2, .int p277514)]) dr_cX17_graph_208 (Nat.le_of_ble_eq_true rfl) rfl ?_
                                have hlp210_335736 : ∀ (n210_335736 : Nat) (F335732 : Nat → va_E) (g335731 : Int32), gB g335731 0 32 → RS D I P277510 F335732 γ el → rStr γ [] F277511 F335732 → (gIp (p277514.toInt = 0) (rGr γ el F277511 q277513 (γ 6 (γ 1 q277513)) (cB (F335732 (γ 9 3))) (vB (g331659.toInt : Int).toNat (g334132.toInt : Int).toNat))) → (F335732 q277512 = F277511 q277512) → (∀ (k : Nat) (e1 : Nat → va_E), tl_RModel_graph_210_6 D I γ el P277510 F277511 p277514 q277513 g331659 g334132 q277512 o334237 F335732 g335731 k e1 → tl_RModel_graph_210_6 D I γ el P277510 F277511 p277514 q277513 g331659 g334132 q277512 o334237 F334212 (0 : Int32) k e1) → ((33 : Int) - g335731.toInt).toNat < n210_335736 → G (gV D I) l (gRm 5 111 0 0) (gMA (gV D I) (pt_277516_SpillForgeModel_graph D I γ el P277510 F277511 q277512 q277513 p277514) gNA 0 0) ky_277516_SpillForgeModel_graph 210 [(10, .int g335731), (9, .int 1), (8, .int p334194), (7, .int o334237), (6, .ref q334177), (5, .int g334132), (4, .ref q332338), (3, .int g331659), (0, .ref q277512), (1, .ref q277513), (2, .int p277514)] [] (va_pl P277510 F335732) 0 0 := by
                                  intro n210_335736
                                  induction n210_335736 with
                                  | zero => intro F335732 g335731 bg335731 hT335733 hs335734 x335735 x335736 kt210_335737 hm210_335736; exact absurd hm210_335736 (Nat.not_lt_zero _)
                                  | succ n210_335736 ih210_335736 =>
                                    intro F335732 g335731 bg335731 hT335733 hs335734 x335735 x335736 kt210_335737 hm210_335736
                                    have hs335738 : rStr γ [] F334212 F335732 := fun b h0 hb hw => (hs335734 b h0 hb hw).trans (hs334222 b h0 hb hw).symm
                                    have he335739 : F335732 q277513 = .inr (18, [.ref q331672, .ref q331673, .int p331674, .int p331675]) := (hs335738 q277513 (rT0 htq277513 (by decide)) (rT1 htq277513 (by decide)) (rT2 htq277513 (by decide))).trans he334215
                                    have he335740 : F335732 q331672 = .inr (4, [.int p332319, .ref q332321, .int p332320]) := (hs335738 q331672 (rT0 ht331676 (by decide)) (rT1 ht331676 (by decide)) (rT2 ht331676 (by decide))).trans he334216
                                    have he335741 : F335732 q332321 = .inl (I (.object "java/lang/Object"), n332335, .inr (.inr (.inr (.inr f332336)))) := (hs335738 q332321 (rT0 r332327 (by decide)) (rT1 r332327 (by decide)) (rT2 r332327 (by decide))).trans he334217
                                    have he335742 : F335732 q332338 = .inr (17, [.ref q332348, .ref q332349, .int p332350, .int p332351]) := (hs335738 q332338 (rT0 ht332344 (by decide)) (rT1 ht332344 (by decide)) (rT2 ht332344 (by decide))).trans he334218
                                    have he335743 : F335732 q332348 = .inr (4, [.int p334158, .ref q334160, .int p334159]) := (hs335738 q332348 (rT0 ht332352 (by decide)) (rT1 ht332352 (by decide)) (rT2 ht332352 (by decide))).trans he334219
                                    have he335744 : F335732 q334160 = .inl (I (.object "java/lang/Object"), n334174, .inr (.inr (.inr (.inr f334175)))) := (hs335738 q334160 (rT0 r334166 (by decide)) (rT1 r334166 (by decide)) (rT2 r334166 (by decide))).trans he334220
                                    have he335745 : F335732 q334177 = .inr (20, [.int p334192, .int p334193, .int p334194, .int p334195, .int p334196, .int p334197, .int p334198]) := (hs335738 q334177 (rT0 ht334180 (by decide)) (rT1 ht334180 (by decide)) (rT2 ht334180 (by decide))).trans he334221
                                    have hs335746 : rStr γ [] F277511 F335732 := rStr_tr hs334222 hs335738
                                    have he335747 : F335732 q277512 = .inr (22, [.ref (γ 9 0), .ref (γ 9 1), .ref (γ 9 2), .ref (γ 9 3), .ref (γ 9 4), .ref (γ 9 5), .ref (γ 9 6), .ref (γ 9 7), .ref (γ 9 8), .int p277521, .int p277522, .int p277523, .int p277524, .int p277525, .int p277526, .ref (γ 9 15), .ref (γ 9 16), .ref (γ 9 17), .ref (γ 9 18), .ref (γ 9 19), .ref (γ 9 20), .ref (γ 9 21), .ref (γ 9 22), .int p277527, .int p277528, .int p277529, .int p277530, .int p277531, .ref q277519, .ref (γ 9 29), .int p277532, .ref (γ 9 31), .int p277533, .int p277534, .int p277535, .ref q277520]) := x335736.trans he277518
                                    have hm335748 : q277512 ∈ P277510 := RS_m hT335733 htq277512 (by decide)
                                    refine G_iload 0 dr_cX17_graph_210 rfl ?_
                                    refine G_bipush 32 dr_cX17_graph_212 (by decide +kernel) ?_
                                    refine G_icmp_ge 243 dr_cX17_graph_214 (by decide +kernel) (fun hc335749 => ?_) (fun hc335749 => ?_)
                                    · have r335750 : 32 ≤ g335731.toInt := gj_leL hc335749 (show Int32.toInt 32 = 32 by decide)
                                      have bg335731' : gB g335731 32 32 := ⟨by omega, by omega⟩
                                      have hx335751 : tl_RModel_graph_210_6 D I γ el P277510 F277511 p277514 q277513 g331659 g334132 q277512 o334237 F334212 (0 : Int32) 243 F335732 := kt210_335737 243 F335732 (fun R c1 c2 => c1 F335732 g335731 bg335731 hT335733 hs335734 x335735 x335736 r335750)
                                      refine G_iload 2 dr_cX17_graph_243 rfl ?_
                                      refine G_if_lt 265 dr_cX17_graph_245 (by decide +kernel) (fun hc => absurd (show False by have := gj_lt hc (show Int32.toInt 0 = 0 by decide); omega) not_false) (fun _ => ?_)
                                      refine G_iload 1 dr_cX17_graph_248 rfl ?_
                                      refine G_if_ne 265 dr_cX17_graph_250 (by decide +kernel) (fun _ => ?_) (fun hc => absurd hc (by decide))
                                      refine G_aload_n 8 dr_cX17_graph_265 rfl ?_
                                      have fq335752 : fR (F335732 q277512) 1 = (γ 9 1) := by rw [he335747]; rfl
                                      refine Gp_get 1 hm335748 he335747 dr_cX17_graph_266 (gk_X17 D I) (Nat.le_of_ble_eq_true rfl) wr_7_75 rfl ?_
                                      refine G_iload 3 dr_cX17_graph_269 rfl ?_
                                      have hm335753 : (γ 9 1) ∈ P277510 := RS_m hT335733 ht277539 (by decide)
                                      obtain ⟨f335755, he335754, hg335756⟩ := show rk_13 I γ (F335732 (γ 9 1)) from RS_o hT335733 ht277539
                                      obtain ⟨q335757, hx335759⟩ : ∃ x, x = γ 11 o334237.toInt.toNat := ⟨_, rfl⟩
                                      have ht335758 : rKd γ q335757 36 := by rw [hx335759]; exact (hg335756 _ (show o334237.toInt.toNat < 2000 by omega)).2.1
                                      refine Gp_aald 5 hm335753 he335754 dr_cX17_graph_271 rfl rfl (gB_in bo334237' (by decide) (by decide)) ?_
                                      rw [show f335755 o334237.toNatClampNeg = some q335757 from (hg335756 _ (show o334237.toInt.toNat < 2000 by omega)).1.trans (by rw [hx335759])]
                                      change G _ _ _ _ _ _ _ (.ref q335757 :: _) _ _ _
                                      refine G_iload 3 dr_cX17_graph_272 rfl ?_
                                      have hm335760 : q335757 ∈ P277510 := RS_m hT335733 ht335758 (by decide)
                                      obtain ⟨f335762, he335761, wf335762⟩ := show rk_36 I (F335732 q335757) from RS_o hT335733 ht335758
                                      refine Gw_callS (As := [.ref q335757, .int o334237]) (gV_ok D I) (cp_1880_SpillForgeModel_clear l hl0 D I P277510 F335732 q335757 o334237 f335762 hm335760 he335761 bo334237' wf335762) dr_cX17_graph_274 ⟨wr_10_185, wr_1_14, wr_10_187, by decide, rfl, (Nat.le_of_ble_eq_true rfl), (Nat.le_of_ble_eq_true rfl)⟩ wr_10_186 (show 0 + 0 ≤ 0 by first | omega | decide) (show 0 + 0 ≤ 0 by first | omega | decide) (Nat.le_of_ble_eq_true rfl) (fun r335766 w335767 dc335763 ds335764 hp335765 => ?_) (fun _ _ _ _ _ z => z.elim)
                                      obtain ⟨F335771, f335768, rfl, rfl, hfr335773, he335774, hdc, hds, x335769, ht335770⟩ := hp335765
                                      have he335775 : F335771 q277513 = .inr (18, [.ref q331672, .ref q331673, .int p331674, .int p331675]) := (hfr335773 q277513 hm331670 (nm_c (rn_oa he335739 he335761) nm_n)).trans he335739
                                      have he335776 : F335771 q331672 = .inr (4, [.int p332319, .ref q332321, .int p332320]) := (hfr335773 q331672 hm332317 (nm_c (rn_oa he335740 he335761) nm_n)).trans he335740
                                      have he335777 : F335771 q332321 = .inl (I (.object "java/lang/Object"), n332335, .inr (.inr (.inr (.inr f332336)))) := (hfr335773 q332321 hm332337 (nm_c (rn_ref_long he335741 he335761) nm_n)).trans he335741
                                      have he335778 : F335771 q332338 = .inr (17, [.ref q332348, .ref q332349, .int p332350, .int p332351]) := (hfr335773 q332338 hm332346 (nm_c (rn_oa he335742 he335761) nm_n)).trans he335742
                                      have he335779 : F335771 q332348 = .inr (4, [.int p334158, .ref q334160, .int p334159]) := (hfr335773 q332348 hm334156 (nm_c (rn_oa he335743 he335761) nm_n)).trans he335743
                                      have he335780 : F335771 q334160 = .inl (I (.object "java/lang/Object"), n334174, .inr (.inr (.inr (.inr f334175)))) := (hfr335773 q334160 hm334176 (nm_c (rn_ref_long he335744 he335761) nm_n)).trans he335744
                                      have he335781 : F335771 q334177 = .inr (20, [.int p334192, .int p334193, .int p334194, .int p334195, .int p334196, .int p334197, .int p334198]) := (hfr335773 q334177 hm334190 (nm_c (rn_oa he335745 he335761) nm_n)).trans he335745
                                      have he335782 : F335771 q277512 = .inr (22, [.ref (γ 9 0), .ref (γ 9 1), .ref (γ 9 2), .ref (γ 9 3), .ref (γ 9 4), .ref (γ 9 5), .ref (γ 9 6), .ref (γ 9 7), .ref (γ 9 8), .int p277521, .int p277522, .int p277523, .int p277524, .int p277525, .int p277526, .ref (γ 9 15), .ref (γ 9 16), .ref (γ 9 17), .ref (γ 9 18), .ref (γ 9 19), .ref (γ 9 20), .ref (γ 9 21), .ref (γ 9 22), .int p277527, .int p277528, .int p277529, .int p277530, .int p277531, .ref q277519, .ref (γ 9 29), .int p277532, .ref (γ 9 31), .int p277533, .int p277534, .int p277535, .ref q277520]) := (hfr335773 q277512 hm335748 (nm_c (rn_oa he335747 he335761) nm_n)).trans he335747
                                      have he335783 : F335771 (γ 9 1) = .inl (I (.array .long), 2000, .inr (.inr (.inr (.inr f335755)))) := (hfr335773 (γ 9 1) hm335753 (nm_c (rn_ref_long he335754 he335761) nm_n)).trans he335754
                                      have hfr335784 : rFr [q335757] P277510 F335732 F335771 := rFr_call (rSub_rf (P := P277510)) (rFr_rf (W := []) (P := P277510) (F := F335732)) hfr335773 (fun b hb hn => ⟨nm_n, (nm_c (fun e => hn (e ▸ List.mem_cons_self)) nm_n)⟩)
                                      change G _ _ _ _ _ _ _ _ _ _ _
                                      refine G_widen (cs' := 0) (sl' := 0) (by omega) (by omega) ?_
                                      have hT335785 : RS D I P277510 F335771 γ el := RS_fr hT335733 hfr335784 ht335758 (by decide) ⟨f335768, he335774, x335769⟩
                                      have hs335786 : rStr γ [] F277511 F335771 := rStr_fr hT335733 hs335734 hfr335784 ht335758 (by decide)
                                      have kp335787 : F335771 q277512 = F277511 q277512 := (hfr335784 q277512 (RS_m hT335733 htq277512 (by decide)) (nm_c (rn_ty htq277512 ht335758 (by decide)) nm_n)).trans x335736
                                      have kp335788 : F335771 (γ 9 3) = F335732 (γ 9 3) := hfr335784 (γ 9 3) (RS_m hT335733 ht277541 (by decide)) (nm_c (rn_ty ht277541 ht335758 (by decide)) nm_n)
                                      refine G_aload_n 8 dr_cX17_graph_277 rfl ?_
                                      refine G_aload 4 dr_cX17_graph_278 rfl ?_
                                      refine G_iload_n 10 dr_cX17_graph_280 rfl ?_
                                      refine Gw_callV (As := [.ref q334177, .int p277514]) (gV_ok D I) (ct_284347_SpillForgeModel_back l hl0 D I γ el P277510 F335771 q277512 q334177 p277514 hT335785 htq277512 ht334180 (gB_w bp277514' (by decide) (by decide))) dr_cX17_graph_281 ⟨wr_10_174, wr_1_14, wr_10_177, by decide, rfl, (Nat.le_of_ble_eq_true rfl), (Nat.le_of_ble_eq_true rfl)⟩ wr_10_176 wr_p_96 hm335748 he335782 rfl (show 0 + 0 ≤ 0 by first | omega | decide) (show 0 + 0 ≤ 0 by first | omega | decide) (Nat.le_of_ble_eq_true rfl) (fun r335792 w335793 dc335789 ds335790 hp335791 => ?_) (fun _ _ _ _ _ z => z.elim)
                                      obtain ⟨F335797, rfl, rfl, hT335798, hs335799, hdc, hds, x335794, x335795, ht335796⟩ := hp335791
                                      have he335800 : F335797 q277513 = .inr (18, [.ref q331672, .ref q331673, .int p331674, .int p331675]) := (hs335799 q277513 (rT0 htq277513 (by decide)) (rT1 htq277513 (by decide)) (rT2 htq277513 (by decide))).trans he335775
                                      have he335801 : F335797 q331672 = .inr (4, [.int p332319, .ref q332321, .int p332320]) := (hs335799 q331672 (rT0 ht331676 (by decide)) (rT1 ht331676 (by decide)) (rT2 ht331676 (by decide))).trans he335776
                                      have he335802 : F335797 q332321 = .inl (I (.object "java/lang/Object"), n332335, .inr (.inr (.inr (.inr f332336)))) := (hs335799 q332321 (rT0 r332327 (by decide)) (rT1 r332327 (by decide)) (rT2 r332327 (by decide))).trans he335777
                                      have he335803 : F335797 q332338 = .inr (17, [.ref q332348, .ref q332349, .int p332350, .int p332351]) := (hs335799 q332338 (rT0 ht332344 (by decide)) (rT1 ht332344 (by decide)) (rT2 ht332344 (by decide))).trans he335778
                                      have he335804 : F335797 q332348 = .inr (4, [.int p334158, .ref q334160, .int p334159]) := (hs335799 q332348 (rT0 ht332352 (by decide)) (rT1 ht332352 (by decide)) (rT2 ht332352 (by decide))).trans he335779
                                      have he335805 : F335797 q334160 = .inl (I (.object "java/lang/Object"), n334174, .inr (.inr (.inr (.inr f334175)))) := (hs335799 q334160 (rT0 r334166 (by decide)) (rT1 r334166 (by decide)) (rT2 r334166 (by decide))).trans he335780
                                      have he335806 : F335797 q334177 = .inr (20, [.int p334192, .int p334193, .int p334194, .int p334195, .int p334196, .int p334197, .int p334198]) := (hs335799 q334177 (rT0 ht334180 (by decide)) (rT1 ht334180 (by decide)) (rT2 ht334180 (by decide))).trans he335781
                                      have hs335807 : rStr γ [] F277511 F335797 := rStr_tr hs335786 hs335799
                                      have kp335808 : F335797 q277512 = F277511 q277512 := (x335794).trans kp335787
                                      have kp335809 : F335797 (γ 9 3) = F335732 (γ 9 3) := (x335795).trans kp335788
                                      have he335810 : F335797 q277512 = .inr (22, [.ref (γ 9 0), .ref (γ 9 1), .ref (γ 9 2), .ref (γ 9 3), .ref (γ 9 4), .ref (γ 9 5), .ref (γ 9 6), .ref (γ 9 7), .ref (γ 9 8), .int p277521, .int p277522, .int p277523, .int p277524, .int p277525, .int p277526, .ref (γ 9 15), .ref (γ 9 16), .ref (γ 9 17), .ref (γ 9 18), .ref (γ 9 19), .ref (γ 9 20), .ref (γ 9 21), .ref (γ 9 22), .int p277527, .int p277528, .int p277529, .int p277530, .int p277531, .ref q277519, .ref (γ 9 29), .int p277532, .ref (γ 9 31), .int p277533, .int p277534, .int p277535, .ref q277520]) := (x335794).trans he335782
                                      change G _ _ _ _ _ _ _ _ _ _ _
                                      refine G_widen (cs' := 0) (sl' := 0) (by omega) (by omega) ?_
                                      obtain ⟨z335811, hz335811⟩ : ∃ z : Int32, z = g334132 + Int32.ofInt (-1) := ⟨_, rfl⟩
                                      have ez335811 : z335811.toInt = g334132.toInt + (-1) := gI_inc hz335811 (by decide) bg334132' (by decide) (by decide)
                                      have bz335811 : gB z335811 (-1) 999998 := ⟨by omega, by omega⟩
                                      refine G_iinc (L' := [(5, .int z335811), (10, .int g335731), (9, .int 1), (8, .int p334194), (7, .int o334237), (6, .ref q334177), (4, .ref q332338), (3, .int g331659), (0, .ref q277512), (1, .ref q277513), (2, .int p277514)]) z335811 5 dr_cX17_graph_284 rfl hz335811.symm (Nat.le_of_ble_eq_true rfl) rfl ?_
                                      refine G_goto 109 dr_cX17_graph_287 (by decide +kernel) ?_
                                      refine G_lv (L' := [(5, .int z335811), (4, .ref q332338), (3, .int g331659), (0, .ref q277512), (1, .ref q277513), (2, .int p277514)]) [0, 6, 7, 8, 9, 10] rfl ?_
                                      exact ih109_334138 F335797 z335811 (gB_w bz335811 (by decide) (by decide)) hT335798 hs335807 (by omega) (fun h0 => by have z := x335735 h0; rw [← kp335809] at z; rw [show ((g334132.toInt : Int).toNat : Nat) = (z335811.toInt + 1 : Int).toNat by omega] at z; exact z) kp335808 (fun k e1 ht => kt109_334139 k e1 (fun R c1 c2 c3 c4 c5 c6 c7 c8 c9 c10 c11 => c11 F334133 g334132 q332348 q334177 p334159 F334212 p334192 p334193 p334196 o334237 p334197 p334194 q335294 f335299 F335732 q335757 f335762 f335768 F335771 F335797 z335811 k e1 bg334132 hT334134 hs334135 x334136 x334137 x334138 r334153 fq334154 hx334178 fq334182 ht334188 hT334213 hs334214 x334209 x334210 ht334211 fq334229 fq334230 fq334231 bo334237 ht334238 r334500 r334762 fq334763 r335025 fq335026 r335052 r335288 fq335289 hx335296 he335298 r335318 hx335751 fq335752 hx335759 he335761 ht335770 hfr335784 he335774 hT335785 hT335798 hs335799 x335794 x335795 ht335796 ez335811 (ht R c1 c2 c3 c4 c5 c6 c7 c8 c9 c10 c11))) (mz_dn ez335811 (Int.le_trans (by decide) bg334132'.1) hm109_334138)
                                    · have r335812 : g335731.toInt < 32 := gj_nleL hc335749 (show Int32.toInt 32 = 32 by decide)
                                      have bg335731' : gB g335731 0 31 := ⟨by omega, by omega⟩
                                      refine G_aload_n 8 dr_cX17_graph_217 rfl ?_
                                      have fq335813 : fR (F335732 q277512) 1 = (γ 9 1) := by rw [he335747]; rfl
                                      refine Gp_get 1 hm335748 he335747 dr_cX17_graph_218 (gk_X17 D I) (Nat.le_of_ble_eq_true rfl) wr_7_75 rfl ?_
                                      refine G_iload 3 dr_cX17_graph_221 rfl ?_
                                      have hm335814 : (γ 9 1) ∈ P277510 := RS_m hT335733 ht277539 (by decide)
                                      obtain ⟨f335816, he335815, hg335817⟩ := show rk_13 I γ (F335732 (γ 9 1)) from RS_o hT335733 ht277539
                                      obtain ⟨q335818, hx335820⟩ : ∃ x, x = γ 11 o334237.toInt.toNat := ⟨_, rfl⟩
                                      have ht335819 : rKd γ q335818 36 := by rw [hx335820]; exact (hg335817 _ (show o334237.toInt.toNat < 2000 by omega)).2.1
                                      refine Gp_aald 5 hm335814 he335815 dr_cX17_graph_223 rfl rfl (gB_in bo334237' (by decide) (by decide)) ?_
                                      rw [show f335816 o334237.toNatClampNeg = some q335818 from (hg335817 _ (show o334237.toInt.toNat < 2000 by omega)).1.trans (by rw [hx335820])]
                                      change G _ _ _ _ _ _ _ (.ref q335818 :: _) _ _ _
                                      refine G_iload 0 dr_cX17_graph_224 rfl ?_
                                      refine G_dup2_11 dr_cX17_graph_226 rfl rfl ?_
                                      have hm335821 : q335818 ∈ P277510 := RS_m hT335733 ht335819 (by decide)
                                      obtain ⟨f335823, he335822, wf335823⟩ := show rk_36 I (F335732 q335818) from RS_o hT335733 ht335819
                                      refine Gp_lald 2 hm335821 he335822 dr_cX17_graph_227 rfl (gB_in bg335731' (by decide) (by decide)) (G_namL fun u335824 hu335824 => ?_)
                                      have qu335824 : lb_Q u335824 (2000 - 64 * g335731.toInt) := lb_Wld hu335824 wf335823 (by omega) (by omega) (lb_Mod0 (by omega) (by omega))
                                      refine G_aload_n 8 dr_cX17_graph_228 rfl ?_
                                      have fq335825 : fR (F335732 q277512) 2 = (γ 9 2) := by rw [he335747]; rfl
                                      refine Gp_get 2 hm335748 he335747 dr_cX17_graph_229 (gk_X17 D I) (Nat.le_of_ble_eq_true rfl) wr_7_76 rfl ?_
                                      refine G_iload 0 dr_cX17_graph_232 rfl ?_
                                      have hm335826 : (γ 9 2) ∈ P277510 := RS_m hT335733 ht277540 (by decide)
                                      obtain ⟨f335828, he335827, wf335828⟩ := show rk_35 I (F335732 (γ 9 2)) from RS_o hT335733 ht277540
                                      refine Gp_lald 2 hm335826 he335827 dr_cX17_graph_234 rfl (gB_in bg335731' (by decide) (by decide)) (G_namL fun u335829 hu335829 => ?_)
                                      have qu335829 : lb_Q u335829 (2000 - 64 * g335731.toInt) := lb_Wld hu335829 wf335828 (by omega) (by omega) (lb_Mod0 (by omega) (by omega))
                                      refine G_lor dr_cX17_graph_235 (G_namL fun u335830 hu335830 => ?_)
                                      have qu335830 : lb_Q u335830 (2000 - 64 * g335731.toInt) := lb_Qor hu335830 qu335824 qu335829
                                      refine Gp_last 2 hm335821 he335822 dr_cX17_graph_236 rfl (gB_in bg335731' (by decide) (by decide)) (fun F335831 e335832 n335833 => ?_)
                                      obtain ⟨f335834, hf335834⟩ : ∃ z, z = vp_updL f335823 g335731.toNatClampNeg u335830 := ⟨_, rfl⟩
                                      rw [← hf335834] at e335832
                                      have he335835 : F335831 q277513 = .inr (18, [.ref q331672, .ref q331673, .int p331674, .int p331675]) := (n335833 q277513 (rn_oa he335739 he335822)).trans he335739
                                      have he335836 : F335831 q331672 = .inr (4, [.int p332319, .ref q332321, .int p332320]) := (n335833 q331672 (rn_oa he335740 he335822)).trans he335740
                                      have he335837 : F335831 q332321 = .inl (I (.object "java/lang/Object"), n332335, .inr (.inr (.inr (.inr f332336)))) := (n335833 q332321 (rn_ref_long he335741 he335822)).trans he335741
                                      have he335838 : F335831 q332338 = .inr (17, [.ref q332348, .ref q332349, .int p332350, .int p332351]) := (n335833 q332338 (rn_oa he335742 he335822)).trans he335742
                                      have he335839 : F335831 q332348 = .inr (4, [.int p334158, .ref q334160, .int p334159]) := (n335833 q332348 (rn_oa he335743 he335822)).trans he335743
                                      have he335840 : F335831 q334160 = .inl (I (.object "java/lang/Object"), n334174, .inr (.inr (.inr (.inr f334175)))) := (n335833 q334160 (rn_ref_long he335744 he335822)).trans he335744
                                      have he335841 : F335831 q334177 = .inr (20, [.int p334192, .int p334193, .int p334194, .int p334195, .int p334196, .int p334197, .int p334198]) := (n335833 q334177 (rn_oa he335745 he335822)).trans he335745
                                      have he335842 : F335831 q277512 = .inr (22, [.ref (γ 9 0), .ref (γ 9 1), .ref (γ 9 2), .ref (γ 9 3), .ref (γ 9 4), .ref (γ 9 5), .ref (γ 9 6), .ref (γ 9 7), .ref (γ 9 8), .int p277521, .int p277522, .int p277523, .int p277524, .int p277525, .int p277526, .ref (γ 9 15), .ref (γ 9 16), .ref (γ 9 17), .ref (γ 9 18), .ref (γ 9 19), .ref (γ 9 20), .ref (γ 9 21), .ref (γ 9 22), .int p277527, .int p277528, .int p277529, .int p277530, .int p277531, .ref q277519, .ref (γ 9 29), .int p277532, .ref (γ 9 31), .int p277533, .int p277534, .int p277535, .ref q277520]) := (n335833 q277512 (rn_oa he335747 he335822)).trans he335747
                                      have he335843 : F335831 (γ 9 1) = .inl (I (.array .long), 2000, .inr (.inr (.inr (.inr f335816)))) := (n335833 (γ 9 1) (rn_ref_long he335815 he335822)).trans he335815
                                      have he335844 : F335831 (γ 9 2) = .inl (I .long, 32, .inr (.inl f335828)) := (n335833 (γ 9 2) (rn_ty ht277540 ht335819 (by decide))).trans he335827
                                      have he335845 : F335831 q335818 = .inl (I .long, 32, .inr (.inl f335834)) := e335832
                                      have hs335846 : rStr γ [] F277511 F335831 := rStr_put hs335734 n335833 ht335819 (by decide)
                                      have kp335847 : F335831 q277512 = F277511 q277512 := (n335833 q277512 (rn_ty htq277512 ht335819 (by decide))).trans x335736
                                      have kp335848 : F335831 (γ 9 3) = F335732 (γ 9 3) := n335833 (γ 9 3) (rn_ty ht277541 ht335819 (by decide))
                                      have wf335834 : lb_W f335834 (32) (32) (2000) := lb_Wst hf335834 wf335823 (by omega) (lb_Mod0 (by omega) (by omega)) qu335830
                                      obtain ⟨z335849, hz335849⟩ : ∃ z : Int32, z = g335731 + Int32.ofInt 1 := ⟨_, rfl⟩
                                      have ez335849 : z335849.toInt = g335731.toInt + 1 := gI_inc hz335849 (by decide) bg335731' (by decide) (by decide)
                                      have bz335849 : gB z335849 1 32 := ⟨by omega, by omega⟩
                                      refine G_iinc (L' := [(10, .int z335849), (9, .int 1), (8, .int p334194), (7, .int o334237), (6, .ref q334177), (5, .int g334132), (4, .ref q332338), (3, .int g331659), (0, .ref q277512), (1, .ref q277513), (2, .int p277514)]) z335849 0 dr_cX17_graph_237 rfl hz335849.symm (Nat.le_of_ble_eq_true rfl) rfl ?_
                                      refine G_goto 210 dr_cX17_graph_240 (by decide +kernel) ?_
                                      have hT335850 : RS D I P277510 F335831 γ el := RS_set hT335733 n335833 ht335819 (by decide) ⟨f335834, he335845, wf335834⟩
                                      exact ih210_335736 F335831 z335849 (gB_w bz335849 (by decide) (by decide)) hT335850 hs335846 (by rw [kp335848]; exact x335735) kp335847 (fun k e1 ht => kt210_335737 k e1 (fun R c1 c2 => c2 F335732 g335731 q335818 f335823 u335824 f335828 u335829 u335830 f335834 F335831 z335849 k e1 bg335731 hT335733 hs335734 x335735 x335736 r335812 fq335813 hx335820 he335822 hu335824 fq335825 he335827 hu335829 hu335830 hf335834 n335833 he335845 ez335849 (ht R c1 c2))) (mz_up ez335849 (Int.le_trans bg335731'.2 (by decide)) hm210_335736)
                                exact hlp210_335736 (((33 : Int) - 0).toNat + 1) F334212 0 (gB_w (gBl (show Int32.toInt 0 = 0 by decide)) (by decide) (by decide)) hT334213 hs334222 gr334228 kp334223 (fun k e1 ht => ht) (Nat.lt_succ_self _)
              exact hlp109_334138 (((z332450.toInt : Int) - (-2)).toNat + 1) F332420 z332450 bz332450 hT332421 hs332427 (by omega) (fun h0 => by have z := gr332410 h0; rw [← kp332429] at z; rw [show (γ 2 q332348 : Nat) = (z332450.toInt + 1 : Int).toNat by omega] at z; exact z) kp332428 (fun k e1 ht => ht) (Nat.lt_succ_self _)
        exact hlp56_331664 (((1000001 : Int) - 0).toNat + 1) F327506 0 (gB_w (gBl (show Int32.toInt 0 = 0 by decide)) (by decide) (by decide)) hT327507 hs327508 (fun _ => gq_0 (fun m hm => x327509 m (by omega))) x327510 (fun k e1 ht => ht) (Nat.lt_succ_self _)
      · have r335851 : g327505.toInt < 2000 := gj_nleL hc327516 (show Int32.toInt 2000 = 2000 by decide)
        have bg327505' : gB g327505 0 1999 := ⟨by omega, by omega⟩
        refine G_aload_n 1 dr_cX17_graph_15 rfl ?_
        have fq335852 : fR (F327506 q277512) 3 = (γ 9 3) := by rw [he327514]; rfl
        refine Gp_get 3 hm327515 he327514 dr_cX17_graph_16 (gk_X17 D I) (Nat.le_of_ble_eq_true rfl) wr_7_77 rfl ?_
        refine G_iload_n 0 dr_cX17_graph_19 rfl ?_
        refine G_iconst 0 dr_cX17_graph_20 (by decide +kernel) ?_
        have hm335853 : (γ 9 3) ∈ P277510 := RS_m hT327507 ht277541 (by decide)
        obtain ⟨f335855, he335854, bf335855⟩ := show rk_14 I (F327506 (γ 9 3)) from RS_o hT327507 ht277541
        refine Gp_zast 3 hm335853 he335854 dr_cX17_graph_21 rfl (gB_in bg327505' (by decide) (by decide)) (fun F335856 e335857 n335858 => ?_)
        obtain ⟨f335859, hf335859⟩ : ∃ z, z = upd f335855 g327505.toNatClampNeg (vp_nar .boolean 0) := ⟨_, rfl⟩
        rw [← hf335859] at e335857
        have he335860 : F335856 q277512 = .inr (22, [.ref (γ 9 0), .ref (γ 9 1), .ref (γ 9 2), .ref (γ 9 3), .ref (γ 9 4), .ref (γ 9 5), .ref (γ 9 6), .ref (γ 9 7), .ref (γ 9 8), .int p277521, .int p277522, .int p277523, .int p277524, .int p277525, .int p277526, .ref (γ 9 15), .ref (γ 9 16), .ref (γ 9 17), .ref (γ 9 18), .ref (γ 9 19), .ref (γ 9 20), .ref (γ 9 21), .ref (γ 9 22), .int p277527, .int p277528, .int p277529, .int p277530, .int p277531, .ref q277519, .ref (γ 9 29), .int p277532, .ref (γ 9 31), .int p277533, .int p277534, .int p277535, .ref q277520]) := (n335858 q277512 (rn_oa he327514 he335854)).trans he327514
        have he335861 : F335856 (γ 9 3) = .inl (I .boolean, 2000, .inl f335859) := e335857
        have hs335862 : rStr γ [] F277511 F335856 := rStr_put hs327508 n335858 ht277541 (by decide)
        have kp335863 : F335856 q277512 = F277511 q277512 := (n335858 q277512 (rn_ty htq277512 ht277541 (by decide))).trans x327510
        have bf335859 : gF f335859 0 1 := gF_upd hf335859 bf335855 (gB_w (gBl (show Int32.toInt 0 = 0 by decide)) (by decide) (by decide))
        refine G_iconst 0 dr_cX17_graph_22 (by decide +kernel) ?_
        refine G_istore (L' := [(4, .int 0), (3, .int g327505), (0, .ref q277512), (1, .ref q277513), (2, .int p277514)]) dr_cX17_graph_23 (Nat.le_of_ble_eq_true rfl) rfl ?_
        have hT335864 : RS D I P277510 F335856 γ el := RS_set hT327507 n335858 ht277541 (by decide) ⟨f335859, he335861, bf335859⟩
        have hlp25_335904 : ∀ (n25_335904 : Nat) (F335900 : Nat → va_E) (g335899 : Int32), gB g335899 0 32 → RS D I P277510 F335900 γ el → rStr γ [] F277511 F335900 → (∀ n : Nat, (n : Int) < g327505.toInt + 1 → ¬ rSd (cB (F335900 (γ 9 3))) n) → (F335900 q277512 = F277511 q277512) → (∀ (k : Nat) (e1 : Nat → va_E), tl_RModel_graph_25 D I γ el P277510 F277511 g327505 q277512 F335900 g335899 k e1 → tl_RModel_graph_25 D I γ el P277510 F277511 g327505 q277512 F335856 (0 : Int32) k e1) → ((33 : Int) - g335899.toInt).toNat < n25_335904 → G (gV D I) l (gRm 5 111 0 0) (gMA (gV D I) (pt_277516_SpillForgeModel_graph D I γ el P277510 F277511 q277512 q277513 p277514) gNA 0 0) ky_277516_SpillForgeModel_graph 25 [(4, .int g335899), (3, .int g327505), (0, .ref q277512), (1, .ref q277513), (2, .int p277514)] [] (va_pl P277510 F335900) 0 0 := by
          intro n25_335904
          induction n25_335904 with
          | zero => intro F335900 g335899 bg335899 hT335901 hs335902 x335903 x335904 kt25_335905 hm25_335904; exact absurd hm25_335904 (Nat.not_lt_zero _)
          | succ n25_335904 ih25_335904 =>
            intro F335900 g335899 bg335899 hT335901 hs335902 x335903 x335904 kt25_335905 hm25_335904
            have hs335906 : rStr γ [] F335856 F335900 := fun b h0 hb hw => (hs335902 b h0 hb hw).trans (hs335862 b h0 hb hw).symm
            have hs335907 : rStr γ [] F277511 F335900 := rStr_tr hs335862 hs335906
            have he335908 : F335900 q277512 = .inr (22, [.ref (γ 9 0), .ref (γ 9 1), .ref (γ 9 2), .ref (γ 9 3), .ref (γ 9 4), .ref (γ 9 5), .ref (γ 9 6), .ref (γ 9 7), .ref (γ 9 8), .int p277521, .int p277522, .int p277523, .int p277524, .int p277525, .int p277526, .ref (γ 9 15), .ref (γ 9 16), .ref (γ 9 17), .ref (γ 9 18), .ref (γ 9 19), .ref (γ 9 20), .ref (γ 9 21), .ref (γ 9 22), .int p277527, .int p277528, .int p277529, .int p277530, .int p277531, .ref q277519, .ref (γ 9 29), .int p277532, .ref (γ 9 31), .int p277533, .int p277534, .int p277535, .ref q277520]) := x335904.trans he277518
            have hm335909 : q277512 ∈ P277510 := RS_m hT335901 htq277512 (by decide)
            refine G_iload 0 dr_cX17_graph_25 rfl ?_
            refine G_bipush 32 dr_cX17_graph_27 (by decide +kernel) ?_
            refine G_icmp_ge 48 dr_cX17_graph_29 (by decide +kernel) (fun hc335910 => ?_) (fun hc335910 => ?_)
            · have r335911 : 32 ≤ g335899.toInt := gj_leL hc335910 (show Int32.toInt 32 = 32 by decide)
              have bg335899' : gB g335899 32 32 := ⟨by omega, by omega⟩
              have hx335912 : tl_RModel_graph_25 D I γ el P277510 F277511 g327505 q277512 F335856 (0 : Int32) 48 F335900 := kt25_335905 48 F335900 (fun R c1 c2 => c1 F335900 g335899 bg335899 hT335901 hs335902 x335903 x335904 r335911)
              obtain ⟨z335913, hz335913⟩ : ∃ z : Int32, z = g327505 + Int32.ofInt 1 := ⟨_, rfl⟩
              have ez335913 : z335913.toInt = g327505.toInt + 1 := gI_inc hz335913 (by decide) bg327505' (by decide) (by decide)
              have bz335913 : gB z335913 1 2000 := ⟨by omega, by omega⟩
              refine G_iinc (L' := [(3, .int z335913), (4, .int g335899), (0, .ref q277512), (1, .ref q277513), (2, .int p277514)]) z335913 1 dr_cX17_graph_48 rfl hz335913.symm (Nat.le_of_ble_eq_true rfl) rfl ?_
              refine G_goto 8 dr_cX17_graph_51 (by decide +kernel) ?_
              refine G_lv (L' := [(3, .int z335913), (0, .ref q277512), (1, .ref q277513), (2, .int p277514)]) [0, 2, 3, 4] rfl ?_
              exact ih8_327510 F335900 z335913 (gB_w bz335913 (by decide) (by decide)) hT335901 hs335902 (by rw [ez335913]; exact x335903) x335904 (fun k e1 ht => kt8_327511 k e1 (fun R c1 c2 => c2 F327506 g327505 f335855 f335859 F335856 F335900 z335913 k e1 bg327505 hT327507 hs327508 x327509 x327510 r335851 fq335852 he335854 hf335859 n335858 he335861 hx335912 ez335913 (ht R c1 c2))) (mz_up ez335913 (Int.le_trans bg327505'.2 (by decide)) hm8_327510)
            · have r335914 : g335899.toInt < 32 := gj_nleL hc335910 (show Int32.toInt 32 = 32 by decide)
              have bg335899' : gB g335899 0 31 := ⟨by omega, by omega⟩
              refine G_aload_n 2 dr_cX17_graph_32 rfl ?_
              have fq335915 : fR (F335900 q277512) 1 = (γ 9 1) := by rw [he335908]; rfl
              refine Gp_get 1 hm335909 he335908 dr_cX17_graph_33 (gk_X17 D I) (Nat.le_of_ble_eq_true rfl) wr_7_75 rfl ?_
              refine G_iload_n 1 dr_cX17_graph_36 rfl ?_
              have hm335916 : (γ 9 1) ∈ P277510 := RS_m hT335901 ht277539 (by decide)
              obtain ⟨f335918, he335917, hg335919⟩ := show rk_13 I γ (F335900 (γ 9 1)) from RS_o hT335901 ht277539
              obtain ⟨q335920, hx335922⟩ : ∃ x, x = γ 11 g327505.toInt.toNat := ⟨_, rfl⟩
              have ht335921 : rKd γ q335920 36 := by rw [hx335922]; exact (hg335919 _ (show g327505.toInt.toNat < 2000 by omega)).2.1
              refine Gp_aald 5 hm335916 he335917 dr_cX17_graph_37 rfl rfl (gB_in bg327505' (by decide) (by decide)) ?_
              rw [show f335918 g327505.toNatClampNeg = some q335920 from (hg335919 _ (show g327505.toInt.toNat < 2000 by omega)).1.trans (by rw [hx335922])]
              change G _ _ _ _ _ _ _ (.ref q335920 :: _) _ _ _
              refine G_iload 0 dr_cX17_graph_38 rfl ?_
              refine G_lconst 0 dr_cX17_graph_40 rfl ?_
              have hm335923 : q335920 ∈ P277510 := RS_m hT335901 ht335921 (by decide)
              obtain ⟨f335925, he335924, wf335925⟩ := show rk_36 I (F335900 q335920) from RS_o hT335901 ht335921
              refine Gp_last 2 hm335923 he335924 dr_cX17_graph_41 rfl (gB_in bg335899' (by decide) (by decide)) (fun F335926 e335927 n335928 => ?_)
              obtain ⟨f335929, hf335929⟩ : ∃ z, z = vp_updL f335925 g335899.toNatClampNeg 0 := ⟨_, rfl⟩
              rw [← hf335929] at e335927
              have he335930 : F335926 q277512 = .inr (22, [.ref (γ 9 0), .ref (γ 9 1), .ref (γ 9 2), .ref (γ 9 3), .ref (γ 9 4), .ref (γ 9 5), .ref (γ 9 6), .ref (γ 9 7), .ref (γ 9 8), .int p277521, .int p277522, .int p277523, .int p277524, .int p277525, .int p277526, .ref (γ 9 15), .ref (γ 9 16), .ref (γ 9 17), .ref (γ 9 18), .ref (γ 9 19), .ref (γ 9 20), .ref (γ 9 21), .ref (γ 9 22), .int p277527, .int p277528, .int p277529, .int p277530, .int p277531, .ref q277519, .ref (γ 9 29), .int p277532, .ref (γ 9 31), .int p277533, .int p277534, .int p277535, .ref q277520]) := (n335928 q277512 (rn_oa he335908 he335924)).trans he335908
              have he335931 : F335926 (γ 9 1) = .inl (I (.array .long), 2000, .inr (.inr (.inr (.inr f335918)))) := (n335928 (γ 9 1) (rn_ref_long he335917 he335924)).trans he335917
              have he335932 : F335926 q335920 = .inl (I .long, 32, .inr (.inl f335929)) := e335927
              have hs335933 : rStr γ [] F277511 F335926 := rStr_put hs335902 n335928 ht335921 (by decide)
              have kp335934 : F335926 q277512 = F277511 q277512 := (n335928 q277512 (rn_ty htq277512 ht335921 (by decide))).trans x335904
              have kp335935 : F335926 (γ 9 3) = F335900 (γ 9 3) := n335928 (γ 9 3) (rn_ty ht277541 ht335921 (by decide))
              have wf335929 : lb_W f335929 (32) (32) (2000) := lb_Wst hf335929 wf335925 (by omega) (lb_Mod0 (by omega) (by omega)) lb_Q0
              obtain ⟨z335936, hz335936⟩ : ∃ z : Int32, z = g335899 + Int32.ofInt 1 := ⟨_, rfl⟩
              have ez335936 : z335936.toInt = g335899.toInt + 1 := gI_inc hz335936 (by decide) bg335899' (by decide) (by decide)
              have bz335936 : gB z335936 1 32 := ⟨by omega, by omega⟩
              refine G_iinc (L' := [(4, .int z335936), (3, .int g327505), (0, .ref q277512), (1, .ref q277513), (2, .int p277514)]) z335936 0 dr_cX17_graph_42 rfl hz335936.symm (Nat.le_of_ble_eq_true rfl) rfl ?_
              refine G_goto 25 dr_cX17_graph_45 (by decide +kernel) ?_
              have hT335937 : RS D I P277510 F335926 γ el := RS_set hT335901 n335928 ht335921 (by decide) ⟨f335929, he335932, wf335929⟩
              exact ih25_335904 F335926 z335936 (gB_w bz335936 (by decide) (by decide)) hT335937 hs335933 (by rw [kp335935]; exact x335903) kp335934 (fun k e1 ht => kt25_335905 k e1 (fun R c1 c2 => c2 F335900 g335899 q335920 f335925 f335929 F335926 z335936 k e1 bg335899 hT335901 hs335902 x335903 x335904 r335914 fq335915 hx335922 he335924 hf335929 n335928 he335932 ez335936 (ht R c1 c2))) (mz_up ez335936 (Int.le_trans bg335899'.2 (by decide)) hm25_335904)
        exact hlp25_335904 (((33 : Int) - 0).toNat + 1) F335856 0 (gB_w (gBl (show Int32.toInt 0 = 0 by decide)) (by decide) (by decide)) hT335864 hs335862 (by rw [cB_of he335861]; exact sd_z hf335859 (by omega) (by have q := x327509; rw [cB_of he335854] at q; exact q)) kp335863 (fun k e1 ht => ht) (Nat.lt_succ_self _)
  exact hlp8_327510 (((2001 : Int) - 0).toNat + 1) F277571 0 (gB_w (gBl (show Int32.toInt 0 = 0 by decide)) (by decide) (by decide)) hT277572 hs277574 (fun n hn => absurd hn (by have qa : Int32.toInt 0 = 0 := (by decide); omega)) kp277575 (fun k e1 ht => ht) (Nat.lt_succ_self _)
/- tl_RModel_next_40: l3, l2; out: l2 -/
def tl_RModel_next_40 (D : va_G) (I : FieldType → ClassId) (γ el : Nat → Nat → Nat) (F : Nat → va_E) (q0 : Nat) (s1 : Int32) (s2 : Int32) (k : Nat) (e1 : Int32) : Prop := ∀ R : (Int32) → (Int32) → Nat → (Int32) → Prop,
  (∀ (l3_1 : Int32) (l2_1 : Int32), gB l3_1 0 2000 → gB l2_1 (-1) 1999 → ((gIp (l2_1.toInt < 0) (∀ m : Nat, (m : Int) < l3_1.toInt → ¬ rSd (cB (F (γ 9 18))) m))) → (gIp (0 ≤ l2_1.toInt) (rSd (cB (F (γ 9 18))) (l2_1.toInt : Int).toNat)) → 2000 ≤ l3_1.toInt → R l3_1 l2_1 171 l2_1) →
  (∀ (l3_1 : Int32) (l2_1 : Int32) (x1 : Nat → Int32) (x2 : Int32) (x3 : Nat → Int32) (x4 : Int32) (x5 : Int64) (x6 : Nat → Int32) (x7 : Int32) (x8 : Int64) (x9 : Int64) (x10 : Int32) (x11 : Int64) (x12 : Int32) (x13 : Int64) (x14 : Int64) (x15 : Int32) (x16 : Int32) (k : Nat) (e1 : Int32), gB l3_1 0 2000 → gB l2_1 (-1) 1999 → ((gIp (l2_1.toInt < 0) (∀ m : Nat, (m : Int) < l3_1.toInt → ¬ rSd (cB (F (γ 9 18))) m))) → (gIp (0 ≤ l2_1.toInt) (rSd (cB (F (γ 9 18))) (l2_1.toInt : Int).toNat)) → l3_1.toInt < 2000 → fR (F q0) 18 = (γ 9 18) → F (γ 9 18) = .inl (I .boolean, 2000, .inl x1) → x2 = x1 l3_1.toNatClampNeg → gB x2 0 1 → x2.toInt ≠ 0 → 0 ≤ l2_1.toInt → l3_1.toInt < 100 → l2_1.toInt < 100 → fR (F q0) 5 = (γ 9 5) → F (γ 9 5) = .inl (I .int, 2000, .inl x3) → x4 = x3 l3_1.toNatClampNeg → x5 = x4.toInt64 → fR (F q0) 16 = (γ 9 16) → F (γ 9 16) = .inl (I .int, 2000, .inl x6) → x7 = x6 l2_1.toNatClampNeg → x8 = x7.toInt64 → x9 = x5 * x8 → x10 = x3 l2_1.toNatClampNeg → x11 = x10.toInt64 → x12 = x6 l3_1.toNatClampNeg → x13 = x12.toInt64 → x14 = x11 * x13 → x15 = lg_cmp x9 x14 → 0 ≤ x15.toInt → x16.toInt = l3_1.toInt + 1 → R x16 l2_1 k e1 → R l3_1 l2_1 k e1) →
  (∀ (l3_1 : Int32) (l2_1 : Int32) (x1 : Nat → Int32) (x2 : Int32) (x3 : Nat → Int32) (x4 : Int32) (x5 : Int64) (x6 : Nat → Int32) (x7 : Int32) (x8 : Int64) (x9 : Int64) (x10 : Int32) (x11 : Int64) (x12 : Int32) (x13 : Int64) (x14 : Int64) (x15 : Int32) (x16 : Int32) (k : Nat) (e1 : Int32), gB l3_1 0 2000 → gB l2_1 (-1) 1999 → ((gIp (l2_1.toInt < 0) (∀ m : Nat, (m : Int) < l3_1.toInt → ¬ rSd (cB (F (γ 9 18))) m))) → (gIp (0 ≤ l2_1.toInt) (rSd (cB (F (γ 9 18))) (l2_1.toInt : Int).toNat)) → l3_1.toInt < 2000 → fR (F q0) 18 = (γ 9 18) → F (γ 9 18) = .inl (I .boolean, 2000, .inl x1) → x2 = x1 l3_1.toNatClampNeg → gB x2 0 1 → x2.toInt ≠ 0 → 0 ≤ l2_1.toInt → l3_1.toInt < 100 → l2_1.toInt < 100 → fR (F q0) 5 = (γ 9 5) → F (γ 9 5) = .inl (I .int, 2000, .inl x3) → x4 = x3 l3_1.toNatClampNeg → x5 = x4.toInt64 → fR (F q0) 16 = (γ 9 16) → F (γ 9 16) = .inl (I .int, 2000, .inl x6) → x7 = x6 l2_1.toNatClampNeg → x8 = x7.toInt64 → x9 = x5 * x8 → x10 = x3 l2_1.toNatClampNeg → x11 = x10.toInt64 → x12 = x6 l3_1.toNatClampNeg → x13 = x12.toInt64 → x14 = x11 * x13 → x15 = lg_cmp x9 x14 → x15.toInt < 0 → x16.toInt = l3_1.toInt + 1 → R x16 l3_1 k e1 → R l3_1 l2_1 k e1) →
  (∀ (l3_1 : Int32) (l2_1 : Int32) (x1 : Nat → Int32) (x2 : Int32) (x3 : Nat → Int32) (x4 : Int32) (x5 : Int64) (x6 : Nat → Int32) (x7 : Int32) (x8 : Int64) (x9 : Int64) (x10 : Int32) (x11 : Int64) (x12 : Int32) (x13 : Int64) (x14 : Int64) (x15 : Int32) (x16 : Int32) (k : Nat) (e1 : Int32), gB l3_1 0 2000 → gB l2_1 (-1) 1999 → ((gIp (l2_1.toInt < 0) (∀ m : Nat, (m : Int) < l3_1.toInt → ¬ rSd (cB (F (γ 9 18))) m))) → (gIp (0 ≤ l2_1.toInt) (rSd (cB (F (γ 9 18))) (l2_1.toInt : Int).toNat)) → l3_1.toInt < 2000 → fR (F q0) 18 = (γ 9 18) → F (γ 9 18) = .inl (I .boolean, 2000, .inl x1) → x2 = x1 l3_1.toNatClampNeg → gB x2 0 1 → x2.toInt ≠ 0 → 0 ≤ l2_1.toInt → l3_1.toInt < 100 → 100 ≤ l2_1.toInt → fR (F q0) 5 = (γ 9 5) → F (γ 9 5) = .inl (I .int, 2000, .inl x3) → x4 = x3 l3_1.toNatClampNeg → x5 = x4.toInt64 → fR (F q0) 16 = (γ 9 16) → F (γ 9 16) = .inl (I .int, 2000, .inl x6) → x7 = x6 l2_1.toNatClampNeg → x8 = x7.toInt64 → x9 = x5 * x8 → x10 = x3 l2_1.toNatClampNeg → x11 = x10.toInt64 → x12 = x6 l3_1.toNatClampNeg → x13 = x12.toInt64 → x14 = x11 * x13 → x15 = lg_cmp x9 x14 → 0 ≤ x15.toInt → x16.toInt = l3_1.toInt + 1 → R x16 l3_1 k e1 → R l3_1 l2_1 k e1) →
  (∀ (l3_1 : Int32) (l2_1 : Int32) (x1 : Nat → Int32) (x2 : Int32) (x3 : Nat → Int32) (x4 : Int32) (x5 : Int64) (x6 : Nat → Int32) (x7 : Int32) (x8 : Int64) (x9 : Int64) (x10 : Int32) (x11 : Int64) (x12 : Int32) (x13 : Int64) (x14 : Int64) (x15 : Int32) (x16 : Int32) (k : Nat) (e1 : Int32), gB l3_1 0 2000 → gB l2_1 (-1) 1999 → ((gIp (l2_1.toInt < 0) (∀ m : Nat, (m : Int) < l3_1.toInt → ¬ rSd (cB (F (γ 9 18))) m))) → (gIp (0 ≤ l2_1.toInt) (rSd (cB (F (γ 9 18))) (l2_1.toInt : Int).toNat)) → l3_1.toInt < 2000 → fR (F q0) 18 = (γ 9 18) → F (γ 9 18) = .inl (I .boolean, 2000, .inl x1) → x2 = x1 l3_1.toNatClampNeg → gB x2 0 1 → x2.toInt ≠ 0 → 0 ≤ l2_1.toInt → l3_1.toInt < 100 → 100 ≤ l2_1.toInt → fR (F q0) 5 = (γ 9 5) → F (γ 9 5) = .inl (I .int, 2000, .inl x3) → x4 = x3 l3_1.toNatClampNeg → x5 = x4.toInt64 → fR (F q0) 16 = (γ 9 16) → F (γ 9 16) = .inl (I .int, 2000, .inl x6) → x7 = x6 l2_1.toNatClampNeg → x8 = x7.toInt64 → x9 = x5 * x8 → x10 = x3 l2_1.toNatClampNeg → x11 = x10.toInt64 → x12 = x6 l3_1.toNatClampNeg → x13 = x12.toInt64 → x14 = x11 * x13 → x15 = lg_cmp x9 x14 → x15.toInt < 0 → x16.toInt = l3_1.toInt + 1 → R x16 l3_1 k e1 → R l3_1 l2_1 k e1) →
  (∀ (l3_1 : Int32) (l2_1 : Int32) (x1 : Nat → Int32) (x2 : Int32) (x3 : Int32) (k : Nat) (e1 : Int32), gB l3_1 0 2000 → gB l2_1 (-1) 1999 → ((gIp (l2_1.toInt < 0) (∀ m : Nat, (m : Int) < l3_1.toInt → ¬ rSd (cB (F (γ 9 18))) m))) → (gIp (0 ≤ l2_1.toInt) (rSd (cB (F (γ 9 18))) (l2_1.toInt : Int).toNat)) → l3_1.toInt < 2000 → fR (F q0) 18 = (γ 9 18) → F (γ 9 18) = .inl (I .boolean, 2000, .inl x1) → x2 = x1 l3_1.toNatClampNeg → gB x2 0 1 → x2.toInt ≠ 0 → 0 ≤ l2_1.toInt → 100 ≤ l3_1.toInt → l2_1.toInt < 100 → x3.toInt = l3_1.toInt + 1 → R x3 l2_1 k e1 → R l3_1 l2_1 k e1) →
  (∀ (l3_1 : Int32) (l2_1 : Int32) (x1 : Nat → Int32) (x2 : Int32) (x3 : Nat → Int32) (x4 : Int32) (x5 : Int64) (x6 : Nat → Int32) (x7 : Int32) (x8 : Int64) (x9 : Int64) (x10 : Int32) (x11 : Int64) (x12 : Int32) (x13 : Int64) (x14 : Int64) (x15 : Int32) (x16 : Int32) (k : Nat) (e1 : Int32), gB l3_1 0 2000 → gB l2_1 (-1) 1999 → ((gIp (l2_1.toInt < 0) (∀ m : Nat, (m : Int) < l3_1.toInt → ¬ rSd (cB (F (γ 9 18))) m))) → (gIp (0 ≤ l2_1.toInt) (rSd (cB (F (γ 9 18))) (l2_1.toInt : Int).toNat)) → l3_1.toInt < 2000 → fR (F q0) 18 = (γ 9 18) → F (γ 9 18) = .inl (I .boolean, 2000, .inl x1) → x2 = x1 l3_1.toNatClampNeg → gB x2 0 1 → x2.toInt ≠ 0 → 0 ≤ l2_1.toInt → 100 ≤ l3_1.toInt → 100 ≤ l2_1.toInt → fR (F q0) 5 = (γ 9 5) → F (γ 9 5) = .inl (I .int, 2000, .inl x3) → x4 = x3 l3_1.toNatClampNeg → x5 = x4.toInt64 → fR (F q0) 16 = (γ 9 16) → F (γ 9 16) = .inl (I .int, 2000, .inl x6) → x7 = x6 l2_1.toNatClampNeg → x8 = x7.toInt64 → x9 = x5 * x8 → x10 = x3 l2_1.toNatClampNeg → x11 = x10.toInt64 → x12 = x6 l3_1.toNatClampNeg → x13 = x12.toInt64 → x14 = x11 * x13 → x15 = lg_cmp x9 x14 → 0 ≤ x15.toInt → x16.toInt = l3_1.toInt + 1 → R x16 l2_1 k e1 → R l3_1 l2_1 k e1) →
  (∀ (l3_1 : Int32) (l2_1 : Int32) (x1 : Nat → Int32) (x2 : Int32) (x3 : Nat → Int32) (x4 : Int32) (x5 : Int64) (x6 : Nat → Int32) (x7 : Int32) (x8 : Int64) (x9 : Int64) (x10 : Int32) (x11 : Int64) (x12 : Int32) (x13 : Int64) (x14 : Int64) (x15 : Int32) (x16 : Int32) (k : Nat) (e1 : Int32), gB l3_1 0 2000 → gB l2_1 (-1) 1999 → ((gIp (l2_1.toInt < 0) (∀ m : Nat, (m : Int) < l3_1.toInt → ¬ rSd (cB (F (γ 9 18))) m))) → (gIp (0 ≤ l2_1.toInt) (rSd (cB (F (γ 9 18))) (l2_1.toInt : Int).toNat)) → l3_1.toInt < 2000 → fR (F q0) 18 = (γ 9 18) → F (γ 9 18) = .inl (I .boolean, 2000, .inl x1) → x2 = x1 l3_1.toNatClampNeg → gB x2 0 1 → x2.toInt ≠ 0 → 0 ≤ l2_1.toInt → 100 ≤ l3_1.toInt → 100 ≤ l2_1.toInt → fR (F q0) 5 = (γ 9 5) → F (γ 9 5) = .inl (I .int, 2000, .inl x3) → x4 = x3 l3_1.toNatClampNeg → x5 = x4.toInt64 → fR (F q0) 16 = (γ 9 16) → F (γ 9 16) = .inl (I .int, 2000, .inl x6) → x7 = x6 l2_1.toNatClampNeg → x8 = x7.toInt64 → x9 = x5 * x8 → x10 = x3 l2_1.toNatClampNeg → x11 = x10.toInt64 → x12 = x6 l3_1.toNatClampNeg → x13 = x12.toInt64 → x14 = x11 * x13 → x15 = lg_cmp x9 x14 → x15.toInt < 0 → x16.toInt = l3_1.toInt + 1 → R x16 l3_1 k e1 → R l3_1 l2_1 k e1) →
  (∀ (l3_1 : Int32) (l2_1 : Int32) (x1 : Nat → Int32) (x2 : Int32) (x3 : Int32) (k : Nat) (e1 : Int32), gB l3_1 0 2000 → gB l2_1 (-1) 1999 → ((gIp (l2_1.toInt < 0) (∀ m : Nat, (m : Int) < l3_1.toInt → ¬ rSd (cB (F (γ 9 18))) m))) → (gIp (0 ≤ l2_1.toInt) (rSd (cB (F (γ 9 18))) (l2_1.toInt : Int).toNat)) → l3_1.toInt < 2000 → fR (F q0) 18 = (γ 9 18) → F (γ 9 18) = .inl (I .boolean, 2000, .inl x1) → x2 = x1 l3_1.toNatClampNeg → gB x2 0 1 → x2.toInt ≠ 0 → l2_1.toInt < 0 → x3.toInt = l3_1.toInt + 1 → R x3 l3_1 k e1 → R l3_1 l2_1 k e1) →
  (∀ (l3_1 : Int32) (l2_1 : Int32) (x1 : Nat → Int32) (x2 : Int32) (x3 : Int32) (k : Nat) (e1 : Int32), gB l3_1 0 2000 → gB l2_1 (-1) 1999 → ((gIp (l2_1.toInt < 0) (∀ m : Nat, (m : Int) < l3_1.toInt → ¬ rSd (cB (F (γ 9 18))) m))) → (gIp (0 ≤ l2_1.toInt) (rSd (cB (F (γ 9 18))) (l2_1.toInt : Int).toNat)) → l3_1.toInt < 2000 → fR (F q0) 18 = (γ 9 18) → F (γ 9 18) = .inl (I .boolean, 2000, .inl x1) → x2 = x1 l3_1.toNatClampNeg → gB x2 0 1 → x2.toInt = 0 → x3.toInt = l3_1.toInt + 1 → R x3 l2_1 k e1 → R l3_1 l2_1 k e1) →
  R s1 s2 k e1
/- tl_RModel_next_2: l2; out: l2 -/
def tl_RModel_next_2 (D : va_G) (I : FieldType → ClassId) (γ el : Nat → Nat → Nat) (F : Nat → va_E) (q0 : Nat) (a1 : Int32) (s1 : Int32) (k : Nat) (e1 : Int32) : Prop := ∀ R : (Int32) → Nat → (Int32) → Prop,
  (∀ (l2_1 : Int32), gB l2_1 0 2000 → 2000 ≤ l2_1.toInt → R l2_1 36 (0 : Int32)) →
  (∀ (l2_1 : Int32) (x1 : Nat → Int32) (x2 : Int32) (x3 : Int32) (k : Nat) (e1 : Int32), gB l2_1 0 2000 → l2_1.toInt < 2000 → fR (F q0) 18 = (γ 9 18) → F (γ 9 18) = .inl (I .boolean, 2000, .inl x1) → x2 = x1 l2_1.toNatClampNeg → gB x2 0 1 → x2.toInt = 0 → x3.toInt = l2_1.toInt + 1 → R x3 k e1 → R l2_1 k e1) →
  (∀ (l2_1 : Int32) (x1 : Nat → Int32) (x2 : Int32) (x3 : Nat → Int32) (x4 : Int32) (x5 : Int32) (k : Nat) (e1 : Int32), gB l2_1 0 2000 → l2_1.toInt < 2000 → fR (F q0) 18 = (γ 9 18) → F (γ 9 18) = .inl (I .boolean, 2000, .inl x1) → x2 = x1 l2_1.toNatClampNeg → gB x2 0 1 → x2.toInt ≠ 0 → fR (F q0) 16 = (γ 9 16) → F (γ 9 16) = .inl (I .int, 2000, .inl x3) → x4 = x3 l2_1.toNatClampNeg → a1.toInt ≤ x4.toInt → x5.toInt = l2_1.toInt + 1 → R x5 k e1 → R l2_1 k e1) →
  (∀ (l2_1 : Int32) (x1 : Nat → Int32) (x2 : Int32) (x3 : Nat → Int32) (x4 : Int32), gB l2_1 0 2000 → l2_1.toInt < 2000 → fR (F q0) 18 = (γ 9 18) → F (γ 9 18) = .inl (I .boolean, 2000, .inl x1) → x2 = x1 l2_1.toNatClampNeg → gB x2 0 1 → x2.toInt ≠ 0 → fR (F q0) 16 = (γ 9 16) → F (γ 9 16) = .inl (I .int, 2000, .inl x3) → x4 = x3 l2_1.toNatClampNeg → x4.toInt < a1.toInt → R l2_1 28 l2_1) →
  R s1 k e1
/- tr_RModel_next: result -/
def tr_RModel_next (D : va_G) (I : FieldType → ClassId) (γ el : Nat → Nat → Nat) (F : Nat → va_E) (q0 : Nat) (a1 : Int32) (o1 : Int32) : Prop := ∀ R : (Int32) → Prop,
  (∀ (x1 : Int32), tl_RModel_next_2 D I γ el F q0 a1 (0 : Int32) 36 (0 : Int32) → tl_RModel_next_40 D I γ el F q0 (0 : Int32) (-1 : Int32) 171 x1 → R x1) →
  (∀ (x1 : Int32), tl_RModel_next_2 D I γ el F q0 a1 (0 : Int32) 28 x1 → R x1) →
  R o1
