theorem dr_cX17_graph_0 : decode cX17_graph 0 = .ok (.aload_n 0, 1) := by decide +kernel
theorem dr_cX17_graph_1 : decode cX17_graph 1 = .ok (.aload_n 1, 1) := by decide +kernel
theorem dr_cX17_graph_2 : decode cX17_graph 2 = .ok (.iload_n 2, 1) := by decide +kernel
theorem dr_cX17_graph_3 : decode cX17_graph 3 = .ok (.invokevirtual 127, 3) := by decide +kernel
theorem wr_10_156 : (Jvm.Cond.methodLink "SpillForgeModel" (127 : Nat) ({ cls := "SpillForgeModel", name := "findLive", desc := "(LSpillForgeModel$Code;Z)V" } : Jvm.MethodName)) ∈ gw := gw_10 156 rfl rfl
theorem wr_10_159 : (Jvm.Cond.code ({ cls := "SpillForgeModel", name := "findLive", desc := "(LSpillForgeModel$Code;Z)V" } : Jvm.MethodName) prog_14_method_9_code (7 : Nat) (Option.none : Option Jvm.ClassFile.FieldType)) ∈ gw := gw_10 159 rfl rfl
theorem wr_10_158 : (Jvm.Cond.instanceMethod ({ cls := "SpillForgeModel", name := "findLive", desc := "(LSpillForgeModel$Code;Z)V" } : Jvm.MethodName)) ∈ gw := gw_10 158 rfl rfl
theorem wr_p_94 : Cond.selects "SpillForgeModel" ⟨"SpillForgeModel", "findLive", "(LSpillForgeModel$Code;Z)V"⟩ ⟨"SpillForgeModel", "findLive", "(LSpillForgeModel$Code;Z)V"⟩ ∈ gw := gw_p _ 94 rfl rfl rfl
theorem dr_cX17_graph_6 : decode cX17_graph 6 = .ok (.iconst 0, 1) := by decide +kernel
theorem dr_cX17_graph_7 : decode cX17_graph 7 = .ok (.istore_n 3, 1) := by decide +kernel
theorem dr_cX17_graph_8 : decode cX17_graph 8 = .ok (.iload_n 3, 1) := by decide +kernel
theorem dr_cX17_graph_9 : decode cX17_graph 9 = .ok (.sipush 2000, 3) := by decide +kernel
theorem dr_cX17_graph_12 : decode cX17_graph 12 = .ok (.if_icmp .ge 42, 3) := by decide +kernel
theorem dr_cX17_graph_54 : decode cX17_graph 54 = .ok (.iconst 0, 1) := by decide +kernel
theorem dr_cX17_graph_55 : decode cX17_graph 55 = .ok (.istore_n 3, 1) := by decide +kernel
theorem dr_cX17_graph_56 : decode cX17_graph 56 = .ok (.iload_n 3, 1) := by decide +kernel
theorem dr_cX17_graph_57 : decode cX17_graph 57 = .ok (.aload_n 1, 1) := by decide +kernel
theorem dr_cX17_graph_58 : decode cX17_graph 58 = .ok (.invokevirtual 96, 3) := by decide +kernel
theorem dr_cX17_graph_61 : decode cX17_graph 61 = .ok (.if_icmp .ge 235, 3) := by decide +kernel
theorem dr_cX17_graph_296 : decode cX17_graph 296 = .ok (.iconst 0, 1) := by decide +kernel
theorem dr_cX17_graph_297 : decode cX17_graph 297 = .ok (.istore_n 3, 1) := by decide +kernel
theorem dr_cX17_graph_298 : decode cX17_graph 298 = .ok (.iload_n 3, 1) := by decide +kernel
theorem dr_cX17_graph_299 : decode cX17_graph 299 = .ok (.sipush 2000, 3) := by decide +kernel
theorem dr_cX17_graph_302 : decode cX17_graph 302 = .ok (.if_icmp .ge 87, 3) := by decide +kernel
theorem dr_cX17_graph_389 : decode cX17_graph 389 = .ok (.return_, 1) := by decide +kernel
theorem dr_cX17_graph_305 : decode cX17_graph 305 = .ok (.aload_n 0, 1) := by decide +kernel
theorem dr_cX17_graph_306 : decode cX17_graph 306 = .ok (.getfield 131, 3) := by decide +kernel
theorem dr_cX17_graph_309 : decode cX17_graph 309 = .ok (.iload_n 3, 1) := by decide +kernel
theorem dr_cX17_graph_310 : decode cX17_graph 310 = .ok (.baload, 1) := by decide +kernel
theorem dr_cX17_graph_311 : decode cX17_graph 311 = .ok (.ifCond .ne 6, 3) := by decide +kernel
theorem dr_cX17_graph_317 : decode cX17_graph 317 = .ok (.iconst 0, 1) := by decide +kernel
theorem dr_cX17_graph_318 : decode cX17_graph 318 = .ok (.istore 4, 2) := by decide +kernel
theorem dr_cX17_graph_320 : decode cX17_graph 320 = .ok (.iload 4, 2) := by decide +kernel
theorem dr_cX17_graph_322 : decode cX17_graph 322 = .ok (.bipush 32, 2) := by decide +kernel
theorem dr_cX17_graph_324 : decode cX17_graph 324 = .ok (.if_icmp .ge 59, 3) := by decide +kernel
theorem dr_cX17_graph_383 : decode cX17_graph 383 = .ok (.iinc 3 1, 3) := by decide +kernel
theorem dr_cX17_graph_386 : decode cX17_graph 386 = .ok (.goto (-88), 3) := by decide +kernel
theorem dr_cX17_graph_327 : decode cX17_graph 327 = .ok (.aload_n 0, 1) := by decide +kernel
theorem dr_cX17_graph_328 : decode cX17_graph 328 = .ok (.getfield 135, 3) := by decide +kernel
theorem dr_cX17_graph_331 : decode cX17_graph 331 = .ok (.iload_n 3, 1) := by decide +kernel
theorem dr_cX17_graph_332 : decode cX17_graph 332 = .ok (.aaload, 1) := by decide +kernel
theorem dr_cX17_graph_333 : decode cX17_graph 333 = .ok (.iload 4, 2) := by decide +kernel
theorem dr_cX17_graph_335 : decode cX17_graph 335 = .ok (.laload, 1) := by decide +kernel
theorem dr_cX17_graph_336 : decode cX17_graph 336 = .ok (.lstore 5, 2) := by decide +kernel
theorem dr_cX17_graph_338 : decode cX17_graph 338 = .ok (.lload 5, 2) := by decide +kernel
theorem dr_cX17_graph_340 : decode cX17_graph 340 = .ok (.lconst 0, 1) := by decide +kernel
theorem dr_cX17_graph_341 : decode cX17_graph 341 = .ok (.lcmp, 1) := by decide +kernel
theorem dr_cX17_graph_342 : decode cX17_graph 342 = .ok (.ifCond .eq 35, 3) := by decide +kernel
theorem dr_cX17_graph_377 : decode cX17_graph 377 = .ok (.iinc 4 1, 3) := by decide +kernel
theorem dr_cX17_graph_380 : decode cX17_graph 380 = .ok (.goto (-60), 3) := by decide +kernel
theorem dr_cX17_graph_345 : decode cX17_graph 345 = .ok (.aload_n 0, 1) := by decide +kernel
theorem dr_cX17_graph_346 : decode cX17_graph 346 = .ok (.getfield 135, 3) := by decide +kernel
theorem dr_cX17_graph_349 : decode cX17_graph 349 = .ok (.bipush 64, 2) := by decide +kernel
theorem dr_cX17_graph_351 : decode cX17_graph 351 = .ok (.iload 4, 2) := by decide +kernel
theorem dr_cX17_graph_353 : decode cX17_graph 353 = .ok (.imul, 1) := by decide +kernel
theorem dr_cX17_graph_354 : decode cX17_graph 354 = .ok (.lload 5, 2) := by decide +kernel
theorem dr_cX17_graph_356 : decode cX17_graph 356 = .ok (.invokestatic 149, 3) := by decide +kernel
theorem wr_11_1 : (Jvm.Cond.methodLink "SpillForgeModel" (149 : Nat) ({ cls := "java/lang/Long", name := "numberOfTrailingZeros", desc := "(J)I" } : Jvm.MethodName)) ∈ gw := gw_11 1 rfl rfl
theorem wr_11_3 : (Jvm.Cond.code ({ cls := "java/lang/Long", name := "numberOfTrailingZeros", desc := "(J)I" } : Jvm.MethodName) prog_31_method_49_code (3 : Nat) (Option.some Jvm.ClassFile.FieldType.int)) ∈ gw := gw_11 3 rfl rfl
theorem wr_11_2 : (Jvm.Cond.static ({ cls := "java/lang/Long", name := "numberOfTrailingZeros", desc := "(J)I" } : Jvm.MethodName)) ∈ gw := gw_11 2 rfl rfl
theorem dr_cX17_graph_359 : decode cX17_graph 359 = .ok (.iadd, 1) := by decide +kernel
theorem dr_cX17_graph_360 : decode cX17_graph 360 = .ok (.aaload, 1) := by decide +kernel
theorem dr_cX17_graph_361 : decode cX17_graph 361 = .ok (.iload_n 3, 1) := by decide +kernel
theorem dr_cX17_graph_362 : decode cX17_graph 362 = .ok (.invokestatic 67, 3) := by decide +kernel
theorem dr_cX17_graph_365 : decode cX17_graph 365 = .ok (.lload 5, 2) := by decide +kernel
theorem dr_cX17_graph_367 : decode cX17_graph 367 = .ok (.lload 5, 2) := by decide +kernel
theorem dr_cX17_graph_369 : decode cX17_graph 369 = .ok (.lconst 1, 1) := by decide +kernel
theorem dr_cX17_graph_370 : decode cX17_graph 370 = .ok (.lsub, 1) := by decide +kernel
theorem dr_cX17_graph_371 : decode cX17_graph 371 = .ok (.land, 1) := by decide +kernel
theorem dr_cX17_graph_372 : decode cX17_graph 372 = .ok (.lstore 5, 2) := by decide +kernel
theorem dr_cX17_graph_374 : decode cX17_graph 374 = .ok (.goto (-36), 3) := by decide +kernel
theorem dr_cX17_graph_314 : decode cX17_graph 314 = .ok (.goto 69, 3) := by decide +kernel
theorem dr_cX17_graph_64 : decode cX17_graph 64 = .ok (.aload_n 1, 1) := by decide +kernel
theorem dr_cX17_graph_65 : decode cX17_graph 65 = .ok (.iload_n 3, 1) := by decide +kernel
theorem dr_cX17_graph_66 : decode cX17_graph 66 = .ok (.invokevirtual 101, 3) := by decide +kernel
theorem dr_cX17_graph_69 : decode cX17_graph 69 = .ok (.astore 4, 2) := by decide +kernel
theorem dr_cX17_graph_71 : decode cX17_graph 71 = .ok (.aload_n 0, 1) := by decide +kernel
theorem dr_cX17_graph_72 : decode cX17_graph 72 = .ok (.aload 4, 2) := by decide +kernel
theorem dr_cX17_graph_74 : decode cX17_graph 74 = .ok (.invokevirtual 105, 3) := by decide +kernel
theorem dr_cX17_graph_77 : decode cX17_graph 77 = .ok (.aload_n 0, 1) := by decide +kernel
theorem dr_cX17_graph_78 : decode cX17_graph 78 = .ok (.aload 4, 2) := by decide +kernel
theorem dr_cX17_graph_80 : decode cX17_graph 80 = .ok (.getfield 109, 3) := by decide +kernel
theorem dr_cX17_graph_83 : decode cX17_graph 83 = .ok (.iload_n 2, 1) := by decide +kernel
theorem dr_cX17_graph_84 : decode cX17_graph 84 = .ok (.invokevirtual 138, 3) := by decide +kernel
theorem wr_10_237 : (Jvm.Cond.methodLink "SpillForgeModel" (138 : Nat) ({ cls := "SpillForgeModel", name := "stand", desc := "(LSpillForgeModel$Row;Z)V" } : Jvm.MethodName)) ∈ gw := gw_10 237 rfl rfl
theorem wr_11_0 : (Jvm.Cond.code ({ cls := "SpillForgeModel", name := "stand", desc := "(LSpillForgeModel$Row;Z)V" } : Jvm.MethodName) prog_14_method_11_code (4 : Nat) (Option.none : Option Jvm.ClassFile.FieldType)) ∈ gw := gw_11 0 rfl rfl
theorem wr_10_239 : (Jvm.Cond.instanceMethod ({ cls := "SpillForgeModel", name := "stand", desc := "(LSpillForgeModel$Row;Z)V" } : Jvm.MethodName)) ∈ gw := gw_10 239 rfl rfl
theorem wr_p_100 : Cond.selects "SpillForgeModel" ⟨"SpillForgeModel", "stand", "(LSpillForgeModel$Row;Z)V"⟩ ⟨"SpillForgeModel", "stand", "(LSpillForgeModel$Row;Z)V"⟩ ∈ gw := gw_p _ 100 rfl rfl rfl
theorem dr_cX17_graph_87 : decode cX17_graph 87 = .ok (.aload_n 0, 1) := by decide +kernel
theorem dr_cX17_graph_88 : decode cX17_graph 88 = .ok (.aload 4, 2) := by decide +kernel
theorem dr_cX17_graph_90 : decode cX17_graph 90 = .ok (.getfield 109, 3) := by decide +kernel
theorem dr_cX17_graph_93 : decode cX17_graph 93 = .ok (.iload_n 2, 1) := by decide +kernel
theorem dr_cX17_graph_94 : decode cX17_graph 94 = .ok (.invokevirtual 113, 3) := by decide +kernel
theorem dr_cX17_graph_97 : decode cX17_graph 97 = .ok (.aload 4, 2) := by decide +kernel
theorem dr_cX17_graph_99 : decode cX17_graph 99 = .ok (.getfield 117, 3) := by decide +kernel
theorem dr_cX17_graph_102 : decode cX17_graph 102 = .ok (.invokevirtual 121, 3) := by decide +kernel
theorem dr_cX17_graph_105 : decode cX17_graph 105 = .ok (.iconst 1, 1) := by decide +kernel
theorem dr_cX17_graph_106 : decode cX17_graph 106 = .ok (.isub, 1) := by decide +kernel
theorem dr_cX17_graph_107 : decode cX17_graph 107 = .ok (.istore 5, 2) := by decide +kernel
theorem dr_cX17_graph_109 : decode cX17_graph 109 = .ok (.iload 5, 2) := by decide +kernel
theorem dr_cX17_graph_111 : decode cX17_graph 111 = .ok (.ifCond .lt 179, 3) := by decide +kernel
theorem dr_cX17_graph_290 : decode cX17_graph 290 = .ok (.iinc 3 1, 3) := by decide +kernel
theorem dr_cX17_graph_293 : decode cX17_graph 293 = .ok (.goto (-237), 3) := by decide +kernel
theorem dr_cX17_graph_114 : decode cX17_graph 114 = .ok (.aload 4, 2) := by decide +kernel
theorem dr_cX17_graph_116 : decode cX17_graph 116 = .ok (.getfield 117, 3) := by decide +kernel
theorem dr_cX17_graph_119 : decode cX17_graph 119 = .ok (.iload 5, 2) := by decide +kernel
theorem dr_cX17_graph_121 : decode cX17_graph 121 = .ok (.invokevirtual 124, 3) := by decide +kernel
theorem dr_cX17_graph_124 : decode cX17_graph 124 = .ok (.checkcast 40, 3) := by decide +kernel
theorem dr_cX17_graph_127 : decode cX17_graph 127 = .ok (.astore 6, 2) := by decide +kernel
theorem dr_cX17_graph_129 : decode cX17_graph 129 = .ok (.aload_n 0, 1) := by decide +kernel
theorem dr_cX17_graph_130 : decode cX17_graph 130 = .ok (.aload 6, 2) := by decide +kernel
theorem dr_cX17_graph_132 : decode cX17_graph 132 = .ok (.iload_n 2, 1) := by decide +kernel
theorem dr_cX17_graph_133 : decode cX17_graph 133 = .ok (.invokevirtual 138, 3) := by decide +kernel
theorem dr_cX17_graph_136 : decode cX17_graph 136 = .ok (.aload 6, 2) := by decide +kernel
theorem dr_cX17_graph_138 : decode cX17_graph 138 = .ok (.iload_n 2, 1) := by decide +kernel
theorem dr_cX17_graph_139 : decode cX17_graph 139 = .ok (.invokestatic 55, 3) := by decide +kernel
theorem dr_cX17_graph_142 : decode cX17_graph 142 = .ok (.istore 7, 2) := by decide +kernel
theorem dr_cX17_graph_144 : decode cX17_graph 144 = .ok (.iload_n 2, 1) := by decide +kernel
theorem dr_cX17_graph_145 : decode cX17_graph 145 = .ok (.ifCond .ne 27, 3) := by decide +kernel
theorem dr_cX17_graph_172 : decode cX17_graph 172 = .ok (.iconst (-1), 1) := by decide +kernel
theorem dr_cX17_graph_173 : decode cX17_graph 173 = .ok (.istore 8, 2) := by decide +kernel
theorem dr_cX17_graph_175 : decode cX17_graph 175 = .ok (.iload 7, 2) := by decide +kernel
theorem dr_cX17_graph_177 : decode cX17_graph 177 = .ok (.ifCond .lt 100, 3) := by decide +kernel
theorem dr_cX17_graph_277 : decode cX17_graph 277 = .ok (.aload_n 0, 1) := by decide +kernel
theorem dr_cX17_graph_278 : decode cX17_graph 278 = .ok (.aload 6, 2) := by decide +kernel
theorem dr_cX17_graph_280 : decode cX17_graph 280 = .ok (.iload_n 2, 1) := by decide +kernel
theorem dr_cX17_graph_281 : decode cX17_graph 281 = .ok (.invokevirtual 113, 3) := by decide +kernel
theorem dr_cX17_graph_284 : decode cX17_graph 284 = .ok (.iinc 5 (-1), 3) := by decide +kernel
theorem dr_cX17_graph_287 : decode cX17_graph 287 = .ok (.goto (-178), 3) := by decide +kernel
theorem dr_cX17_graph_180 : decode cX17_graph 180 = .ok (.iload 8, 2) := by decide +kernel
theorem dr_cX17_graph_182 : decode cX17_graph 182 = .ok (.ifCond .lt 22, 3) := by decide +kernel
theorem dr_cX17_graph_204 : decode cX17_graph 204 = .ok (.iconst 0, 1) := by decide +kernel
theorem dr_cX17_graph_205 : decode cX17_graph 205 = .ok (.istore 9, 2) := by decide +kernel
theorem dr_cX17_graph_207 : decode cX17_graph 207 = .ok (.iconst 0, 1) := by decide +kernel
theorem dr_cX17_graph_208 : decode cX17_graph 208 = .ok (.istore 10, 2) := by decide +kernel
theorem dr_cX17_graph_210 : decode cX17_graph 210 = .ok (.iload 10, 2) := by decide +kernel
theorem dr_cX17_graph_212 : decode cX17_graph 212 = .ok (.bipush 32, 2) := by decide +kernel
theorem dr_cX17_graph_214 : decode cX17_graph 214 = .ok (.if_icmp .ge 29, 3) := by decide +kernel
theorem dr_cX17_graph_243 : decode cX17_graph 243 = .ok (.iload 8, 2) := by decide +kernel
theorem dr_cX17_graph_245 : decode cX17_graph 245 = .ok (.ifCond .lt 20, 3) := by decide +kernel
theorem dr_cX17_graph_265 : decode cX17_graph 265 = .ok (.aload_n 0, 1) := by decide +kernel
theorem dr_cX17_graph_266 : decode cX17_graph 266 = .ok (.getfield 135, 3) := by decide +kernel
theorem dr_cX17_graph_269 : decode cX17_graph 269 = .ok (.iload 7, 2) := by decide +kernel
theorem dr_cX17_graph_271 : decode cX17_graph 271 = .ok (.aaload, 1) := by decide +kernel
theorem dr_cX17_graph_272 : decode cX17_graph 272 = .ok (.iload 7, 2) := by decide +kernel
theorem dr_cX17_graph_274 : decode cX17_graph 274 = .ok (.invokestatic 63, 3) := by decide +kernel
theorem dr_cX17_graph_217 : decode cX17_graph 217 = .ok (.aload_n 0, 1) := by decide +kernel
theorem dr_cX17_graph_218 : decode cX17_graph 218 = .ok (.getfield 135, 3) := by decide +kernel
theorem dr_cX17_graph_221 : decode cX17_graph 221 = .ok (.iload 7, 2) := by decide +kernel
theorem dr_cX17_graph_223 : decode cX17_graph 223 = .ok (.aaload, 1) := by decide +kernel
theorem dr_cX17_graph_224 : decode cX17_graph 224 = .ok (.iload 10, 2) := by decide +kernel
theorem dr_cX17_graph_226 : decode cX17_graph 226 = .ok (.dup2, 1) := by decide +kernel
theorem dr_cX17_graph_227 : decode cX17_graph 227 = .ok (.laload, 1) := by decide +kernel
theorem dr_cX17_graph_228 : decode cX17_graph 228 = .ok (.aload_n 0, 1) := by decide +kernel
theorem dr_cX17_graph_229 : decode cX17_graph 229 = .ok (.getfield 59, 3) := by decide +kernel
theorem dr_cX17_graph_232 : decode cX17_graph 232 = .ok (.iload 10, 2) := by decide +kernel
theorem dr_cX17_graph_234 : decode cX17_graph 234 = .ok (.laload, 1) := by decide +kernel
theorem dr_cX17_graph_235 : decode cX17_graph 235 = .ok (.lor, 1) := by decide +kernel
theorem dr_cX17_graph_236 : decode cX17_graph 236 = .ok (.lastore, 1) := by decide +kernel
theorem dr_cX17_graph_237 : decode cX17_graph 237 = .ok (.iinc 10 1, 3) := by decide +kernel
theorem dr_cX17_graph_240 : decode cX17_graph 240 = .ok (.goto (-30), 3) := by decide +kernel
theorem dr_cX17_graph_148 : decode cX17_graph 148 = .ok (.aload 6, 2) := by decide +kernel
theorem dr_cX17_graph_150 : decode cX17_graph 150 = .ok (.getfield 39, 3) := by decide +kernel
theorem dr_cX17_graph_153 : decode cX17_graph 153 = .ok (.ifCond .ne 19, 3) := by decide +kernel
theorem dr_cX17_graph_156 : decode cX17_graph 156 = .ok (.aload 6, 2) := by decide +kernel
theorem dr_cX17_graph_158 : decode cX17_graph 158 = .ok (.getfield 141, 3) := by decide +kernel
theorem dr_cX17_graph_161 : decode cX17_graph 161 = .ok (.ifCond .eq 11, 3) := by decide +kernel
theorem dr_cX17_graph_164 : decode cX17_graph 164 = .ok (.aload 6, 2) := by decide +kernel
theorem dr_cX17_graph_166 : decode cX17_graph 166 = .ok (.getfield 73, 3) := by decide +kernel
theorem dr_cX17_graph_169 : decode cX17_graph 169 = .ok (.goto 4, 3) := by decide +kernel
theorem dr_cX17_graph_185 : decode cX17_graph 185 = .ok (.aload_n 0, 1) := by decide +kernel
theorem dr_cX17_graph_186 : decode cX17_graph 186 = .ok (.getfield 135, 3) := by decide +kernel
theorem dr_cX17_graph_189 : decode cX17_graph 189 = .ok (.iload 7, 2) := by decide +kernel
theorem dr_cX17_graph_191 : decode cX17_graph 191 = .ok (.aaload, 1) := by decide +kernel
theorem dr_cX17_graph_192 : decode cX17_graph 192 = .ok (.iload 8, 2) := by decide +kernel
theorem dr_cX17_graph_194 : decode cX17_graph 194 = .ok (.invokestatic 145, 3) := by decide +kernel
theorem dr_cX17_graph_197 : decode cX17_graph 197 = .ok (.ifCond .eq 7, 3) := by decide +kernel
theorem dr_cX17_graph_248 : decode cX17_graph 248 = .ok (.iload 9, 2) := by decide +kernel
theorem dr_cX17_graph_250 : decode cX17_graph 250 = .ok (.ifCond .ne 15, 3) := by decide +kernel
theorem dr_cX17_graph_253 : decode cX17_graph 253 = .ok (.aload_n 0, 1) := by decide +kernel
theorem dr_cX17_graph_254 : decode cX17_graph 254 = .ok (.getfield 135, 3) := by decide +kernel
theorem dr_cX17_graph_257 : decode cX17_graph 257 = .ok (.iload 7, 2) := by decide +kernel
theorem dr_cX17_graph_259 : decode cX17_graph 259 = .ok (.aaload, 1) := by decide +kernel
theorem dr_cX17_graph_260 : decode cX17_graph 260 = .ok (.iload 8, 2) := by decide +kernel
theorem dr_cX17_graph_262 : decode cX17_graph 262 = .ok (.invokestatic 63, 3) := by decide +kernel
theorem dr_cX17_graph_200 : decode cX17_graph 200 = .ok (.iconst 1, 1) := by decide +kernel
theorem dr_cX17_graph_201 : decode cX17_graph 201 = .ok (.goto 4, 3) := by decide +kernel
theorem dr_cX17_graph_15 : decode cX17_graph 15 = .ok (.aload_n 0, 1) := by decide +kernel
theorem dr_cX17_graph_16 : decode cX17_graph 16 = .ok (.getfield 131, 3) := by decide +kernel
theorem dr_cX17_graph_19 : decode cX17_graph 19 = .ok (.iload_n 3, 1) := by decide +kernel
theorem dr_cX17_graph_20 : decode cX17_graph 20 = .ok (.iconst 0, 1) := by decide +kernel
theorem dr_cX17_graph_21 : decode cX17_graph 21 = .ok (.bastore, 1) := by decide +kernel
theorem dr_cX17_graph_22 : decode cX17_graph 22 = .ok (.iconst 0, 1) := by decide +kernel
theorem dr_cX17_graph_23 : decode cX17_graph 23 = .ok (.istore 4, 2) := by decide +kernel
theorem dr_cX17_graph_25 : decode cX17_graph 25 = .ok (.iload 4, 2) := by decide +kernel
theorem dr_cX17_graph_27 : decode cX17_graph 27 = .ok (.bipush 32, 2) := by decide +kernel
theorem dr_cX17_graph_29 : decode cX17_graph 29 = .ok (.if_icmp .ge 19, 3) := by decide +kernel
theorem dr_cX17_graph_48 : decode cX17_graph 48 = .ok (.iinc 3 1, 3) := by decide +kernel
theorem dr_cX17_graph_51 : decode cX17_graph 51 = .ok (.goto (-43), 3) := by decide +kernel
theorem dr_cX17_graph_32 : decode cX17_graph 32 = .ok (.aload_n 0, 1) := by decide +kernel
theorem dr_cX17_graph_33 : decode cX17_graph 33 = .ok (.getfield 135, 3) := by decide +kernel
theorem dr_cX17_graph_36 : decode cX17_graph 36 = .ok (.iload_n 3, 1) := by decide +kernel
theorem dr_cX17_graph_37 : decode cX17_graph 37 = .ok (.aaload, 1) := by decide +kernel
theorem dr_cX17_graph_38 : decode cX17_graph 38 = .ok (.iload 4, 2) := by decide +kernel
theorem dr_cX17_graph_40 : decode cX17_graph 40 = .ok (.lconst 0, 1) := by decide +kernel
theorem dr_cX17_graph_41 : decode cX17_graph 41 = .ok (.lastore, 1) := by decide +kernel
theorem dr_cX17_graph_42 : decode cX17_graph 42 = .ok (.iinc 4 1, 3) := by decide +kernel
theorem dr_cX17_graph_45 : decode cX17_graph 45 = .ok (.goto (-20), 3) := by decide +kernel
abbrev ky_276998_SpillForgeModel_graph : gKey := (cX17_graph, 11, "SpillForgeModel", none, [], "graph", fun _ _ => True)
def pt_276998_SpillForgeModel_graph (D : va_G) (I : FieldType → ClassId) (γ el : Nat → Nat → Nat) (P276992 : List Nat) (F276993 : Nat → va_E) (q276994 : Nat) (q276995 : Nat) (p276996 : Int32) : Option Value → va_W → Nat → Nat → Prop := fun r w dc ds => ∃ (F335420 : Nat → va_E), r = none ∧ w = va_pl P276992 F335420 ∧ RS D I P276992 F335420 γ el ∧ rStr γ [] F276993 F335420 ∧ dc ≤ 0 ∧ ds ≤ 0 ∧ (gIp (p276996.toInt = 0) (rGr γ el F276993 q276995 (γ 6 (γ 1 q276995)) (cB (F335420 (γ 9 3))) (vA (γ 6 (γ 1 q276995))))) ∧ (F335420 q276994 = F276993 q276994) ∧ tr_RModel_graph D I γ el P276992 F276993 q276994 q276995 p276996 F335420
set_option maxRecDepth 100000 in
set_option maxHeartbeats 4000000 in
theorem ct_276998_SpillForgeModel_graph (l : Launch) (hl0 : l.stackTraces = false) (D : va_G) (I : FieldType → ClassId) (γ el : Nat → Nat → Nat) (P276992 : List Nat) (F276993 : Nat → va_E) (q276994 : Nat) (q276995 : Nat) (p276996 : Int32) (hT : RS D I P276992 F276993 γ el) (htq276994 : rKd γ q276994 10) (htq276995 : rKd γ q276995 9) (bp276996 : gB p276996 0 1) (x276997 : 0 < γ 6 (γ 1 q276995)) : CtA (gV D I) l yX17_graph cX17_graph 11 none 5 111 0 0 [.ref q276994, .ref q276995, .int p276996] (va_pl P276992 F276993) (pt_276998_SpillForgeModel_graph D I γ el P276992 F276993 q276994 q276995 p276996) gNA := by
  refine CtA_of hl0 (by decide) (Nat.le_of_ble_eq_true rfl) ?_
  have hm276999 : q276994 ∈ P276992 := RS_m hT htq276994 (by decide)
  refine rk10_e (show rk_10 γ (F276993 q276994) from RS_o hT htq276994) (fun q277001 q277002 p277003 p277004 p277005 p277006 p277007 p277008 p277009 p277010 p277011 p277012 p277013 p277014 p277015 p277016 p277017 he277000 hB277044 ht277018 ht277019 ht277020 ht277021 ht277022 ht277023 ht277024 ht277025 ht277026 ht277027 ht277028 ht277029 ht277030 ht277031 ht277032 ht277033 ht277034 ht277035 ht277036 ht277037 ht277038 ht277039 ht277040 ht277041 hB277045 => ?_)
  refine G_aload_n 0 dr_cX17_graph_0 rfl ?_
  refine G_aload_n 1 dr_cX17_graph_1 rfl ?_
  refine G_iload_n 2 dr_cX17_graph_2 rfl ?_
  refine Gw_callV (As := [.ref q276995, .int p276996]) (gV_ok D I) (ct_225394_SpillForgeModel_findLive l hl0 D I γ el P276992 F276993 q276994 q276995 p276996 hT htq276994 htq276995 bp276996 (by omega)) dr_cX17_graph_3 ⟨wr_10_156, wr_1_14, wr_10_159, by decide, rfl, (Nat.le_of_ble_eq_true rfl), (Nat.le_of_ble_eq_true rfl)⟩ wr_10_158 wr_p_94 hm276999 he277000 rfl (show 0 + 0 ≤ 0 by first | omega | decide) (show 0 + 0 ≤ 0 by first | omega | decide) (Nat.le_of_ble_eq_true rfl) (fun r277049 w277050 dc277046 ds277047 hp277048 => ?_) (fun _ _ _ _ _ z => z.elim)
  obtain ⟨F277053, rfl, rfl, hT277054, hs277055, hdc, hds, x277051, ht277052⟩ := hp277048
  have hs277056 : rStr γ [] F276993 F277053 := rStr_tr (rStr_rf (γ := γ) (W := []) (F := F276993)) hs277055
  have kp277057 : F277053 q276994 = F276993 q276994 := x277051
  have he277058 : F277053 q276994 = .inr (22, [.ref (γ 9 0), .ref (γ 9 1), .ref (γ 9 2), .ref (γ 9 3), .ref (γ 9 4), .ref (γ 9 5), .ref (γ 9 6), .ref (γ 9 7), .ref (γ 9 8), .int p277003, .int p277004, .int p277005, .int p277006, .int p277007, .int p277008, .ref (γ 9 15), .ref (γ 9 16), .ref (γ 9 17), .ref (γ 9 18), .ref (γ 9 19), .ref (γ 9 20), .ref (γ 9 21), .ref (γ 9 22), .int p277009, .int p277010, .int p277011, .int p277012, .int p277013, .ref q277001, .ref (γ 9 29), .int p277014, .ref (γ 9 31), .int p277015, .int p277016, .int p277017, .ref q277002]) := (x277051).trans he277000
  change G _ _ _ _ _ _ _ _ _ _ _
  refine G_widen (cs' := 0) (sl' := 0) (by omega) (by omega) ?_
  refine G_iconst 0 dr_cX17_graph_6 (by decide +kernel) ?_
  refine G_istore_n (L' := [(3, .int 0), (0, .ref q276994), (1, .ref q276995), (2, .int p276996)]) dr_cX17_graph_7 (Nat.le_of_ble_eq_true rfl) rfl ?_
  have hlp8_326992 : ∀ (n8_326992 : Nat) (F326988 : Nat → va_E) (g326987 : Int32), gB g326987 0 2000 → RS D I P276992 F326988 γ el → rStr γ [] F276993 F326988 → (∀ n : Nat, (n : Int) < g326987.toInt → ¬ rSd (cB (F326988 (γ 9 3))) n) → (F326988 q276994 = F276993 q276994) → (∀ (k : Nat) (e1 : Nat → va_E), tl_RModel_graph_8 D I γ el P276992 F276993 q276994 F326988 g326987 k e1 → tl_RModel_graph_8 D I γ el P276992 F276993 q276994 F277053 (0 : Int32) k e1) → ((2001 : Int) - g326987.toInt).toNat < n8_326992 → G (gV D I) l (gRm 5 111 0 0) (gMA (gV D I) (pt_276998_SpillForgeModel_graph D I γ el P276992 F276993 q276994 q276995 p276996) gNA 0 0) ky_276998_SpillForgeModel_graph 8 [(3, .int g326987), (0, .ref q276994), (1, .ref q276995), (2, .int p276996)] [] (va_pl P276992 F326988) 0 0 := by
    intro n8_326992
    induction n8_326992 with
    | zero => intro F326988 g326987 bg326987 hT326989 hs326990 x326991 x326992 kt8_326993 hm8_326992; exact absurd hm8_326992 (Nat.not_lt_zero _)
    | succ n8_326992 ih8_326992 =>
      intro F326988 g326987 bg326987 hT326989 hs326990 x326991 x326992 kt8_326993 hm8_326992
      have hs326994 : rStr γ [] F277053 F326988 := fun b h0 hb hw => (hs326990 b h0 hb hw).trans (hs277056 b h0 hb hw).symm
      have hs326995 : rStr γ [] F276993 F326988 := rStr_tr hs277056 hs326994
      have he326996 : F326988 q276994 = .inr (22, [.ref (γ 9 0), .ref (γ 9 1), .ref (γ 9 2), .ref (γ 9 3), .ref (γ 9 4), .ref (γ 9 5), .ref (γ 9 6), .ref (γ 9 7), .ref (γ 9 8), .int p277003, .int p277004, .int p277005, .int p277006, .int p277007, .int p277008, .ref (γ 9 15), .ref (γ 9 16), .ref (γ 9 17), .ref (γ 9 18), .ref (γ 9 19), .ref (γ 9 20), .ref (γ 9 21), .ref (γ 9 22), .int p277009, .int p277010, .int p277011, .int p277012, .int p277013, .ref q277001, .ref (γ 9 29), .int p277014, .ref (γ 9 31), .int p277015, .int p277016, .int p277017, .ref q277002]) := x326992.trans he277000
      have hm326997 : q276994 ∈ P276992 := RS_m hT326989 htq276994 (by decide)
      refine G_iload_n 0 dr_cX17_graph_8 rfl ?_
      refine G_sipush 2000 dr_cX17_graph_9 (by decide +kernel) ?_
      refine G_icmp_ge 54 dr_cX17_graph_12 (by decide +kernel) (fun hc326998 => ?_) (fun hc326998 => ?_)
      · have r326999 : 2000 ≤ g326987.toInt := gj_leL hc326998 (show Int32.toInt 2000 = 2000 by decide)
        have bg326987' : gB g326987 2000 2000 := ⟨by omega, by omega⟩
        have hx327000 : tl_RModel_graph_8 D I γ el P276992 F276993 q276994 F277053 (0 : Int32) 54 F326988 := kt8_326993 54 F326988 (fun R c1 c2 => c1 F326988 g326987 bg326987 hT326989 hs326990 x326991 x326992 r326999)
        refine G_iconst 0 dr_cX17_graph_54 (by decide +kernel) ?_
        refine G_istore_n (L' := [(3, .int 0), (0, .ref q276994), (1, .ref q276995), (2, .int p276996)]) dr_cX17_graph_55 (Nat.le_of_ble_eq_true rfl) rfl ?_
        have hlp56_331146 : ∀ (n56_331146 : Nat) (F331142 : Nat → va_E) (g331141 : Int32), gB g331141 0 1000000 → RS D I P276992 F331142 γ el → rStr γ [] F276993 F331142 → (gIp (p276996.toInt = 0) (rGr γ el F276993 q276995 (γ 6 (γ 1 q276995)) (cB (F331142 (γ 9 3))) (vA (g331141.toInt : Int).toNat))) → (F331142 q276994 = F276993 q276994) → (∀ (k : Nat) (e1 : Nat → va_E), tl_RModel_graph_56 D I γ el P276992 F276993 p276996 q276995 q276994 F331142 g331141 k e1 → tl_RModel_graph_56 D I γ el P276992 F276993 p276996 q276995 q276994 F326988 (0 : Int32) k e1) → ((1000001 : Int) - g331141.toInt).toNat < n56_331146 → G (gV D I) l (gRm 5 111 0 0) (gMA (gV D I) (pt_276998_SpillForgeModel_graph D I γ el P276992 F276993 q276994 q276995 p276996) gNA 0 0) ky_276998_SpillForgeModel_graph 56 [(3, .int g331141), (0, .ref q276994), (1, .ref q276995), (2, .int p276996)] [] (va_pl P276992 F331142) 0 0 := by
          intro n56_331146
          induction n56_331146 with
          | zero => intro F331142 g331141 bg331141 hT331143 hs331144 x331145 x331146 kt56_331147 hm56_331146; exact absurd hm56_331146 (Nat.not_lt_zero _)
          | succ n56_331146 ih56_331146 =>
            intro F331142 g331141 bg331141 hT331143 hs331144 x331145 x331146 kt56_331147 hm56_331146
            have hs331148 : rStr γ [] F326988 F331142 := fun b h0 hb hw => (hs331144 b h0 hb hw).trans (hs326990 b h0 hb hw).symm
            have hs331149 : rStr γ [] F276993 F331142 := rStr_tr hs326990 hs331148
            have he331150 : F331142 q276994 = .inr (22, [.ref (γ 9 0), .ref (γ 9 1), .ref (γ 9 2), .ref (γ 9 3), .ref (γ 9 4), .ref (γ 9 5), .ref (γ 9 6), .ref (γ 9 7), .ref (γ 9 8), .int p277003, .int p277004, .int p277005, .int p277006, .int p277007, .int p277008, .ref (γ 9 15), .ref (γ 9 16), .ref (γ 9 17), .ref (γ 9 18), .ref (γ 9 19), .ref (γ 9 20), .ref (γ 9 21), .ref (γ 9 22), .int p277009, .int p277010, .int p277011, .int p277012, .int p277013, .ref q277001, .ref (γ 9 29), .int p277014, .ref (γ 9 31), .int p277015, .int p277016, .int p277017, .ref q277002]) := x331146.trans he277000
            have hm331151 : q276994 ∈ P276992 := RS_m hT331143 htq276994 (by decide)
            refine G_iload_n 0 dr_cX17_graph_56 rfl ?_
            refine G_aload_n 2 dr_cX17_graph_57 rfl ?_
            have hm331152 : q276995 ∈ P276992 := RS_m hT331143 htq276995 (by decide)
            obtain ⟨q331154, q331155, p331156, p331157, he331153, ht331173, ht331158, ht331159, ht331160, ht331161, r331162, r331163, r331164, r331165, r331166, r331167, r331168, r331169, r331170, r331171, r331172⟩ := show rk_9 γ el q276995 (F331142 q276995) from RS_o hT331143 htq276995
            have bp331156 : gB p331156 0 1000000 := ⟨by omega, by omega⟩
            have bp331157 : gB p331157 0 1000000 := ⟨by omega, by omega⟩
            have fq331174 : fI (F331142 q276995) 3 = p331157 := by rw [he331153]; rfl
            refine Gw_callV (As := []) (gV_ok D I) (cp_12780_Code_size l hl0 D I P276992 F331142 q276995 q331154 q331155 p331156 p331157 hm331152 he331153) dr_cX17_graph_58 ⟨wr_10_160, wr_1_15, wr_9_131, by decide, rfl, (Nat.le_of_ble_eq_true rfl), (Nat.le_of_ble_eq_true rfl)⟩ wr_9_129 wr_9_130 hm331152 he331153 rfl (show 0 + 0 ≤ 0 by first | omega | decide) (show 0 + 0 ≤ 0 by first | omega | decide) (Nat.le_of_ble_eq_true rfl) (fun r331178 w331179 dc331175 ds331176 hp331177 => ?_) (fun _ _ _ _ _ z => z.elim)
            obtain ⟨rfl, rfl, hdc, hds⟩ := hp331177
            change G _ _ _ _ _ _ _ (.int p331157 :: _) _ _ _
            refine G_widen (cs' := 0) (sl' := 0) (by omega) (by omega) ?_
            refine G_icmp_ge 296 dr_cX17_graph_61 (by decide +kernel) (fun hc331180 => ?_) (fun hc331180 => ?_)
            · have r331181 : p331157.toInt ≤ g331141.toInt := gC_le hc331180
              have hx331182 : tl_RModel_graph_56 D I γ el P276992 F276993 p276996 q276995 q276994 F326988 (0 : Int32) 296 F331142 := kt56_331147 296 F331142 (fun R c1 c2 => c1 F331142 g331141 p331157 bg331141 hT331143 hs331144 x331145 x331146 fq331174 r331181)
              refine G_iconst 0 dr_cX17_graph_296 (by decide +kernel) ?_
              refine G_istore_n (L' := [(3, .int 0), (0, .ref q276994), (1, .ref q276995), (2, .int p276996)]) dr_cX17_graph_297 (Nat.le_of_ble_eq_true rfl) rfl ?_
              have hlp298_331491 : ∀ (n298_331491 : Nat) (F331487 : Nat → va_E) (g331486 : Int32), gB g331486 0 2000 → RS D I P276992 F331487 γ el → rStr γ [] F276993 F331487 → (gIp (p276996.toInt = 0) (rGr γ el F276993 q276995 (γ 6 (γ 1 q276995)) (cB (F331487 (γ 9 3))) (vA (γ 6 (γ 1 q276995))))) → (F331487 q276994 = F276993 q276994) → (∀ (k : Nat) (e1 : Nat → va_E), tl_RModel_graph_298 D I γ el P276992 F276993 p276996 q276995 q276994 F331487 g331486 k e1 → tl_RModel_graph_298 D I γ el P276992 F276993 p276996 q276995 q276994 F331142 (0 : Int32) k e1) → ((2001 : Int) - g331486.toInt).toNat < n298_331491 → G (gV D I) l (gRm 5 111 0 0) (gMA (gV D I) (pt_276998_SpillForgeModel_graph D I γ el P276992 F276993 q276994 q276995 p276996) gNA 0 0) ky_276998_SpillForgeModel_graph 298 [(3, .int g331486), (0, .ref q276994), (1, .ref q276995), (2, .int p276996)] [] (va_pl P276992 F331487) 0 0 := by
                intro n298_331491
                induction n298_331491 with
                | zero => intro F331487 g331486 bg331486 hT331488 hs331489 x331490 x331491 kt298_331492 hm298_331491; exact absurd hm298_331491 (Nat.not_lt_zero _)
                | succ n298_331491 ih298_331491 =>
                  intro F331487 g331486 bg331486 hT331488 hs331489 x331490 x331491 kt298_331492 hm298_331491
                  have hs331493 : rStr γ [] F331142 F331487 := fun b h0 hb hw => (hs331489 b h0 hb hw).trans (hs331144 b h0 hb hw).symm
                  have he331494 : F331487 q276995 = .inr (18, [.ref q331154, .ref q331155, .int p331156, .int p331157]) := (hs331493 q276995 (rT0 htq276995 (by decide)) (rT1 htq276995 (by decide)) (rT2 htq276995 (by decide))).trans he331153
                  have hs331495 : rStr γ [] F276993 F331487 := rStr_tr hs331144 hs331493
                  have he331496 : F331487 q276994 = .inr (22, [.ref (γ 9 0), .ref (γ 9 1), .ref (γ 9 2), .ref (γ 9 3), .ref (γ 9 4), .ref (γ 9 5), .ref (γ 9 6), .ref (γ 9 7), .ref (γ 9 8), .int p277003, .int p277004, .int p277005, .int p277006, .int p277007, .int p277008, .ref (γ 9 15), .ref (γ 9 16), .ref (γ 9 17), .ref (γ 9 18), .ref (γ 9 19), .ref (γ 9 20), .ref (γ 9 21), .ref (γ 9 22), .int p277009, .int p277010, .int p277011, .int p277012, .int p277013, .ref q277001, .ref (γ 9 29), .int p277014, .ref (γ 9 31), .int p277015, .int p277016, .int p277017, .ref q277002]) := x331491.trans he277000
                  have hm331497 : q276994 ∈ P276992 := RS_m hT331488 htq276994 (by decide)
                  refine G_iload_n 0 dr_cX17_graph_298 rfl ?_
                  refine G_sipush 2000 dr_cX17_graph_299 (by decide +kernel) ?_
                  refine G_icmp_ge 389 dr_cX17_graph_302 (by decide +kernel) (fun hc331498 => ?_) (fun hc331498 => ?_)
                  · have r331499 : 2000 ≤ g331486.toInt := gj_leL hc331498 (show Int32.toInt 2000 = 2000 by decide)
                    have bg331486' : gB g331486 2000 2000 := ⟨by omega, by omega⟩
                    have hx331500 : tl_RModel_graph_298 D I γ el P276992 F276993 p276996 q276995 q276994 F331142 (0 : Int32) 389 F331487 := kt298_331492 389 F331487 (fun R c1 c2 c3 => c1 F331487 g331486 bg331486 hT331488 hs331489 x331490 x331491 r331499)
                    exact G_vretA dr_cX17_graph_389 rfl (Nat.le_of_ble_eq_true rfl) (Nat.le_of_ble_eq_true rfl) ⟨F331487, rfl, rfl, hT331488, hs331489, (Nat.le_of_ble_eq_true rfl), (Nat.le_of_ble_eq_true rfl), x331490, x331491, (fun R c1 => c1 F277053 F326988 F331142 F331487 hT277054 hs277055 x277051 ht277052 hx327000 hx331182 hx331500)⟩
                  · have r331501 : g331486.toInt < 2000 := gj_nleL hc331498 (show Int32.toInt 2000 = 2000 by decide)
                    have bg331486' : gB g331486 0 1999 := ⟨by omega, by omega⟩
                    refine G_aload_n 1 dr_cX17_graph_305 rfl ?_
                    have fq331502 : fR (F331487 q276994) 3 = (γ 9 3) := by rw [he331496]; rfl
                    refine Gp_get 3 hm331497 he331496 dr_cX17_graph_306 (gk_X17 D I) (Nat.le_of_ble_eq_true rfl) wr_7_77 rfl ?_
                    refine G_iload_n 0 dr_cX17_graph_309 rfl ?_
                    have hm331503 : (γ 9 3) ∈ P276992 := RS_m hT331488 ht277023 (by decide)
                    obtain ⟨f331505, he331504, bf331505⟩ := show rk_14 I (F331487 (γ 9 3)) from RS_o hT331488 ht277023
                    refine Gp_zald 3 hm331503 he331504 dr_cX17_graph_310 rfl (gB_in bg331486' (by decide) (by decide)) (G_nam fun z331506 hz331506 => ?_)
                    have bz331506 : gB z331506 0 1 := by rw [hz331506]; exact bf331505 _
                    refine G_if_ne 317 dr_cX17_graph_311 (by decide +kernel) (fun hc331507 => ?_) (fun hc331507 => ?_)
                    · have r331508 : z331506.toInt ≠ 0 := gj_neq hc331507 (show Int32.toInt 0 = 0 by decide)
                      have bz331506' : gB z331506 1 1 := gB_t1 bz331506 r331508
                      refine G_iconst 0 dr_cX17_graph_317 (by decide +kernel) ?_
                      refine G_istore (L' := [(4, .int 0), (3, .int g331486), (0, .ref q276994), (1, .ref q276995), (2, .int p276996)]) dr_cX17_graph_318 (Nat.le_of_ble_eq_true rfl) rfl ?_
                      have hlp320_331654 : ∀ (n320_331654 : Nat) (F331650 : Nat → va_E) (g331649 : Int32), gB g331649 0 32 → RS D I P276992 F331650 γ el → rStr γ [] F276993 F331650 → (gIp (p276996.toInt = 0) (rGr γ el F276993 q276995 (γ 6 (γ 1 q276995)) (cB (F331650 (γ 9 3))) (vA (γ 6 (γ 1 q276995))))) → (F331650 q276994 = F276993 q276994) → (∀ (k : Nat) (e1 : Nat → va_E), tl_RModel_graph_320 D I γ el P276992 F276993 p276996 q276995 q276994 g331486 F331650 g331649 k e1 → tl_RModel_graph_320 D I γ el P276992 F276993 p276996 q276995 q276994 g331486 F331487 (0 : Int32) k e1) → ((33 : Int) - g331649.toInt).toNat < n320_331654 → G (gV D I) l (gRm 5 111 0 0) (gMA (gV D I) (pt_276998_SpillForgeModel_graph D I γ el P276992 F276993 q276994 q276995 p276996) gNA 0 0) ky_276998_SpillForgeModel_graph 320 [(4, .int g331649), (3, .int g331486), (0, .ref q276994), (1, .ref q276995), (2, .int p276996)] [] (va_pl P276992 F331650) 0 0 := by
                        intro n320_331654
                        induction n320_331654 with
                        | zero => intro F331650 g331649 bg331649 hT331651 hs331652 x331653 x331654 kt320_331655 hm320_331654; exact absurd hm320_331654 (Nat.not_lt_zero _)
                        | succ n320_331654 ih320_331654 =>
                          intro F331650 g331649 bg331649 hT331651 hs331652 x331653 x331654 kt320_331655 hm320_331654
                          have hs331656 : rStr γ [] F331487 F331650 := fun b h0 hb hw => (hs331652 b h0 hb hw).trans (hs331489 b h0 hb hw).symm
                          have he331657 : F331650 q276995 = .inr (18, [.ref q331154, .ref q331155, .int p331156, .int p331157]) := (hs331656 q276995 (rT0 htq276995 (by decide)) (rT1 htq276995 (by decide)) (rT2 htq276995 (by decide))).trans he331494
                          have hs331658 : rStr γ [] F276993 F331650 := rStr_tr hs331489 hs331656
                          have he331659 : F331650 q276994 = .inr (22, [.ref (γ 9 0), .ref (γ 9 1), .ref (γ 9 2), .ref (γ 9 3), .ref (γ 9 4), .ref (γ 9 5), .ref (γ 9 6), .ref (γ 9 7), .ref (γ 9 8), .int p277003, .int p277004, .int p277005, .int p277006, .int p277007, .int p277008, .ref (γ 9 15), .ref (γ 9 16), .ref (γ 9 17), .ref (γ 9 18), .ref (γ 9 19), .ref (γ 9 20), .ref (γ 9 21), .ref (γ 9 22), .int p277009, .int p277010, .int p277011, .int p277012, .int p277013, .ref q277001, .ref (γ 9 29), .int p277014, .ref (γ 9 31), .int p277015, .int p277016, .int p277017, .ref q277002]) := x331654.trans he277000
                          have hm331660 : q276994 ∈ P276992 := RS_m hT331651 htq276994 (by decide)
                          refine G_iload 0 dr_cX17_graph_320 rfl ?_
                          refine G_bipush 32 dr_cX17_graph_322 (by decide +kernel) ?_
                          refine G_icmp_ge 383 dr_cX17_graph_324 (by decide +kernel) (fun hc331661 => ?_) (fun hc331661 => ?_)
                          · have r331662 : 32 ≤ g331649.toInt := gj_leL hc331661 (show Int32.toInt 32 = 32 by decide)
                            have bg331649' : gB g331649 32 32 := ⟨by omega, by omega⟩
                            have hx331663 : tl_RModel_graph_320 D I γ el P276992 F276993 p276996 q276995 q276994 g331486 F331487 (0 : Int32) 383 F331650 := kt320_331655 383 F331650 (fun R c1 c2 => c1 F331650 g331649 bg331649 hT331651 hs331652 x331653 x331654 r331662)
                            obtain ⟨z331664, hz331664⟩ : ∃ z : Int32, z = g331486 + Int32.ofInt 1 := ⟨_, rfl⟩
                            have ez331664 : z331664.toInt = g331486.toInt + 1 := gI_inc hz331664 (by decide) bg331486' (by decide) (by decide)
                            have bz331664 : gB z331664 1 2000 := ⟨by omega, by omega⟩
                            refine G_iinc (L' := [(3, .int z331664), (4, .int g331649), (0, .ref q276994), (1, .ref q276995), (2, .int p276996)]) z331664 1 dr_cX17_graph_383 rfl hz331664.symm (Nat.le_of_ble_eq_true rfl) rfl ?_
                            refine G_goto 298 dr_cX17_graph_386 (by decide +kernel) ?_
                            refine G_lv (L' := [(3, .int z331664), (0, .ref q276994), (1, .ref q276995), (2, .int p276996)]) [0, 2, 3, 4] rfl ?_
                            exact ih298_331491 F331650 z331664 (gB_w bz331664 (by decide) (by decide)) hT331651 hs331652 x331653 x331654 (fun k e1 ht => kt298_331492 k e1 (fun R c1 c2 c3 => c2 F331487 g331486 f331505 z331506 F331650 z331664 k e1 bg331486 hT331488 hs331489 x331490 x331491 r331501 fq331502 he331504 hz331506 bz331506 r331508 hx331663 ez331664 (ht R c1 c2 c3))) (mz_up ez331664 (Int.le_trans bg331486'.2 (by decide)) hm298_331491)
                          · have r331665 : g331649.toInt < 32 := gj_nleL hc331661 (show Int32.toInt 32 = 32 by decide)
                            have bg331649' : gB g331649 0 31 := ⟨by omega, by omega⟩
                            refine G_aload_n 2 dr_cX17_graph_327 rfl ?_
                            have fq331666 : fR (F331650 q276994) 1 = (γ 9 1) := by rw [he331659]; rfl
                            refine Gp_get 1 hm331660 he331659 dr_cX17_graph_328 (gk_X17 D I) (Nat.le_of_ble_eq_true rfl) wr_7_75 rfl ?_
                            refine G_iload_n 1 dr_cX17_graph_331 rfl ?_
                            have hm331667 : (γ 9 1) ∈ P276992 := RS_m hT331651 ht277021 (by decide)
                            obtain ⟨f331669, he331668, hg331670⟩ := show rk_13 I γ (F331650 (γ 9 1)) from RS_o hT331651 ht277021
                            obtain ⟨q331671, hx331673⟩ : ∃ x, x = γ 11 g331486.toInt.toNat := ⟨_, rfl⟩
                            have ht331672 : rKd γ q331671 36 := by rw [hx331673]; exact (hg331670 _ (show g331486.toInt.toNat < 2000 by omega)).2.1
                            refine Gp_aald 5 hm331667 he331668 dr_cX17_graph_332 rfl rfl (gB_in bg331486' (by decide) (by decide)) ?_
                            rw [show f331669 g331486.toNatClampNeg = some q331671 from (hg331670 _ (show g331486.toInt.toNat < 2000 by omega)).1.trans (by rw [hx331673])]
                            change G _ _ _ _ _ _ _ (.ref q331671 :: _) _ _ _
                            refine G_iload 0 dr_cX17_graph_333 rfl ?_
                            have hm331674 : q331671 ∈ P276992 := RS_m hT331651 ht331672 (by decide)
                            obtain ⟨f331676, he331675, wf331676⟩ := show rk_36 I (F331650 q331671) from RS_o hT331651 ht331672
                            refine Gp_lald 2 hm331674 he331675 dr_cX17_graph_335 rfl (gB_in bg331649' (by decide) (by decide)) (G_namL fun u331677 hu331677 => ?_)
                            have qu331677 : lb_Q u331677 (2000 - 64 * g331649.toInt) := lb_Wld hu331677 wf331676 (by omega) (by omega) (lb_Mod0 (by omega) (by omega))
                            refine G_lstore (L' := [(5, .long u331677), (4, .int g331649), (3, .int g331486), (0, .ref q276994), (1, .ref q276995), (2, .int p276996)]) dr_cX17_graph_336 (Nat.le_of_ble_eq_true rfl) rfl ?_
                            have hlp338_331740 : ∀ (n338_331740 : Nat) (F331735 : Nat → va_E) (gl331734 : Int64), RS D I P276992 F331735 γ el → rStr γ [] F276993 F331735 → (lb_Q gl331734 (2000 - 64 * g331649.toInt)) → (gIp (p276996.toInt = 0) (rGr γ el F276993 q276995 (γ 6 (γ 1 q276995)) (cB (F331735 (γ 9 3))) (vA (γ 6 (γ 1 q276995))))) → (F331735 q276994 = F276993 q276994) → (∀ (k : Nat) (e1 : Nat → va_E), tl_RModel_graph_338 D I γ el P276992 F276993 g331649 p276996 q276995 q276994 g331486 F331735 gl331734 k e1 → tl_RModel_graph_338 D I γ el P276992 F276993 g331649 p276996 q276995 q276994 g331486 F331650 u331677 k e1) → (rpop gl331734) < n338_331740 → G (gV D I) l (gRm 5 111 0 0) (gMA (gV D I) (pt_276998_SpillForgeModel_graph D I γ el P276992 F276993 q276994 q276995 p276996) gNA 0 0) ky_276998_SpillForgeModel_graph 338 [(5, .long gl331734), (4, .int g331649), (3, .int g331486), (0, .ref q276994), (1, .ref q276995), (2, .int p276996)] [] (va_pl P276992 F331735) 0 0 := by
                              intro n338_331740
                              induction n338_331740 with
                              | zero => intro F331735 gl331734 hT331736 hs331737 x331738 x331739 x331740 kt338_331741 hm338_331740; exact absurd hm338_331740 (Nat.not_lt_zero _)
                              | succ n338_331740 ih338_331740 =>
                                intro F331735 gl331734 hT331736 hs331737 x331738 x331739 x331740 kt338_331741 hm338_331740
                                have hs331742 : rStr γ [] F331650 F331735 := fun b h0 hb hw => (hs331737 b h0 hb hw).trans (hs331652 b h0 hb hw).symm
                                have he331743 : F331735 q276995 = .inr (18, [.ref q331154, .ref q331155, .int p331156, .int p331157]) := (hs331742 q276995 (rT0 htq276995 (by decide)) (rT1 htq276995 (by decide)) (rT2 htq276995 (by decide))).trans he331657
                                have hs331744 : rStr γ [] F276993 F331735 := rStr_tr hs331652 hs331742
                                have he331745 : F331735 q276994 = .inr (22, [.ref (γ 9 0), .ref (γ 9 1), .ref (γ 9 2), .ref (γ 9 3), .ref (γ 9 4), .ref (γ 9 5), .ref (γ 9 6), .ref (γ 9 7), .ref (γ 9 8), .int p277003, .int p277004, .int p277005, .int p277006, .int p277007, .int p277008, .ref (γ 9 15), .ref (γ 9 16), .ref (γ 9 17), .ref (γ 9 18), .ref (γ 9 19), .ref (γ 9 20), .ref (γ 9 21), .ref (γ 9 22), .int p277009, .int p277010, .int p277011, .int p277012, .int p277013, .ref q277001, .ref (γ 9 29), .int p277014, .ref (γ 9 31), .int p277015, .int p277016, .int p277017, .ref q277002]) := x331740.trans he277000
                                have hm331746 : q276994 ∈ P276992 := RS_m hT331736 htq276994 (by decide)
                                refine G_lload 0 dr_cX17_graph_338 rfl ?_
                                refine G_lconst 0 dr_cX17_graph_340 rfl ?_
                                refine G_lcmp dr_cX17_graph_341 (G_nam fun z331747 hz331747 => ?_)
                                have bz331747 : gB z331747 (-1) 1 := gB_cmp hz331747
                                refine G_if_eq 377 dr_cX17_graph_342 (by decide +kernel) (fun hc331748 => ?_) (fun hc331748 => ?_)
                                · have r331749 : z331747.toInt = 0 := gj_eq hc331748 (show Int32.toInt 0 = 0 by decide)
                                  have bz331747' : gB z331747 0 0 := ⟨by omega, by omega⟩
                                  have lhc331748 := gC_cmpE hz331747 hc331748
                                  have hx331750 : tl_RModel_graph_338 D I γ el P276992 F276993 g331649 p276996 q276995 q276994 g331486 F331650 u331677 377 F331735 := kt338_331741 377 F331735 (fun R c1 c2 => c1 F331735 gl331734 hT331736 hs331737 x331738 x331739 x331740 lhc331748)
                                  obtain ⟨z331751, hz331751⟩ : ∃ z : Int32, z = g331649 + Int32.ofInt 1 := ⟨_, rfl⟩
                                  have ez331751 : z331751.toInt = g331649.toInt + 1 := gI_inc hz331751 (by decide) bg331649' (by decide) (by decide)
                                  have bz331751 : gB z331751 1 32 := ⟨by omega, by omega⟩
                                  refine G_iinc (L' := [(4, .int z331751), (5, .long gl331734), (3, .int g331486), (0, .ref q276994), (1, .ref q276995), (2, .int p276996)]) z331751 1 dr_cX17_graph_377 rfl hz331751.symm (Nat.le_of_ble_eq_true rfl) rfl ?_
                                  refine G_goto 320 dr_cX17_graph_380 (by decide +kernel) ?_
                                  refine G_lv (L' := [(4, .int z331751), (3, .int g331486), (0, .ref q276994), (1, .ref q276995), (2, .int p276996)]) [0, 2, 3, 4, 5] rfl ?_
                                  exact ih320_331654 F331735 z331751 (gB_w bz331751 (by decide) (by decide)) hT331736 hs331737 x331739 x331740 (fun k e1 ht => kt320_331655 k e1 (fun R c1 c2 => c2 F331650 g331649 q331671 f331676 u331677 F331735 z331751 k e1 bg331649 hT331651 hs331652 x331653 x331654 r331665 fq331666 hx331673 he331675 hu331677 hx331750 ez331751 (ht R c1 c2))) (mz_up ez331751 (Int.le_trans bg331649'.2 (by decide)) hm320_331654)
                                · have r331752 : z331747.toInt ≠ 0 := gj_neq hc331748 (show Int32.toInt 0 = 0 by decide)
                                  have lhc331748 := gC_cmpN hz331747 hc331748
                                  refine G_aload_n 3 dr_cX17_graph_345 rfl ?_
                                  have fq331753 : fR (F331735 q276994) 1 = (γ 9 1) := by rw [he331745]; rfl
                                  refine Gp_get 1 hm331746 he331745 dr_cX17_graph_346 (gk_X17 D I) (Nat.le_of_ble_eq_true rfl) wr_7_75 rfl ?_
                                  refine G_bipush 64 dr_cX17_graph_349 (by decide +kernel) ?_
                                  refine G_iload 1 dr_cX17_graph_351 rfl ?_
                                  refine G_imul dr_cX17_graph_353 (G_nam fun z331754 hz331754 => ?_)
                                  have ez331754 : z331754.toInt = 64 * g331649.toInt := by rw [gI_mul hz331754 (gBl (show Int32.toInt 64 = 64 by decide)) bg331649' (by decide) (by decide) (by decide), show Int32.toInt 64 = 64 from by decide]
                                  have bz331754 : gB z331754 0 1984 := gB_mul hz331754 (gBl (show Int32.toInt 64 = 64 by decide)) bg331649' (by decide) (by decide) (by decide) (by decide)
                                  refine G_lload 0 dr_cX17_graph_354 rfl ?_
                                  refine Gw_callS (As := [.long gl331734]) (gV_ok D I) (nzc_Long_numberOfTrailingZeros l hl0 D I P276992 F331735 gl331734) dr_cX17_graph_356 ⟨wr_11_1, wr_1_31, wr_11_3, by decide, rfl, (Nat.le_of_ble_eq_true rfl), (Nat.le_of_ble_eq_true rfl)⟩ wr_11_2 (show 0 + 0 ≤ 0 by first | omega | decide) (show 0 + 0 ≤ 0 by first | omega | decide) (Nat.le_of_ble_eq_true rfl) (fun r331758 w331759 dc331755 ds331756 hp331757 => ?_) (fun _ _ _ _ _ z => z.elim)
                                  obtain ⟨o331762, rfl, rfl, hdc, hds, hO331760⟩ := hp331757
                                  have hO331760 := hO331760 lhc331748
                                  have bo331762 : gB o331762 0 63 := ⟨hO331760.1, hO331760.2.1⟩
                                  have r331761 : o331762.toInt < 2000 - 64 * g331649.toInt := lb_Qlt x331738 hO331760.1 hO331760.2.2.1
                                  change G _ _ _ _ _ _ _ (.int o331762 :: _) _ _ _
                                  refine G_widen (cs' := 0) (sl' := 0) (by omega) (by omega) ?_
                                  refine G_iadd dr_cX17_graph_359 (G_nam fun z331763 hz331763 => ?_)
                                  have ez331763 : z331763.toInt = z331754.toInt + o331762.toInt := by rw [gI_add hz331763 bz331754 bo331762 (by decide) (by decide)]
                                  have bz331763 : gB z331763 0 2047 := gB_add (gI_add hz331763 bz331754 bo331762 (by decide) (by decide)) bz331754 bo331762 (by decide) (by decide)
                                  have hm331764 : (γ 9 1) ∈ P276992 := RS_m hT331736 ht277021 (by decide)
                                  obtain ⟨f331766, he331765, hg331767⟩ := show rk_13 I γ (F331735 (γ 9 1)) from RS_o hT331736 ht277021
                                  obtain ⟨q331768, hx331770⟩ : ∃ x, x = γ 11 z331763.toInt.toNat := ⟨_, rfl⟩
                                  have ht331769 : rKd γ q331768 36 := by rw [hx331770]; exact (hg331767 _ (show z331763.toInt.toNat < 2000 by omega)).2.1
                                  refine Gp_aald 5 hm331764 he331765 dr_cX17_graph_360 rfl rfl (gB_inr (by omega) (by omega)) ?_
                                  rw [show f331766 z331763.toNatClampNeg = some q331768 from (hg331767 _ (show z331763.toInt.toNat < 2000 by omega)).1.trans (by rw [hx331770])]
                                  change G _ _ _ _ _ _ _ (.ref q331768 :: _) _ _ _
                                  refine G_iload_n 2 dr_cX17_graph_361 rfl ?_
                                  have hm331771 : q331768 ∈ P276992 := RS_m hT331736 ht331769 (by decide)
                                  obtain ⟨f331773, he331772, wf331773⟩ := show rk_36 I (F331735 q331768) from RS_o hT331736 ht331769
                                  refine Gw_callS (As := [.ref q331768, .int g331486]) (gV_ok D I) (cp_1860_SpillForgeModel_set l hl0 D I P276992 F331735 q331768 g331486 f331773 hm331771 he331772 bg331486' wf331773) dr_cX17_graph_362 ⟨wr_10_189, wr_1_14, wr_10_191, by decide, rfl, (Nat.le_of_ble_eq_true rfl), (Nat.le_of_ble_eq_true rfl)⟩ wr_10_190 (show 0 + 0 ≤ 0 by first | omega | decide) (show 0 + 0 ≤ 0 by first | omega | decide) (Nat.le_of_ble_eq_true rfl) (fun r331777 w331778 dc331774 ds331775 hp331776 => ?_) (fun _ _ _ _ _ z => z.elim)
                                  obtain ⟨F331782, f331779, rfl, rfl, hfr331784, he331785, hdc, hds, x331780, ht331781⟩ := hp331776
                                  have he331786 : F331782 q276995 = .inr (18, [.ref q331154, .ref q331155, .int p331156, .int p331157]) := (hfr331784 q276995 hm331152 (nm_c (rn_oa he331743 he331772) nm_n)).trans he331743
                                  have he331787 : F331782 q276994 = .inr (22, [.ref (γ 9 0), .ref (γ 9 1), .ref (γ 9 2), .ref (γ 9 3), .ref (γ 9 4), .ref (γ 9 5), .ref (γ 9 6), .ref (γ 9 7), .ref (γ 9 8), .int p277003, .int p277004, .int p277005, .int p277006, .int p277007, .int p277008, .ref (γ 9 15), .ref (γ 9 16), .ref (γ 9 17), .ref (γ 9 18), .ref (γ 9 19), .ref (γ 9 20), .ref (γ 9 21), .ref (γ 9 22), .int p277009, .int p277010, .int p277011, .int p277012, .int p277013, .ref q277001, .ref (γ 9 29), .int p277014, .ref (γ 9 31), .int p277015, .int p277016, .int p277017, .ref q277002]) := (hfr331784 q276994 hm331746 (nm_c (rn_oa he331745 he331772) nm_n)).trans he331745
                                  have he331788 : F331782 (γ 9 1) = .inl (I (.array .long), 2000, .inr (.inr (.inr (.inr f331766)))) := (hfr331784 (γ 9 1) hm331764 (nm_c (rn_ref_long he331765 he331772) nm_n)).trans he331765
                                  have hfr331789 : rFr [q331768] P276992 F331735 F331782 := rFr_call (rSub_rf (P := P276992)) (rFr_rf (W := []) (P := P276992) (F := F331735)) hfr331784 (fun b hb hn => ⟨nm_n, (nm_c (fun e => hn (e ▸ List.mem_cons_self)) nm_n)⟩)
                                  change G _ _ _ _ _ _ _ _ _ _ _
                                  refine G_widen (cs' := 0) (sl' := 0) (by omega) (by omega) ?_
                                  have hT331790 : RS D I P276992 F331782 γ el := RS_fr hT331736 hfr331789 ht331769 (by decide) ⟨f331779, he331785, x331780⟩
                                  have hs331791 : rStr γ [] F276993 F331782 := rStr_fr hT331736 hs331737 hfr331789 ht331769 (by decide)
                                  have kp331792 : F331782 q276994 = F276993 q276994 := (hfr331789 q276994 (RS_m hT331736 htq276994 (by decide)) (nm_c (rn_ty htq276994 ht331769 (by decide)) nm_n)).trans x331740
                                  have kp331793 : F331782 (γ 9 3) = F331735 (γ 9 3) := hfr331789 (γ 9 3) (RS_m hT331736 ht277023 (by decide)) (nm_c (rn_ty ht277023 ht331769 (by decide)) nm_n)
                                  refine G_lload 0 dr_cX17_graph_365 rfl ?_
                                  refine G_lload 0 dr_cX17_graph_367 rfl ?_
                                  refine G_lconst 1 dr_cX17_graph_369 rfl ?_
                                  refine G_lsub dr_cX17_graph_370 (G_namL fun u331794 hu331794 => ?_)
                                  refine G_land dr_cX17_graph_371 (G_namL fun u331795 hu331795 => ?_)
                                  refine G_lstore (L' := [(5, .long u331795), (4, .int g331649), (3, .int g331486), (0, .ref q276994), (1, .ref q276995), (2, .int p276996)]) dr_cX17_graph_372 (Nat.le_of_ble_eq_true rfl) rfl ?_
                                  refine G_goto 338 dr_cX17_graph_374 (by decide +kernel) ?_
                                  exact ih338_331740 F331782 u331795 hT331790 hs331791 (lb_QandL hu331795 x331738) (by rw [kp331793]; exact x331739) kp331792 (fun k e1 ht => kt338_331741 k e1 (fun R c1 c2 => c2 F331735 gl331734 z331754 o331762 z331763 q331768 f331773 f331779 F331782 u331794 u331795 k e1 hT331736 hs331737 x331738 x331739 x331740 lhc331748 fq331753 ez331754 hO331760 ez331763 hx331770 he331772 ht331781 hfr331789 he331785 hT331790 hu331794 hu331795 (ht R c1 c2))) (by have q := rpop_low lhc331748 hu331794 hu331795; omega)
                            exact hlp338_331740 ((rpop u331677) + 1) F331650 u331677 hT331651 hs331652 qu331677 x331653 x331654 (fun k e1 ht => ht) (Nat.lt_succ_self _)
                      exact hlp320_331654 (((33 : Int) - 0).toNat + 1) F331487 0 (gB_w (gBl (show Int32.toInt 0 = 0 by decide)) (by decide) (by decide)) hT331488 hs331489 x331490 x331491 (fun k e1 ht => ht) (Nat.lt_succ_self _)
                    · have r331796 : z331506.toInt = 0 := gj_eq hc331507 (show Int32.toInt 0 = 0 by decide)
                      have bz331506' : gB z331506 0 0 := gB_t0 r331796
                      refine G_goto 383 dr_cX17_graph_314 (by decide +kernel) ?_
                      obtain ⟨z331797, hz331797⟩ : ∃ z : Int32, z = g331486 + Int32.ofInt 1 := ⟨_, rfl⟩
                      have ez331797 : z331797.toInt = g331486.toInt + 1 := gI_inc hz331797 (by decide) bg331486' (by decide) (by decide)
                      have bz331797 : gB z331797 1 2000 := ⟨by omega, by omega⟩
                      refine G_iinc (L' := [(3, .int z331797), (0, .ref q276994), (1, .ref q276995), (2, .int p276996)]) z331797 0 dr_cX17_graph_383 rfl hz331797.symm (Nat.le_of_ble_eq_true rfl) rfl ?_
                      refine G_goto 298 dr_cX17_graph_386 (by decide +kernel) ?_
                      exact ih298_331491 F331487 z331797 (gB_w bz331797 (by decide) (by decide)) hT331488 hs331489 x331490 x331491 (fun k e1 ht => kt298_331492 k e1 (fun R c1 c2 c3 => c3 F331487 g331486 f331505 z331506 z331797 k e1 bg331486 hT331488 hs331489 x331490 x331491 r331501 fq331502 he331504 hz331506 bz331506 r331796 ez331797 (ht R c1 c2 c3))) (mz_up ez331797 (Int.le_trans bg331486'.2 (by decide)) hm298_331491)
              exact hlp298_331491 (((2001 : Int) - 0).toNat + 1) F331142 0 (gB_w (gBl (show Int32.toInt 0 = 0 by decide)) (by decide) (by decide)) hT331143 hs331144 (fun h0 => by have z := x331145 h0; exact gq_al z (by omega)) x331146 (fun k e1 ht => ht) (Nat.lt_succ_self _)
            · have r331798 : g331141.toInt < p331157.toInt := gC_nle hc331180
              have bg331141' : gB g331141 0 999999 := ⟨by omega, by omega⟩
              have bp331157' : gB p331157 1 1000000 := ⟨by omega, by omega⟩
              refine G_aload_n 2 dr_cX17_graph_64 rfl ?_
              refine G_iload_n 0 dr_cX17_graph_65 rfl ?_
              have hm331799 : q331154 ∈ P276992 := RS_m hT331143 ht331158 (by decide)
              obtain ⟨⟨p331801, p331802, q331803, he331800, r331804, r331805, r331806, r331808⟩, r331807⟩ := show rk_4 D I γ el F331142 q331154 from RS_o hT331143 ht331158
              have bp331801 := gB_any p331801
              have bp331802 : gB p331802 0 1000000 := ⟨by omega, by omega⟩
              obtain ⟨r331809, r331810, n331817, f331818, r331811, r331812, r331813, r331814, r331815, r331816⟩ := rLC_n r331806 (by omega)
              have hm331819 : q331803 ∈ P276992 := RS_m hT331143 r331809 (by decide)
              obtain ⟨q331820, hx331821⟩ : ∃ x, x = el q331154 g331141.toInt.toNat := ⟨_, rfl⟩
              have fq331825 : fR (F331142 q276995) 0 = q331154 := by rw [he331153]; rfl
              have hx331822 : f331818 g331141.toNatClampNeg = some q331820 := (r331815 _ (show g331141.toInt.toNat < γ 2 q331154 by omega)).trans (by rw [hx331821])
              have ht331826 : rKd γ q331820 2 := by rw [hx331821]; exact (r331169 _ (by omega)).resolve_right (fun z => absurd z.1 (by omega))
              have ht331827 : rFm γ q331820 q331154 := by rw [hx331821]; exact (r331807 _ (show g331141.toInt.toNat < γ 2 q331154 by omega)).2.1
              have hm331828 : q331820 ∈ P276992 := RS_m hT331143 ht331826 (by decide)
              obtain ⟨q331830, q331831, p331832, p331833, he331829, ht331840, ht331834, ht331835, ht331836, ht331837, ht331838, bp331832, bp331833, r331839, r331841, r331842⟩ := show rk_2 γ q331820 (F331142 q331820) from RS_o hT331143 ht331826
              have fq331843 : fI (F331142 q331154) 2 = p331802 := by rw [he331800]; rfl
              refine Gw_callV (As := [.int g331141]) (gV_ok D I) (cp_7901_Code_get l hl0 D I P276992 F331142 q276995 q331154 q331803 g331141 q331155 p331156 p331157 p331801 p331802 f331818 n331817 q331820 q331830 q331831 p331832 p331833 hm331152 hm331799 hm331819 hm331828 he331153 he331800 r331811 he331829 (gB_w bg331141' (by decide) (by decide)) (gB_w bp331802 (by decide) (by decide)) (by omega) (by omega) (by assumption) (by omega)) dr_cX17_graph_66 ⟨wr_10_161, wr_1_15, wr_10_141, by decide, rfl, (Nat.le_of_ble_eq_true rfl), (Nat.le_of_ble_eq_true rfl)⟩ wr_10_139 wr_10_140 hm331152 he331153 rfl (show 0 + 0 ≤ 0 by first | omega | decide) (show 0 + 0 ≤ 0 by first | omega | decide) (Nat.le_of_ble_eq_true rfl) (fun r331847 w331848 dc331844 ds331845 hp331846 => ?_) (fun _ _ _ _ _ z => z.elim)
              obtain ⟨rfl, rfl, hdc, hds, ht331849⟩ := hp331846
              change G _ _ _ _ _ _ _ (.ref q331820 :: _) _ _ _
              refine G_widen (cs' := 0) (sl' := 0) (by omega) (by omega) ?_
              have hb331850 : el (γ 14 q276995) (g331141.toInt : Int).toNat = q331820 := by rw [ht331173.1, hx331821]
              refine G_astore (L' := [(4, .ref q331820), (3, .int g331141), (0, .ref q276994), (1, .ref q276995), (2, .int p276996)]) dr_cX17_graph_69 (Nat.le_of_ble_eq_true rfl) rfl ?_
              refine G_aload_n 2 dr_cX17_graph_71 rfl ?_
              refine G_aload 0 dr_cX17_graph_72 rfl ?_
              refine Gw_callV (As := [.ref q331820]) (gV_ok D I) (ct_280777_SpillForgeModel_behind l hl0 D I γ el P276992 F331142 q276994 q331820 hT331143 htq276994 ht331826) dr_cX17_graph_74 ⟨wr_10_162, wr_1_14, wr_10_165, by decide, rfl, (Nat.le_of_ble_eq_true rfl), (Nat.le_of_ble_eq_true rfl)⟩ wr_10_164 wr_p_95 hm331151 he331150 rfl (show 0 + 0 ≤ 0 by first | omega | decide) (show 0 + 0 ≤ 0 by first | omega | decide) (Nat.le_of_ble_eq_true rfl) (fun r331854 w331855 dc331851 ds331852 hp331853 => ?_) (fun _ _ _ _ _ z => z.elim)
              obtain ⟨F331859, rfl, rfl, hT331860, hs331861, hdc, hds, x331856, x331857, ht331858⟩ := hp331853
              have he331862 : F331859 q276995 = .inr (18, [.ref q331154, .ref q331155, .int p331156, .int p331157]) := (hs331861 q276995 (rT0 htq276995 (by decide)) (rT1 htq276995 (by decide)) (rT2 htq276995 (by decide))).trans he331153
              have he331863 : F331859 q331154 = .inr (4, [.int p331801, .ref q331803, .int p331802]) := (hs331861 q331154 (rT0 ht331158 (by decide)) (rT1 ht331158 (by decide)) (rT2 ht331158 (by decide))).trans he331800
              have he331864 : F331859 q331803 = .inl (I (.object "java/lang/Object"), n331817, .inr (.inr (.inr (.inr f331818)))) := (hs331861 q331803 (rT0 r331809 (by decide)) (rT1 r331809 (by decide)) (rT2 r331809 (by decide))).trans r331811
              have he331865 : F331859 q331820 = .inr (17, [.ref q331830, .ref q331831, .int p331832, .int p331833]) := (hs331861 q331820 (rT0 ht331826 (by decide)) (rT1 ht331826 (by decide)) (rT2 ht331826 (by decide))).trans he331829
              have hs331866 : rStr γ [] F276993 F331859 := rStr_tr hs331144 hs331861
              have kp331867 : F331859 q276994 = F276993 q276994 := (x331856).trans x331146
              have kp331868 : F331859 (γ 9 3) = F331142 (γ 9 3) := x331857
              have he331869 : F331859 q276994 = .inr (22, [.ref (γ 9 0), .ref (γ 9 1), .ref (γ 9 2), .ref (γ 9 3), .ref (γ 9 4), .ref (γ 9 5), .ref (γ 9 6), .ref (γ 9 7), .ref (γ 9 8), .int p277003, .int p277004, .int p277005, .int p277006, .int p277007, .int p277008, .ref (γ 9 15), .ref (γ 9 16), .ref (γ 9 17), .ref (γ 9 18), .ref (γ 9 19), .ref (γ 9 20), .ref (γ 9 21), .ref (γ 9 22), .int p277009, .int p277010, .int p277011, .int p277012, .int p277013, .ref q277001, .ref (γ 9 29), .int p277014, .ref (γ 9 31), .int p277015, .int p277016, .int p277017, .ref q277002]) := (x331856).trans he331150
              change G _ _ _ _ _ _ _ _ _ _ _
              refine G_widen (cs' := 0) (sl' := 0) (by omega) (by omega) ?_
              refine G_aload_n 2 dr_cX17_graph_77 rfl ?_
              refine G_aload 0 dr_cX17_graph_78 rfl ?_
              have fq331870 : fR (F331859 q331820) 1 = q331831 := by rw [he331865]; rfl
              refine Gp_get 1 hm331828 he331865 dr_cX17_graph_80 (gk_X12 D I) (Nat.le_of_ble_eq_true rfl) wr_9_223 rfl ?_
              refine G_iload_n 4 dr_cX17_graph_83 rfl ?_
              refine Gw_callV (As := [.ref q331831, .int p276996]) (gV_ok D I) (ct_283526_SpillForgeModel_stand l hl0 D I γ el P276992 F331859 q276994 q331831 p276996 hT331860 htq276994 ht331836 bp276996) dr_cX17_graph_84 ⟨wr_10_237, wr_1_14, wr_11_0, by decide, rfl, (Nat.le_of_ble_eq_true rfl), (Nat.le_of_ble_eq_true rfl)⟩ wr_10_239 wr_p_100 hm331151 he331869 rfl (show 0 + 0 ≤ 0 by first | omega | decide) (show 0 + 0 ≤ 0 by first | omega | decide) (Nat.le_of_ble_eq_true rfl) (fun r331874 w331875 dc331871 ds331872 hp331873 => ?_) (fun _ _ _ _ _ z => z.elim)
              obtain ⟨F331879, rfl, rfl, hT331880, hs331881, hdc, hds, x331876, x331877, ht331878⟩ := hp331873
              have he331882 : F331879 q276995 = .inr (18, [.ref q331154, .ref q331155, .int p331156, .int p331157]) := (hs331881 q276995 (rT0 htq276995 (by decide)) (rT1 htq276995 (by decide)) (rT2 htq276995 (by decide))).trans he331862
              have he331883 : F331879 q331154 = .inr (4, [.int p331801, .ref q331803, .int p331802]) := (hs331881 q331154 (rT0 ht331158 (by decide)) (rT1 ht331158 (by decide)) (rT2 ht331158 (by decide))).trans he331863
              have he331884 : F331879 q331803 = .inl (I (.object "java/lang/Object"), n331817, .inr (.inr (.inr (.inr f331818)))) := (hs331881 q331803 (rT0 r331809 (by decide)) (rT1 r331809 (by decide)) (rT2 r331809 (by decide))).trans he331864
              have he331885 : F331879 q331820 = .inr (17, [.ref q331830, .ref q331831, .int p331832, .int p331833]) := (hs331881 q331820 (rT0 ht331826 (by decide)) (rT1 ht331826 (by decide)) (rT2 ht331826 (by decide))).trans he331865
              have hs331886 : rStr γ [] F276993 F331879 := rStr_tr hs331866 hs331881
              have kp331887 : F331879 q276994 = F276993 q276994 := (x331877).trans kp331867
              have he331888 : F331879 q276994 = .inr (22, [.ref (γ 9 0), .ref (γ 9 1), .ref (γ 9 2), .ref (γ 9 3), .ref (γ 9 4), .ref (γ 9 5), .ref (γ 9 6), .ref (γ 9 7), .ref (γ 9 8), .int p277003, .int p277004, .int p277005, .int p277006, .int p277007, .int p277008, .ref (γ 9 15), .ref (γ 9 16), .ref (γ 9 17), .ref (γ 9 18), .ref (γ 9 19), .ref (γ 9 20), .ref (γ 9 21), .ref (γ 9 22), .int p277009, .int p277010, .int p277011, .int p277012, .int p277013, .ref q277001, .ref (γ 9 29), .int p277014, .ref (γ 9 31), .int p277015, .int p277016, .int p277017, .ref q277002]) := (x331877).trans he331869
              change G _ _ _ _ _ _ _ _ _ _ _
              refine G_widen (cs' := 0) (sl' := 0) (by omega) (by omega) ?_
              have hb331889 : el (γ 14 q276995) (g331141.toInt : Int).toNat = q331820 := hb331850
              have hL331890 : rwL γ el q276995 (g331141.toInt : Int).toNat = q331830 := by unfold rwL; rw [hb331889]; exact ht331840.1
              have hs331891 : F331859 q331831 = F276993 q331831 := hs331866 q331831 (rT0 ht331836 (by decide)) (rT1 ht331836 (by decide)) (rT2 ht331836 (by decide))
              have gr331892 : gIp (p276996.toInt = 0) (rGr γ el F276993 q276995 (γ 6 (γ 1 q276995)) (cB (F331879 (γ 9 3))) (vB (g331141.toInt : Int).toNat (γ 2 q331830))) := fun h0 => gq_end (x331145 h0) (fun m => by have z := x331876 h0 m; rw [kp331868, hs331891] at z; exact z) ((rAt_e hb331889 ht331840.1 (Nat.le_refl _)).trans ht331840.2.1) (show (g331141.toInt : Int).toNat < γ 6 (γ 1 q276995) by omega) (by rw [hL331890])
              refine G_aload_n 2 dr_cX17_graph_87 rfl ?_
              refine G_aload 0 dr_cX17_graph_88 rfl ?_
              have fq331893 : fR (F331879 q331820) 1 = q331831 := by rw [he331885]; rfl
              refine Gp_get 1 hm331828 he331885 dr_cX17_graph_90 (gk_X12 D I) (Nat.le_of_ble_eq_true rfl) wr_9_223 rfl ?_
              refine G_iload_n 4 dr_cX17_graph_93 rfl ?_
              refine Gw_callV (As := [.ref q331831, .int p276996]) (gV_ok D I) (ct_283829_SpillForgeModel_back l hl0 D I γ el P276992 F331879 q276994 q331831 p276996 hT331880 htq276994 ht331836 bp276996) dr_cX17_graph_94 ⟨wr_10_174, wr_1_14, wr_10_177, by decide, rfl, (Nat.le_of_ble_eq_true rfl), (Nat.le_of_ble_eq_true rfl)⟩ wr_10_176 wr_p_96 hm331151 he331888 rfl (show 0 + 0 ≤ 0 by first | omega | decide) (show 0 + 0 ≤ 0 by first | omega | decide) (Nat.le_of_ble_eq_true rfl) (fun r331897 w331898 dc331894 ds331895 hp331896 => ?_) (fun _ _ _ _ _ z => z.elim)
              obtain ⟨F331902, rfl, rfl, hT331903, hs331904, hdc, hds, x331899, x331900, ht331901⟩ := hp331896
              have he331905 : F331902 q276995 = .inr (18, [.ref q331154, .ref q331155, .int p331156, .int p331157]) := (hs331904 q276995 (rT0 htq276995 (by decide)) (rT1 htq276995 (by decide)) (rT2 htq276995 (by decide))).trans he331882
              have he331906 : F331902 q331154 = .inr (4, [.int p331801, .ref q331803, .int p331802]) := (hs331904 q331154 (rT0 ht331158 (by decide)) (rT1 ht331158 (by decide)) (rT2 ht331158 (by decide))).trans he331883
              have he331907 : F331902 q331803 = .inl (I (.object "java/lang/Object"), n331817, .inr (.inr (.inr (.inr f331818)))) := (hs331904 q331803 (rT0 r331809 (by decide)) (rT1 r331809 (by decide)) (rT2 r331809 (by decide))).trans he331884
              have he331908 : F331902 q331820 = .inr (17, [.ref q331830, .ref q331831, .int p331832, .int p331833]) := (hs331904 q331820 (rT0 ht331826 (by decide)) (rT1 ht331826 (by decide)) (rT2 ht331826 (by decide))).trans he331885
              have hs331909 : rStr γ [] F276993 F331902 := rStr_tr hs331886 hs331904
              have kp331910 : F331902 q276994 = F276993 q276994 := (x331899).trans kp331887
              have kp331911 : F331902 (γ 9 3) = F331879 (γ 9 3) := x331900
              have he331912 : F331902 q276994 = .inr (22, [.ref (γ 9 0), .ref (γ 9 1), .ref (γ 9 2), .ref (γ 9 3), .ref (γ 9 4), .ref (γ 9 5), .ref (γ 9 6), .ref (γ 9 7), .ref (γ 9 8), .int p277003, .int p277004, .int p277005, .int p277006, .int p277007, .int p277008, .ref (γ 9 15), .ref (γ 9 16), .ref (γ 9 17), .ref (γ 9 18), .ref (γ 9 19), .ref (γ 9 20), .ref (γ 9 21), .ref (γ 9 22), .int p277009, .int p277010, .int p277011, .int p277012, .int p277013, .ref q277001, .ref (γ 9 29), .int p277014, .ref (γ 9 31), .int p277015, .int p277016, .int p277017, .ref q277002]) := (x331899).trans he331888
              change G _ _ _ _ _ _ _ _ _ _ _
              refine G_widen (cs' := 0) (sl' := 0) (by omega) (by omega) ?_
              refine G_aload 0 dr_cX17_graph_97 rfl ?_
              have fq331913 : fR (F331902 q331820) 0 = q331830 := by rw [he331908]; rfl
              refine Gp_get 0 hm331828 he331908 dr_cX17_graph_99 (gk_X12 D I) (Nat.le_of_ble_eq_true rfl) wr_9_220 rfl ?_
              have fl331914 : γ 2 (γ 14 q331820) = γ 2 q331830 := by rw [ht331840.1]
              have hm331915 : q331830 ∈ P276992 := RS_m hT331903 ht331834 (by decide)
              obtain ⟨⟨p331917, p331918, q331919, he331916, r331920, r331921, r331922, r331924⟩, r331923⟩ := show rk_3 D I γ el F331902 q331830 from RS_o hT331903 ht331834
              have bp331917 := gB_any p331917
              have bp331918 : gB p331918 0 1000000 := ⟨by omega, by omega⟩
              have fq331925 : p331918.toInt = (γ 2 q331830 : Int) := by omega
              have fq331926 : fI (F331902 q331830) 2 = p331918 := by rw [he331916]; rfl
              refine Gw_callV (As := []) (gV_ok D I) (cp_7_ArrayList_size l hl0 D I P276992 F331902 q331830 p331917 q331919 p331918 hm331915 he331916 (gB_w bp331918 (by decide) (by decide))) dr_cX17_graph_102 ⟨wr_10_200, wr_1_18, wr_9_160, by decide, rfl, (Nat.le_of_ble_eq_true rfl), (Nat.le_of_ble_eq_true rfl)⟩ wr_9_158 wr_9_159 hm331915 he331916 rfl (show 0 + 0 ≤ 0 by first | omega | decide) (show 0 + 0 ≤ 0 by first | omega | decide) (Nat.le_of_ble_eq_true rfl) (fun r331930 w331931 dc331927 ds331928 hp331929 => ?_) (fun _ _ _ _ _ z => z.elim)
              obtain ⟨rfl, rfl, hdc, hds⟩ := hp331929
              change G _ _ _ _ _ _ _ (.int p331918 :: _) _ _ _
              refine G_widen (cs' := 0) (sl' := 0) (by omega) (by omega) ?_
              refine G_iconst 1 dr_cX17_graph_105 (by decide +kernel) ?_
              refine G_isub dr_cX17_graph_106 (G_nam fun z331932 hz331932 => ?_)
              have ez331932 : z331932.toInt = p331918.toInt - 1 := by rw [gI_sub hz331932 bp331918 (gBl (show Int32.toInt 1 = 1 by decide)) (by decide) (by decide), show Int32.toInt 1 = 1 from by decide]
              have bz331932 : gB z331932 (-1) 999999 := gB_sub (gI_sub hz331932 bp331918 (gBl (show Int32.toInt 1 = 1 by decide)) (by decide) (by decide)) bp331918 (gBl (show Int32.toInt 1 = 1 by decide)) (by decide) (by decide)
              refine G_istore (L' := [(5, .int z331932), (4, .ref q331820), (3, .int g331141), (0, .ref q276994), (1, .ref q276995), (2, .int p276996)]) dr_cX17_graph_107 (Nat.le_of_ble_eq_true rfl) rfl ?_
              have hlp109_333620 : ∀ (n109_333620 : Nat) (F333615 : Nat → va_E) (g333614 : Int32), gB g333614 (-1) 999999 → RS D I P276992 F333615 γ el → rStr γ [] F276993 F333615 → ((g333614.toInt : Int) < γ 2 (γ 14 q331820)) → (gIp (p276996.toInt = 0) (rGr γ el F276993 q276995 (γ 6 (γ 1 q276995)) (cB (F333615 (γ 9 3))) (vB (g331141.toInt : Int).toNat (g333614.toInt + 1 : Int).toNat))) → (F333615 q276994 = F276993 q276994) → (∀ (k : Nat) (e1 : Nat → va_E), tl_RModel_graph_109 D I γ el P276992 F276993 q331820 p276996 q276995 g331141 q276994 F333615 g333614 k e1 → tl_RModel_graph_109 D I γ el P276992 F276993 q331820 p276996 q276995 g331141 q276994 F331902 z331932 k e1) → ((g333614.toInt : Int) - (-2)).toNat < n109_333620 → G (gV D I) l (gRm 5 111 0 0) (gMA (gV D I) (pt_276998_SpillForgeModel_graph D I γ el P276992 F276993 q276994 q276995 p276996) gNA 0 0) ky_276998_SpillForgeModel_graph 109 [(5, .int g333614), (4, .ref q331820), (3, .int g331141), (0, .ref q276994), (1, .ref q276995), (2, .int p276996)] [] (va_pl P276992 F333615) 0 0 := by
                intro n109_333620
                induction n109_333620 with
                | zero => intro F333615 g333614 bg333614 hT333616 hs333617 x333618 x333619 x333620 kt109_333621 hm109_333620; exact absurd hm109_333620 (Nat.not_lt_zero _)
                | succ n109_333620 ih109_333620 =>
                  intro F333615 g333614 bg333614 hT333616 hs333617 x333618 x333619 x333620 kt109_333621 hm109_333620
                  have hs333622 : rStr γ [] F331902 F333615 := fun b h0 hb hw => (hs333617 b h0 hb hw).trans (hs331909 b h0 hb hw).symm
                  have he333623 : F333615 q276995 = .inr (18, [.ref q331154, .ref q331155, .int p331156, .int p331157]) := (hs333622 q276995 (rT0 htq276995 (by decide)) (rT1 htq276995 (by decide)) (rT2 htq276995 (by decide))).trans he331905
                  have he333624 : F333615 q331154 = .inr (4, [.int p331801, .ref q331803, .int p331802]) := (hs333622 q331154 (rT0 ht331158 (by decide)) (rT1 ht331158 (by decide)) (rT2 ht331158 (by decide))).trans he331906
                  have he333625 : F333615 q331803 = .inl (I (.object "java/lang/Object"), n331817, .inr (.inr (.inr (.inr f331818)))) := (hs333622 q331803 (rT0 r331809 (by decide)) (rT1 r331809 (by decide)) (rT2 r331809 (by decide))).trans he331907
                  have he333626 : F333615 q331820 = .inr (17, [.ref q331830, .ref q331831, .int p331832, .int p331833]) := (hs333622 q331820 (rT0 ht331826 (by decide)) (rT1 ht331826 (by decide)) (rT2 ht331826 (by decide))).trans he331908
                  have he333627 : F333615 q331830 = .inr (4, [.int p331917, .ref q331919, .int p331918]) := (hs333622 q331830 (rT0 ht331834 (by decide)) (rT1 ht331834 (by decide)) (rT2 ht331834 (by decide))).trans he331916
                  have hs333628 : rStr γ [] F276993 F333615 := rStr_tr hs331909 hs333622
                  have he333629 : F333615 q276994 = .inr (22, [.ref (γ 9 0), .ref (γ 9 1), .ref (γ 9 2), .ref (γ 9 3), .ref (γ 9 4), .ref (γ 9 5), .ref (γ 9 6), .ref (γ 9 7), .ref (γ 9 8), .int p277003, .int p277004, .int p277005, .int p277006, .int p277007, .int p277008, .ref (γ 9 15), .ref (γ 9 16), .ref (γ 9 17), .ref (γ 9 18), .ref (γ 9 19), .ref (γ 9 20), .ref (γ 9 21), .ref (γ 9 22), .int p277009, .int p277010, .int p277011, .int p277012, .int p277013, .ref q277001, .ref (γ 9 29), .int p277014, .ref (γ 9 31), .int p277015, .int p277016, .int p277017, .ref q277002]) := x333620.trans he277000
                  have hm333630 : q276994 ∈ P276992 := RS_m hT333616 htq276994 (by decide)
                  refine G_iload 0 dr_cX17_graph_109 rfl ?_
                  refine G_if_lt 290 dr_cX17_graph_111 (by decide +kernel) (fun hc333631 => ?_) (fun hc333631 => ?_)
                  · have r333632 : g333614.toInt < 0 := gj_lt hc333631 (show Int32.toInt 0 = 0 by decide)
                    have bg333614' : gB g333614 (-1) (-1) := ⟨by omega, by omega⟩
                    have hx333633 : tl_RModel_graph_109 D I γ el P276992 F276993 q331820 p276996 q276995 g331141 q276994 F331902 z331932 290 F333615 := kt109_333621 290 F333615 (fun R c1 c2 c3 c4 c5 c6 c7 c8 c9 c10 c11 => c1 F333615 g333614 bg333614 hT333616 hs333617 x333618 x333619 x333620 r333632)
                    obtain ⟨z333634, hz333634⟩ : ∃ z : Int32, z = g331141 + Int32.ofInt 1 := ⟨_, rfl⟩
                    have ez333634 : z333634.toInt = g331141.toInt + 1 := gI_inc hz333634 (by decide) bg331141' (by decide) (by decide)
                    have bz333634 : gB z333634 1 1000000 := ⟨by omega, by omega⟩
                    refine G_iinc (L' := [(3, .int z333634), (5, .int g333614), (4, .ref q331820), (0, .ref q276994), (1, .ref q276995), (2, .int p276996)]) z333634 2 dr_cX17_graph_290 rfl hz333634.symm (Nat.le_of_ble_eq_true rfl) rfl ?_
                    refine G_goto 56 dr_cX17_graph_293 (by decide +kernel) ?_
                    refine G_lv (L' := [(3, .int z333634), (0, .ref q276994), (1, .ref q276995), (2, .int p276996)]) [0, 3, 4, 5] rfl ?_
                    exact ih56_331146 F333615 z333634 (gB_w bz333634 (by decide) (by decide)) hT333616 hs333617 (fun h0 => by have z := x333619 h0; exact gq_nx z (by omega) (by rw [ez333634]; omega)) x333620 (fun k e1 ht => kt56_331147 k e1 (fun R c1 c2 => c2 F331142 g331141 p331157 q331154 q331820 p331802 F331859 q331831 F331879 F331902 q331830 p331918 z331932 F333615 z333634 k e1 bg331141 hT331143 hs331144 x331145 x331146 fq331174 r331798 fq331825 hx331821 fq331843 ht331849 hT331860 hs331861 x331856 x331857 ht331858 fq331870 hT331880 hs331881 x331876 x331877 ht331878 fq331893 hT331903 hs331904 x331899 x331900 ht331901 fq331913 fq331925 fq331926 ez331932 hx333633 ez333634 (ht R c1 c2))) (mz_up ez333634 (Int.le_trans bg331141'.2 (by decide)) hm56_331146)
                  · have r333635 : 0 ≤ g333614.toInt := gj_nlt hc333631 (show Int32.toInt 0 = 0 by decide)
                    have bg333614' : gB g333614 0 999999 := ⟨by omega, by omega⟩
                    refine G_aload 1 dr_cX17_graph_114 rfl ?_
                    have fq333636 : fR (F333615 q331820) 0 = q331830 := by rw [he333626]; rfl
                    refine Gp_get 0 hm331828 he333626 dr_cX17_graph_116 (gk_X12 D I) (Nat.le_of_ble_eq_true rfl) wr_9_220 rfl ?_
                    refine G_iload 0 dr_cX17_graph_119 rfl ?_
                    have fl333637 : γ 2 (γ 14 q331820) = γ 2 q331830 := by rw [ht331840.1]
                    have hm333638 : q331830 ∈ P276992 := RS_m hT333616 ht331834 (by decide)
                    obtain ⟨⟨p333640, p333641, q333642, he333639, r333643, r333644, r333645, r333647⟩, r333646⟩ := show rk_3 D I γ el F333615 q331830 from RS_o hT333616 ht331834
                    have bp333640 := gB_any p333640
                    have bp333641 : gB p333641 0 1000000 := ⟨by omega, by omega⟩
                    obtain ⟨r333648, r333649, n333656, f333657, r333650, r333651, r333652, r333653, r333654, r333655⟩ := rLC_n r333645 (by omega)
                    have hm333658 : q333642 ∈ P276992 := RS_m hT333616 r333648 (by decide)
                    obtain ⟨q333659, hx333660⟩ : ∃ x, x = el q331830 g333614.toInt.toNat := ⟨_, rfl⟩
                    have hx333661 : f333657 g333614.toNatClampNeg = some q333659 := (r333654 _ (show g333614.toInt.toNat < γ 2 q331830 by omega)).trans (by rw [hx333660])
                    have ht333662 : rKd γ q333659 1 := by rw [hx333660]; exact (r333646 _ (show g333614.toInt.toNat < γ 2 q331830 by omega)).1
                    have ht333663 : rFm γ q333659 q331830 := by rw [hx333660]; exact (r333646 _ (show g333614.toInt.toNat < γ 2 q331830 by omega)).2.1
                    have fq333664 : fI (F333615 q331830) 2 = p333641 := by rw [he333639]; rfl
                    refine Gw_callV (As := [.int g333614]) (gV_ok D I) (cp_22_ArrayList_get l hl0 D I P276992 F333615 q331830 q333642 g333614 p333640 p333641 f333657 n333656 q333659 hm333638 hm333658 he333639 r333650 (gB_w bg333614' (by decide) (by decide)) (gB_w bp333641 (by decide) (by decide)) (by omega) (by omega) (by assumption) (by omega)) dr_cX17_graph_121 ⟨wr_10_201, wr_1_18, wr_10_65, by decide, rfl, (Nat.le_of_ble_eq_true rfl), (Nat.le_of_ble_eq_true rfl)⟩ wr_10_63 wr_10_64 hm333638 he333639 rfl (show 0 + 0 ≤ 0 by first | omega | decide) (show 0 + 0 ≤ 0 by first | omega | decide) (Nat.le_of_ble_eq_true rfl) (fun r333668 w333669 dc333665 ds333666 hp333667 => ?_) (fun _ _ _ _ _ z => z.elim)
                    obtain ⟨rfl, rfl, hdc, hds, ht333670⟩ := hp333667
                    change G _ _ _ _ _ _ _ (.ref q333659 :: _) _ _ _
                    refine G_widen (cs' := 0) (sl' := 0) (by omega) (by omega) ?_
                    have hr333671 : el q331830 (g333614.toInt : Int).toNat = q333659 := by rw [hx333660]
                    have hm333672 : q333659 ∈ P276992 := RS_m hT333616 ht333662 (by decide)
                    obtain ⟨p333674, p333675, p333676, p333677, p333678, p333679, p333680, he333673, bp333674, bp333675, bp333678, bp333679, bp333680, r333681, r333682, r333683, r333684, r333685⟩ := show rk_1 γ q333659 (F333615 q333659) from RS_o hT333616 ht333662
                    have bp333676 := gB_any p333676
                    have bp333677 := gB_any p333677
                    refine Gp_cast hm333672 he333673 rfl dr_cX17_graph_124 wr_10_202 (gr_cast 1 rfl) ?_
                    refine G_astore (L' := [(6, .ref q333659), (5, .int g333614), (4, .ref q331820), (3, .int g331141), (0, .ref q276994), (1, .ref q276995), (2, .int p276996)]) dr_cX17_graph_127 (Nat.le_of_ble_eq_true rfl) rfl ?_
                    refine G_aload_n 4 dr_cX17_graph_129 rfl ?_
                    refine G_aload 0 dr_cX17_graph_130 rfl ?_
                    refine G_iload_n 6 dr_cX17_graph_132 rfl ?_
                    refine Gw_callV (As := [.ref q333659, .int p276996]) (gV_ok D I) (ct_283526_SpillForgeModel_stand l hl0 D I γ el P276992 F333615 q276994 q333659 p276996 hT333616 htq276994 ht333662 bp276996) dr_cX17_graph_133 ⟨wr_10_237, wr_1_14, wr_11_0, by decide, rfl, (Nat.le_of_ble_eq_true rfl), (Nat.le_of_ble_eq_true rfl)⟩ wr_10_239 wr_p_100 hm333630 he333629 rfl (show 0 + 0 ≤ 0 by first | omega | decide) (show 0 + 0 ≤ 0 by first | omega | decide) (Nat.le_of_ble_eq_true rfl) (fun r333689 w333690 dc333686 ds333687 hp333688 => ?_) (fun _ _ _ _ _ z => z.elim)
                    obtain ⟨F333694, rfl, rfl, hT333695, hs333696, hdc, hds, x333691, x333692, ht333693⟩ := hp333688
                    have he333697 : F333694 q276995 = .inr (18, [.ref q331154, .ref q331155, .int p331156, .int p331157]) := (hs333696 q276995 (rT0 htq276995 (by decide)) (rT1 htq276995 (by decide)) (rT2 htq276995 (by decide))).trans he333623
                    have he333698 : F333694 q331154 = .inr (4, [.int p331801, .ref q331803, .int p331802]) := (hs333696 q331154 (rT0 ht331158 (by decide)) (rT1 ht331158 (by decide)) (rT2 ht331158 (by decide))).trans he333624
                    have he333699 : F333694 q331803 = .inl (I (.object "java/lang/Object"), n331817, .inr (.inr (.inr (.inr f331818)))) := (hs333696 q331803 (rT0 r331809 (by decide)) (rT1 r331809 (by decide)) (rT2 r331809 (by decide))).trans he333625
                    have he333700 : F333694 q331820 = .inr (17, [.ref q331830, .ref q331831, .int p331832, .int p331833]) := (hs333696 q331820 (rT0 ht331826 (by decide)) (rT1 ht331826 (by decide)) (rT2 ht331826 (by decide))).trans he333626
                    have he333701 : F333694 q331830 = .inr (4, [.int p333640, .ref q333642, .int p333641]) := (hs333696 q331830 (rT0 ht331834 (by decide)) (rT1 ht331834 (by decide)) (rT2 ht331834 (by decide))).trans he333639
                    have he333702 : F333694 q333642 = .inl (I (.object "java/lang/Object"), n333656, .inr (.inr (.inr (.inr f333657)))) := (hs333696 q333642 (rT0 r333648 (by decide)) (rT1 r333648 (by decide)) (rT2 r333648 (by decide))).trans r333650
                    have he333703 : F333694 q333659 = .inr (20, [.int p333674, .int p333675, .int p333676, .int p333677, .int p333678, .int p333679, .int p333680]) := (hs333696 q333659 (rT0 ht333662 (by decide)) (rT1 ht333662 (by decide)) (rT2 ht333662 (by decide))).trans he333673
                    have hs333704 : rStr γ [] F276993 F333694 := rStr_tr hs333617 hs333696
                    have kp333705 : F333694 q276994 = F276993 q276994 := (x333692).trans x333620
                    have he333706 : F333694 q276994 = .inr (22, [.ref (γ 9 0), .ref (γ 9 1), .ref (γ 9 2), .ref (γ 9 3), .ref (γ 9 4), .ref (γ 9 5), .ref (γ 9 6), .ref (γ 9 7), .ref (γ 9 8), .int p277003, .int p277004, .int p277005, .int p277006, .int p277007, .int p277008, .ref (γ 9 15), .ref (γ 9 16), .ref (γ 9 17), .ref (γ 9 18), .ref (γ 9 19), .ref (γ 9 20), .ref (γ 9 21), .ref (γ 9 22), .int p277009, .int p277010, .int p277011, .int p277012, .int p277013, .ref q277001, .ref (γ 9 29), .int p277014, .ref (γ 9 31), .int p277015, .int p277016, .int p277017, .ref q277002]) := (x333692).trans he333629
                    change G _ _ _ _ _ _ _ _ _ _ _
                    refine G_widen (cs' := 0) (sl' := 0) (by omega) (by omega) ?_
                    have hb333707 : el (γ 14 q276995) (g331141.toInt : Int).toNat = q331820 := hb331850
                    have hL333708 : rwL γ el q276995 (g331141.toInt : Int).toNat = q331830 := by unfold rwL; rw [hb333707]; exact ht331840.1
                    have hs333709 : F333615 q333659 = F276993 q333659 := hs333617 q333659 (rT0 ht333662 (by decide)) (rT1 ht333662 (by decide)) (rT2 ht333662 (by decide))
                    have gr333710 : gIp (p276996.toInt = 0) (rGr γ el F276993 q276995 (γ 6 (γ 1 q276995)) (cB (F333694 (γ 9 3))) (vB (g331141.toInt : Int).toNat (g333614.toInt : Int).toNat)) := fun h0 => gq_row (x333619 h0) (fun m => by have z := x333691 h0 m; rw [hs333709] at z; exact z) ((rAt_r hb333707 ht331840.1 (by omega)).trans hr333671) (show (g331141.toInt : Int).toNat < γ 6 (γ 1 q276995) by omega) (by rw [hL333708]; omega) (by omega)
                    refine G_aload 0 dr_cX17_graph_136 rfl ?_
                    refine G_iload_n 6 dr_cX17_graph_138 rfl ?_
                    have fq333711 : fI (F333694 q333659) 0 = p333674 := by rw [he333703]; rfl
                    have fq333712 : fI (F333694 q333659) 1 = p333675 := by rw [he333703]; rfl
                    have fq333713 : fI (F333694 q333659) 4 = p333678 := by rw [he333703]; rfl
                    refine Gw_callS (As := [.ref q333659, .int p276996]) (gV_ok D I) (cp_1784_SpillForgeModel_setOf l hl0 D I P276992 F333694 q333659 p276996 p333674 p333675 p333676 p333677 p333678 p333679 p333680 hm333672 he333703 bp276996 bp333674 bp333675 bp333678 bp333679 bp333680) dr_cX17_graph_139 ⟨wr_10_178, wr_1_14, wr_10_180, by decide, rfl, (Nat.le_of_ble_eq_true rfl), (Nat.le_of_ble_eq_true rfl)⟩ wr_10_179 (show 0 + 0 ≤ 0 by first | omega | decide) (show 0 + 0 ≤ 0 by first | omega | decide) (Nat.le_of_ble_eq_true rfl) (fun r333717 w333718 dc333714 ds333715 hp333716 => ?_) (fun _ _ _ _ _ z => z.elim)
                    obtain ⟨o333719, rfl, rfl, hdc, hds, bo333719, ht333720⟩ := hp333716
                    change G _ _ _ _ _ _ _ (.int o333719 :: _) _ _ _
                    refine G_widen (cs' := 0) (sl' := 0) (by omega) (by omega) ?_
                    refine G_istore (L' := [(7, .int o333719), (6, .ref q333659), (5, .int g333614), (4, .ref q331820), (3, .int g331141), (0, .ref q276994), (1, .ref q276995), (2, .int p276996)]) dr_cX17_graph_142 (Nat.le_of_ble_eq_true rfl) rfl ?_
                    refine G_iload_n 7 dr_cX17_graph_144 rfl ?_
                    refine G_if_ne 172 dr_cX17_graph_145 (by decide +kernel) (fun hc333721 => ?_) (fun hc333721 => ?_)
                    · have r333722 : p276996.toInt ≠ 0 := gj_neq hc333721 (show Int32.toInt 0 = 0 by decide)
                      have bp276996' : gB p276996 1 1 := gB_t1 bp276996 r333722
                      refine G_iconst (-1) dr_cX17_graph_172 (by decide +kernel) ?_
                      refine G_istore (L' := [(8, .int (-1)), (7, .int o333719), (6, .ref q333659), (5, .int g333614), (4, .ref q331820), (3, .int g331141), (0, .ref q276994), (1, .ref q276995), (2, .int p276996)]) dr_cX17_graph_173 (Nat.le_of_ble_eq_true rfl) rfl ?_
                      refine G_iload 1 dr_cX17_graph_175 rfl ?_
                      refine G_if_lt 277 dr_cX17_graph_177 (by decide +kernel) (fun hc333723 => ?_) (fun hc333723 => ?_)
                      · have r333724 : o333719.toInt < 0 := gj_lt hc333723 (show Int32.toInt 0 = 0 by decide)
                        have bo333719' : gB o333719 (-1) (-1) := ⟨by omega, by omega⟩
                        refine G_aload_n 6 dr_cX17_graph_277 rfl ?_
                        refine G_aload 2 dr_cX17_graph_278 rfl ?_
                        refine G_iload_n 8 dr_cX17_graph_280 rfl ?_
                        refine Gw_callV (As := [.ref q333659, .int p276996]) (gV_ok D I) (ct_283829_SpillForgeModel_back l hl0 D I γ el P276992 F333694 q276994 q333659 p276996 hT333695 htq276994 ht333662 (gB_w bp276996' (by decide) (by decide))) dr_cX17_graph_281 ⟨wr_10_174, wr_1_14, wr_10_177, by decide, rfl, (Nat.le_of_ble_eq_true rfl), (Nat.le_of_ble_eq_true rfl)⟩ wr_10_176 wr_p_96 hm333630 he333706 rfl (show 0 + 0 ≤ 0 by first | omega | decide) (show 0 + 0 ≤ 0 by first | omega | decide) (Nat.le_of_ble_eq_true rfl) (fun r333728 w333729 dc333725 ds333726 hp333727 => ?_) (fun _ _ _ _ _ z => z.elim)
                        obtain ⟨F333733, rfl, rfl, hT333734, hs333735, hdc, hds, x333730, x333731, ht333732⟩ := hp333727
                        have he333736 : F333733 q276995 = .inr (18, [.ref q331154, .ref q331155, .int p331156, .int p331157]) := (hs333735 q276995 (rT0 htq276995 (by decide)) (rT1 htq276995 (by decide)) (rT2 htq276995 (by decide))).trans he333697
                        have he333737 : F333733 q331154 = .inr (4, [.int p331801, .ref q331803, .int p331802]) := (hs333735 q331154 (rT0 ht331158 (by decide)) (rT1 ht331158 (by decide)) (rT2 ht331158 (by decide))).trans he333698
                        have he333738 : F333733 q331803 = .inl (I (.object "java/lang/Object"), n331817, .inr (.inr (.inr (.inr f331818)))) := (hs333735 q331803 (rT0 r331809 (by decide)) (rT1 r331809 (by decide)) (rT2 r331809 (by decide))).trans he333699
                        have he333739 : F333733 q331820 = .inr (17, [.ref q331830, .ref q331831, .int p331832, .int p331833]) := (hs333735 q331820 (rT0 ht331826 (by decide)) (rT1 ht331826 (by decide)) (rT2 ht331826 (by decide))).trans he333700
                        have he333740 : F333733 q331830 = .inr (4, [.int p333640, .ref q333642, .int p333641]) := (hs333735 q331830 (rT0 ht331834 (by decide)) (rT1 ht331834 (by decide)) (rT2 ht331834 (by decide))).trans he333701
                        have he333741 : F333733 q333642 = .inl (I (.object "java/lang/Object"), n333656, .inr (.inr (.inr (.inr f333657)))) := (hs333735 q333642 (rT0 r333648 (by decide)) (rT1 r333648 (by decide)) (rT2 r333648 (by decide))).trans he333702
                        have he333742 : F333733 q333659 = .inr (20, [.int p333674, .int p333675, .int p333676, .int p333677, .int p333678, .int p333679, .int p333680]) := (hs333735 q333659 (rT0 ht333662 (by decide)) (rT1 ht333662 (by decide)) (rT2 ht333662 (by decide))).trans he333703
                        have hs333743 : rStr γ [] F276993 F333733 := rStr_tr hs333704 hs333735
                        have kp333744 : F333733 q276994 = F276993 q276994 := (x333730).trans kp333705
                        have kp333745 : F333733 (γ 9 3) = F333694 (γ 9 3) := x333731
                        have he333746 : F333733 q276994 = .inr (22, [.ref (γ 9 0), .ref (γ 9 1), .ref (γ 9 2), .ref (γ 9 3), .ref (γ 9 4), .ref (γ 9 5), .ref (γ 9 6), .ref (γ 9 7), .ref (γ 9 8), .int p277003, .int p277004, .int p277005, .int p277006, .int p277007, .int p277008, .ref (γ 9 15), .ref (γ 9 16), .ref (γ 9 17), .ref (γ 9 18), .ref (γ 9 19), .ref (γ 9 20), .ref (γ 9 21), .ref (γ 9 22), .int p277009, .int p277010, .int p277011, .int p277012, .int p277013, .ref q277001, .ref (γ 9 29), .int p277014, .ref (γ 9 31), .int p277015, .int p277016, .int p277017, .ref q277002]) := (x333730).trans he333706
                        change G _ _ _ _ _ _ _ _ _ _ _
                        refine G_widen (cs' := 0) (sl' := 0) (by omega) (by omega) ?_
                        obtain ⟨z333747, hz333747⟩ : ∃ z : Int32, z = g333614 + Int32.ofInt (-1) := ⟨_, rfl⟩
                        have ez333747 : z333747.toInt = g333614.toInt + (-1) := gI_inc hz333747 (by decide) bg333614' (by decide) (by decide)
                        have bz333747 : gB z333747 (-1) 999998 := ⟨by omega, by omega⟩
                        refine G_iinc (L' := [(5, .int z333747), (8, .int (-1)), (7, .int o333719), (6, .ref q333659), (4, .ref q331820), (3, .int g331141), (0, .ref q276994), (1, .ref q276995), (2, .int p276996)]) z333747 3 dr_cX17_graph_284 rfl hz333747.symm (Nat.le_of_ble_eq_true rfl) rfl ?_
                        refine G_goto 109 dr_cX17_graph_287 (by decide +kernel) ?_
                        refine G_lv (L' := [(5, .int z333747), (4, .ref q331820), (3, .int g331141), (0, .ref q276994), (1, .ref q276995), (2, .int p276996)]) [0, 4, 5, 6, 7, 8] rfl ?_
                        exact ih109_333620 F333733 z333747 (gB_w bz333747 (by decide) (by decide)) hT333734 hs333743 (by omega) (fun h0 => by have z := gr333710 h0; rw [← kp333745] at z; rw [show ((g333614.toInt : Int).toNat : Nat) = (z333747.toInt + 1 : Int).toNat by omega] at z; exact z) kp333744 (fun k e1 ht => kt109_333621 k e1 (fun R c1 c2 c3 c4 c5 c6 c7 c8 c9 c10 c11 => c2 F333615 g333614 q331830 q333659 p333641 F333694 p333674 p333675 p333678 o333719 F333733 z333747 k e1 bg333614 hT333616 hs333617 x333618 x333619 x333620 r333635 fq333636 hx333660 fq333664 ht333670 hT333695 hs333696 x333691 x333692 ht333693 fq333711 fq333712 fq333713 bo333719 ht333720 r333722 r333724 hT333734 hs333735 x333730 x333731 ht333732 ez333747 (ht R c1 c2 c3 c4 c5 c6 c7 c8 c9 c10 c11))) (mz_dn ez333747 (Int.le_trans (by decide) bg333614'.1) hm109_333620)
                      · have r333748 : 0 ≤ o333719.toInt := gj_nlt hc333723 (show Int32.toInt 0 = 0 by decide)
                        have bo333719' : gB o333719 0 1999 := ⟨by omega, by omega⟩
                        refine G_iload 0 dr_cX17_graph_180 rfl ?_
                        refine G_if_lt 204 dr_cX17_graph_182 (by decide +kernel) (fun _ => ?_) (fun hc => absurd hc (by decide))
                        refine G_iconst 0 dr_cX17_graph_204 (by decide +kernel) ?_
                        refine G_istore (L' := [(9, .int 0), (8, .int (-1)), (7, .int o333719), (6, .ref q333659), (5, .int g333614), (4, .ref q331820), (3, .int g331141), (0, .ref q276994), (1, .ref q276995), (2, .int p276996)]) dr_cX17_graph_205 (Nat.le_of_ble_eq_true rfl) rfl ?_
                        refine G_iconst 0 dr_cX17_graph_207 (by decide +kernel) ?_
                        refine G_istore (L' := [(10, .int 0), (9, .int 0), (8, .int (-1)), (7, .int o333719), (6, .ref q333659), (5, .int g333614), (4, .ref q331820), (3, .int g331141), (0, .ref q276994), (1, .ref q276995), (2, .int p276996)]) dr_cX17_graph_208 (Nat.le_of_ble_eq_true rfl) rfl ?_
                        have hlp210_333867 : ∀ (n210_333867 : Nat) (F333863 : Nat → va_E) (g333862 : Int32), gB g333862 0 32 → RS D I P276992 F333863 γ el → rStr γ [] F276993 F333863 → (gIp (p276996.toInt = 0) (rGr γ el F276993 q276995 (γ 6 (γ 1 q276995)) (cB (F333863 (γ 9 3))) (vB (g331141.toInt : Int).toNat (g333614.toInt : Int).toNat))) → (F333863 q276994 = F276993 q276994) → (∀ (k : Nat) (e1 : Nat → va_E), tl_RModel_graph_210 D I γ el P276992 F276993 p276996 q276995 g331141 g333614 q276994 o333719 F333863 g333862 k e1 → tl_RModel_graph_210 D I γ el P276992 F276993 p276996 q276995 g331141 g333614 q276994 o333719 F333694 (0 : Int32) k e1) → ((33 : Int) - g333862.toInt).toNat < n210_333867 → G (gV D I) l (gRm 5 111 0 0) (gMA (gV D I) (pt_276998_SpillForgeModel_graph D I γ el P276992 F276993 q276994 q276995 p276996) gNA 0 0) ky_276998_SpillForgeModel_graph 210 [(10, .int g333862), (9, .int 0), (8, .int (-1)), (7, .int o333719), (6, .ref q333659), (5, .int g333614), (4, .ref q331820), (3, .int g331141), (0, .ref q276994), (1, .ref q276995), (2, .int p276996)] [] (va_pl P276992 F333863) 0 0 := by
                          intro n210_333867
                          induction n210_333867 with
                          | zero => intro F333863 g333862 bg333862 hT333864 hs333865 x333866 x333867 kt210_333868 hm210_333867; exact absurd hm210_333867 (Nat.not_lt_zero _)
                          | succ n210_333867 ih210_333867 =>
                            intro F333863 g333862 bg333862 hT333864 hs333865 x333866 x333867 kt210_333868 hm210_333867
                            have hs333869 : rStr γ [] F333694 F333863 := fun b h0 hb hw => (hs333865 b h0 hb hw).trans (hs333704 b h0 hb hw).symm
                            have he333870 : F333863 q276995 = .inr (18, [.ref q331154, .ref q331155, .int p331156, .int p331157]) := (hs333869 q276995 (rT0 htq276995 (by decide)) (rT1 htq276995 (by decide)) (rT2 htq276995 (by decide))).trans he333697
                            have he333871 : F333863 q331154 = .inr (4, [.int p331801, .ref q331803, .int p331802]) := (hs333869 q331154 (rT0 ht331158 (by decide)) (rT1 ht331158 (by decide)) (rT2 ht331158 (by decide))).trans he333698
                            have he333872 : F333863 q331803 = .inl (I (.object "java/lang/Object"), n331817, .inr (.inr (.inr (.inr f331818)))) := (hs333869 q331803 (rT0 r331809 (by decide)) (rT1 r331809 (by decide)) (rT2 r331809 (by decide))).trans he333699
                            have he333873 : F333863 q331820 = .inr (17, [.ref q331830, .ref q331831, .int p331832, .int p331833]) := (hs333869 q331820 (rT0 ht331826 (by decide)) (rT1 ht331826 (by decide)) (rT2 ht331826 (by decide))).trans he333700
                            have he333874 : F333863 q331830 = .inr (4, [.int p333640, .ref q333642, .int p333641]) := (hs333869 q331830 (rT0 ht331834 (by decide)) (rT1 ht331834 (by decide)) (rT2 ht331834 (by decide))).trans he333701
                            have he333875 : F333863 q333642 = .inl (I (.object "java/lang/Object"), n333656, .inr (.inr (.inr (.inr f333657)))) := (hs333869 q333642 (rT0 r333648 (by decide)) (rT1 r333648 (by decide)) (rT2 r333648 (by decide))).trans he333702
                            have he333876 : F333863 q333659 = .inr (20, [.int p333674, .int p333675, .int p333676, .int p333677, .int p333678, .int p333679, .int p333680]) := (hs333869 q333659 (rT0 ht333662 (by decide)) (rT1 ht333662 (by decide)) (rT2 ht333662 (by decide))).trans he333703
                            have hs333877 : rStr γ [] F276993 F333863 := rStr_tr hs333704 hs333869
                            have he333878 : F333863 q276994 = .inr (22, [.ref (γ 9 0), .ref (γ 9 1), .ref (γ 9 2), .ref (γ 9 3), .ref (γ 9 4), .ref (γ 9 5), .ref (γ 9 6), .ref (γ 9 7), .ref (γ 9 8), .int p277003, .int p277004, .int p277005, .int p277006, .int p277007, .int p277008, .ref (γ 9 15), .ref (γ 9 16), .ref (γ 9 17), .ref (γ 9 18), .ref (γ 9 19), .ref (γ 9 20), .ref (γ 9 21), .ref (γ 9 22), .int p277009, .int p277010, .int p277011, .int p277012, .int p277013, .ref q277001, .ref (γ 9 29), .int p277014, .ref (γ 9 31), .int p277015, .int p277016, .int p277017, .ref q277002]) := x333867.trans he277000
                            have hm333879 : q276994 ∈ P276992 := RS_m hT333864 htq276994 (by decide)
                            refine G_iload 0 dr_cX17_graph_210 rfl ?_
                            refine G_bipush 32 dr_cX17_graph_212 (by decide +kernel) ?_
                            refine G_icmp_ge 243 dr_cX17_graph_214 (by decide +kernel) (fun hc333880 => ?_) (fun hc333880 => ?_)
                            · have r333881 : 32 ≤ g333862.toInt := gj_leL hc333880 (show Int32.toInt 32 = 32 by decide)
                              have bg333862' : gB g333862 32 32 := ⟨by omega, by omega⟩
                              have hx333882 : tl_RModel_graph_210 D I γ el P276992 F276993 p276996 q276995 g331141 g333614 q276994 o333719 F333694 (0 : Int32) 243 F333863 := kt210_333868 243 F333863 (fun R c1 c2 => c1 F333863 g333862 bg333862 hT333864 hs333865 x333866 x333867 r333881)
                              refine G_iload 2 dr_cX17_graph_243 rfl ?_
                              refine G_if_lt 265 dr_cX17_graph_245 (by decide +kernel) (fun _ => ?_) (fun hc => absurd hc (by decide))
                              refine G_aload_n 8 dr_cX17_graph_265 rfl ?_
                              have fq333883 : fR (F333863 q276994) 1 = (γ 9 1) := by rw [he333878]; rfl
                              refine Gp_get 1 hm333879 he333878 dr_cX17_graph_266 (gk_X17 D I) (Nat.le_of_ble_eq_true rfl) wr_7_75 rfl ?_
                              refine G_iload 3 dr_cX17_graph_269 rfl ?_
                              have hm333884 : (γ 9 1) ∈ P276992 := RS_m hT333864 ht277021 (by decide)
                              obtain ⟨f333886, he333885, hg333887⟩ := show rk_13 I γ (F333863 (γ 9 1)) from RS_o hT333864 ht277021
                              obtain ⟨q333888, hx333890⟩ : ∃ x, x = γ 11 o333719.toInt.toNat := ⟨_, rfl⟩
                              have ht333889 : rKd γ q333888 36 := by rw [hx333890]; exact (hg333887 _ (show o333719.toInt.toNat < 2000 by omega)).2.1
                              refine Gp_aald 5 hm333884 he333885 dr_cX17_graph_271 rfl rfl (gB_in bo333719' (by decide) (by decide)) ?_
                              rw [show f333886 o333719.toNatClampNeg = some q333888 from (hg333887 _ (show o333719.toInt.toNat < 2000 by omega)).1.trans (by rw [hx333890])]
                              change G _ _ _ _ _ _ _ (.ref q333888 :: _) _ _ _
                              refine G_iload 3 dr_cX17_graph_272 rfl ?_
                              have hm333891 : q333888 ∈ P276992 := RS_m hT333864 ht333889 (by decide)
                              obtain ⟨f333893, he333892, wf333893⟩ := show rk_36 I (F333863 q333888) from RS_o hT333864 ht333889
                              refine Gw_callS (As := [.ref q333888, .int o333719]) (gV_ok D I) (cp_1880_SpillForgeModel_clear l hl0 D I P276992 F333863 q333888 o333719 f333893 hm333891 he333892 bo333719' wf333893) dr_cX17_graph_274 ⟨wr_10_185, wr_1_14, wr_10_187, by decide, rfl, (Nat.le_of_ble_eq_true rfl), (Nat.le_of_ble_eq_true rfl)⟩ wr_10_186 (show 0 + 0 ≤ 0 by first | omega | decide) (show 0 + 0 ≤ 0 by first | omega | decide) (Nat.le_of_ble_eq_true rfl) (fun r333897 w333898 dc333894 ds333895 hp333896 => ?_) (fun _ _ _ _ _ z => z.elim)
                              obtain ⟨F333902, f333899, rfl, rfl, hfr333904, he333905, hdc, hds, x333900, ht333901⟩ := hp333896
                              have he333906 : F333902 q276995 = .inr (18, [.ref q331154, .ref q331155, .int p331156, .int p331157]) := (hfr333904 q276995 hm331152 (nm_c (rn_oa he333870 he333892) nm_n)).trans he333870
                              have he333907 : F333902 q331154 = .inr (4, [.int p331801, .ref q331803, .int p331802]) := (hfr333904 q331154 hm331799 (nm_c (rn_oa he333871 he333892) nm_n)).trans he333871
                              have he333908 : F333902 q331803 = .inl (I (.object "java/lang/Object"), n331817, .inr (.inr (.inr (.inr f331818)))) := (hfr333904 q331803 hm331819 (nm_c (rn_ref_long he333872 he333892) nm_n)).trans he333872
                              have he333909 : F333902 q331820 = .inr (17, [.ref q331830, .ref q331831, .int p331832, .int p331833]) := (hfr333904 q331820 hm331828 (nm_c (rn_oa he333873 he333892) nm_n)).trans he333873
                              have he333910 : F333902 q331830 = .inr (4, [.int p333640, .ref q333642, .int p333641]) := (hfr333904 q331830 hm333638 (nm_c (rn_oa he333874 he333892) nm_n)).trans he333874
                              have he333911 : F333902 q333642 = .inl (I (.object "java/lang/Object"), n333656, .inr (.inr (.inr (.inr f333657)))) := (hfr333904 q333642 hm333658 (nm_c (rn_ref_long he333875 he333892) nm_n)).trans he333875
                              have he333912 : F333902 q333659 = .inr (20, [.int p333674, .int p333675, .int p333676, .int p333677, .int p333678, .int p333679, .int p333680]) := (hfr333904 q333659 hm333672 (nm_c (rn_oa he333876 he333892) nm_n)).trans he333876
                              have he333913 : F333902 q276994 = .inr (22, [.ref (γ 9 0), .ref (γ 9 1), .ref (γ 9 2), .ref (γ 9 3), .ref (γ 9 4), .ref (γ 9 5), .ref (γ 9 6), .ref (γ 9 7), .ref (γ 9 8), .int p277003, .int p277004, .int p277005, .int p277006, .int p277007, .int p277008, .ref (γ 9 15), .ref (γ 9 16), .ref (γ 9 17), .ref (γ 9 18), .ref (γ 9 19), .ref (γ 9 20), .ref (γ 9 21), .ref (γ 9 22), .int p277009, .int p277010, .int p277011, .int p277012, .int p277013, .ref q277001, .ref (γ 9 29), .int p277014, .ref (γ 9 31), .int p277015, .int p277016, .int p277017, .ref q277002]) := (hfr333904 q276994 hm333879 (nm_c (rn_oa he333878 he333892) nm_n)).trans he333878
                              have he333914 : F333902 (γ 9 1) = .inl (I (.array .long), 2000, .inr (.inr (.inr (.inr f333886)))) := (hfr333904 (γ 9 1) hm333884 (nm_c (rn_ref_long he333885 he333892) nm_n)).trans he333885
                              have hfr333915 : rFr [q333888] P276992 F333863 F333902 := rFr_call (rSub_rf (P := P276992)) (rFr_rf (W := []) (P := P276992) (F := F333863)) hfr333904 (fun b hb hn => ⟨nm_n, (nm_c (fun e => hn (e ▸ List.mem_cons_self)) nm_n)⟩)
                              change G _ _ _ _ _ _ _ _ _ _ _
                              refine G_widen (cs' := 0) (sl' := 0) (by omega) (by omega) ?_
                              have hT333916 : RS D I P276992 F333902 γ el := RS_fr hT333864 hfr333915 ht333889 (by decide) ⟨f333899, he333905, x333900⟩
                              have hs333917 : rStr γ [] F276993 F333902 := rStr_fr hT333864 hs333865 hfr333915 ht333889 (by decide)
                              have kp333918 : F333902 q276994 = F276993 q276994 := (hfr333915 q276994 (RS_m hT333864 htq276994 (by decide)) (nm_c (rn_ty htq276994 ht333889 (by decide)) nm_n)).trans x333867
                              have kp333919 : F333902 (γ 9 3) = F333863 (γ 9 3) := hfr333915 (γ 9 3) (RS_m hT333864 ht277023 (by decide)) (nm_c (rn_ty ht277023 ht333889 (by decide)) nm_n)
                              refine G_aload_n 8 dr_cX17_graph_277 rfl ?_
                              refine G_aload 4 dr_cX17_graph_278 rfl ?_
                              refine G_iload_n 10 dr_cX17_graph_280 rfl ?_
                              refine Gw_callV (As := [.ref q333659, .int p276996]) (gV_ok D I) (ct_283829_SpillForgeModel_back l hl0 D I γ el P276992 F333902 q276994 q333659 p276996 hT333916 htq276994 ht333662 (gB_w bp276996' (by decide) (by decide))) dr_cX17_graph_281 ⟨wr_10_174, wr_1_14, wr_10_177, by decide, rfl, (Nat.le_of_ble_eq_true rfl), (Nat.le_of_ble_eq_true rfl)⟩ wr_10_176 wr_p_96 hm333879 he333913 rfl (show 0 + 0 ≤ 0 by first | omega | decide) (show 0 + 0 ≤ 0 by first | omega | decide) (Nat.le_of_ble_eq_true rfl) (fun r333923 w333924 dc333920 ds333921 hp333922 => ?_) (fun _ _ _ _ _ z => z.elim)
                              obtain ⟨F333928, rfl, rfl, hT333929, hs333930, hdc, hds, x333925, x333926, ht333927⟩ := hp333922
                              have he333931 : F333928 q276995 = .inr (18, [.ref q331154, .ref q331155, .int p331156, .int p331157]) := (hs333930 q276995 (rT0 htq276995 (by decide)) (rT1 htq276995 (by decide)) (rT2 htq276995 (by decide))).trans he333906
                              have he333932 : F333928 q331154 = .inr (4, [.int p331801, .ref q331803, .int p331802]) := (hs333930 q331154 (rT0 ht331158 (by decide)) (rT1 ht331158 (by decide)) (rT2 ht331158 (by decide))).trans he333907
                              have he333933 : F333928 q331803 = .inl (I (.object "java/lang/Object"), n331817, .inr (.inr (.inr (.inr f331818)))) := (hs333930 q331803 (rT0 r331809 (by decide)) (rT1 r331809 (by decide)) (rT2 r331809 (by decide))).trans he333908
                              have he333934 : F333928 q331820 = .inr (17, [.ref q331830, .ref q331831, .int p331832, .int p331833]) := (hs333930 q331820 (rT0 ht331826 (by decide)) (rT1 ht331826 (by decide)) (rT2 ht331826 (by decide))).trans he333909
                              have he333935 : F333928 q331830 = .inr (4, [.int p333640, .ref q333642, .int p333641]) := (hs333930 q331830 (rT0 ht331834 (by decide)) (rT1 ht331834 (by decide)) (rT2 ht331834 (by decide))).trans he333910
                              have he333936 : F333928 q333642 = .inl (I (.object "java/lang/Object"), n333656, .inr (.inr (.inr (.inr f333657)))) := (hs333930 q333642 (rT0 r333648 (by decide)) (rT1 r333648 (by decide)) (rT2 r333648 (by decide))).trans he333911
                              have he333937 : F333928 q333659 = .inr (20, [.int p333674, .int p333675, .int p333676, .int p333677, .int p333678, .int p333679, .int p333680]) := (hs333930 q333659 (rT0 ht333662 (by decide)) (rT1 ht333662 (by decide)) (rT2 ht333662 (by decide))).trans he333912
                              have hs333938 : rStr γ [] F276993 F333928 := rStr_tr hs333917 hs333930
                              have kp333939 : F333928 q276994 = F276993 q276994 := (x333925).trans kp333918
                              have kp333940 : F333928 (γ 9 3) = F333863 (γ 9 3) := (x333926).trans kp333919
                              have he333941 : F333928 q276994 = .inr (22, [.ref (γ 9 0), .ref (γ 9 1), .ref (γ 9 2), .ref (γ 9 3), .ref (γ 9 4), .ref (γ 9 5), .ref (γ 9 6), .ref (γ 9 7), .ref (γ 9 8), .int p277003, .int p277004, .int p277005, .int p277006, .int p277007, .int p277008, .ref (γ 9 15), .ref (γ 9 16), .ref (γ 9 17), .ref (γ 9 18), .ref (γ 9 19), .ref (γ 9 20), .ref (γ 9 21), .ref (γ 9 22), .int p277009, .int p277010, .int p277011, .int p277012, .int p277013, .ref q277001, .ref (γ 9 29), .int p277014, .ref (γ 9 31), .int p277015, .int p277016, .int p277017, .ref q277002]) := (x333925).trans he333913
                              change G _ _ _ _ _ _ _ _ _ _ _
                              refine G_widen (cs' := 0) (sl' := 0) (by omega) (by omega) ?_
                              obtain ⟨z333942, hz333942⟩ : ∃ z : Int32, z = g333614 + Int32.ofInt (-1) := ⟨_, rfl⟩
                              have ez333942 : z333942.toInt = g333614.toInt + (-1) := gI_inc hz333942 (by decide) bg333614' (by decide) (by decide)
                              have bz333942 : gB z333942 (-1) 999998 := ⟨by omega, by omega⟩
                              refine G_iinc (L' := [(5, .int z333942), (10, .int g333862), (9, .int 0), (8, .int (-1)), (7, .int o333719), (6, .ref q333659), (4, .ref q331820), (3, .int g331141), (0, .ref q276994), (1, .ref q276995), (2, .int p276996)]) z333942 5 dr_cX17_graph_284 rfl hz333942.symm (Nat.le_of_ble_eq_true rfl) rfl ?_
                              refine G_goto 109 dr_cX17_graph_287 (by decide +kernel) ?_
                              refine G_lv (L' := [(5, .int z333942), (4, .ref q331820), (3, .int g331141), (0, .ref q276994), (1, .ref q276995), (2, .int p276996)]) [0, 6, 7, 8, 9, 10] rfl ?_
                              exact ih109_333620 F333928 z333942 (gB_w bz333942 (by decide) (by decide)) hT333929 hs333938 (by omega) (fun h0 => by have z := x333866 h0; rw [← kp333940] at z; rw [show ((g333614.toInt : Int).toNat : Nat) = (z333942.toInt + 1 : Int).toNat by omega] at z; exact z) kp333939 (fun k e1 ht => kt109_333621 k e1 (fun R c1 c2 c3 c4 c5 c6 c7 c8 c9 c10 c11 => c3 F333615 g333614 q331830 q333659 p333641 F333694 p333674 p333675 p333678 o333719 F333863 q333888 f333893 f333899 F333902 F333928 z333942 k e1 bg333614 hT333616 hs333617 x333618 x333619 x333620 r333635 fq333636 hx333660 fq333664 ht333670 hT333695 hs333696 x333691 x333692 ht333693 fq333711 fq333712 fq333713 bo333719 ht333720 r333722 r333748 hx333882 fq333883 hx333890 he333892 ht333901 hfr333915 he333905 hT333916 hT333929 hs333930 x333925 x333926 ht333927 ez333942 (ht R c1 c2 c3 c4 c5 c6 c7 c8 c9 c10 c11))) (mz_dn ez333942 (Int.le_trans (by decide) bg333614'.1) hm109_333620)
                            · have r333943 : g333862.toInt < 32 := gj_nleL hc333880 (show Int32.toInt 32 = 32 by decide)
                              have bg333862' : gB g333862 0 31 := ⟨by omega, by omega⟩
                              refine G_aload_n 8 dr_cX17_graph_217 rfl ?_
                              have fq333944 : fR (F333863 q276994) 1 = (γ 9 1) := by rw [he333878]; rfl
                              refine Gp_get 1 hm333879 he333878 dr_cX17_graph_218 (gk_X17 D I) (Nat.le_of_ble_eq_true rfl) wr_7_75 rfl ?_
                              refine G_iload 3 dr_cX17_graph_221 rfl ?_
                              have hm333945 : (γ 9 1) ∈ P276992 := RS_m hT333864 ht277021 (by decide)
                              obtain ⟨f333947, he333946, hg333948⟩ := show rk_13 I γ (F333863 (γ 9 1)) from RS_o hT333864 ht277021
                              obtain ⟨q333949, hx333951⟩ : ∃ x, x = γ 11 o333719.toInt.toNat := ⟨_, rfl⟩
                              have ht333950 : rKd γ q333949 36 := by rw [hx333951]; exact (hg333948 _ (show o333719.toInt.toNat < 2000 by omega)).2.1
                              refine Gp_aald 5 hm333945 he333946 dr_cX17_graph_223 rfl rfl (gB_in bo333719' (by decide) (by decide)) ?_
                              rw [show f333947 o333719.toNatClampNeg = some q333949 from (hg333948 _ (show o333719.toInt.toNat < 2000 by omega)).1.trans (by rw [hx333951])]
                              change G _ _ _ _ _ _ _ (.ref q333949 :: _) _ _ _
                              refine G_iload 0 dr_cX17_graph_224 rfl ?_
                              refine G_dup2_11 dr_cX17_graph_226 rfl rfl ?_
                              have hm333952 : q333949 ∈ P276992 := RS_m hT333864 ht333950 (by decide)
                              obtain ⟨f333954, he333953, wf333954⟩ := show rk_36 I (F333863 q333949) from RS_o hT333864 ht333950
                              refine Gp_lald 2 hm333952 he333953 dr_cX17_graph_227 rfl (gB_in bg333862' (by decide) (by decide)) (G_namL fun u333955 hu333955 => ?_)
                              have qu333955 : lb_Q u333955 (2000 - 64 * g333862.toInt) := lb_Wld hu333955 wf333954 (by omega) (by omega) (lb_Mod0 (by omega) (by omega))
                              refine G_aload_n 8 dr_cX17_graph_228 rfl ?_
                              have fq333956 : fR (F333863 q276994) 2 = (γ 9 2) := by rw [he333878]; rfl
                              refine Gp_get 2 hm333879 he333878 dr_cX17_graph_229 (gk_X17 D I) (Nat.le_of_ble_eq_true rfl) wr_7_76 rfl ?_
                              refine G_iload 0 dr_cX17_graph_232 rfl ?_
                              have hm333957 : (γ 9 2) ∈ P276992 := RS_m hT333864 ht277022 (by decide)
                              obtain ⟨f333959, he333958, wf333959⟩ := show rk_35 I (F333863 (γ 9 2)) from RS_o hT333864 ht277022
                              refine Gp_lald 2 hm333957 he333958 dr_cX17_graph_234 rfl (gB_in bg333862' (by decide) (by decide)) (G_namL fun u333960 hu333960 => ?_)
                              have qu333960 : lb_Q u333960 (2000 - 64 * g333862.toInt) := lb_Wld hu333960 wf333959 (by omega) (by omega) (lb_Mod0 (by omega) (by omega))
                              refine G_lor dr_cX17_graph_235 (G_namL fun u333961 hu333961 => ?_)
                              have qu333961 : lb_Q u333961 (2000 - 64 * g333862.toInt) := lb_Qor hu333961 qu333955 qu333960
                              refine Gp_last 2 hm333952 he333953 dr_cX17_graph_236 rfl (gB_in bg333862' (by decide) (by decide)) (fun F333962 e333963 n333964 => ?_)
                              obtain ⟨f333965, hf333965⟩ : ∃ z, z = vp_updL f333954 g333862.toNatClampNeg u333961 := ⟨_, rfl⟩
                              rw [← hf333965] at e333963
                              have he333966 : F333962 q276995 = .inr (18, [.ref q331154, .ref q331155, .int p331156, .int p331157]) := (n333964 q276995 (rn_oa he333870 he333953)).trans he333870
                              have he333967 : F333962 q331154 = .inr (4, [.int p331801, .ref q331803, .int p331802]) := (n333964 q331154 (rn_oa he333871 he333953)).trans he333871
                              have he333968 : F333962 q331803 = .inl (I (.object "java/lang/Object"), n331817, .inr (.inr (.inr (.inr f331818)))) := (n333964 q331803 (rn_ref_long he333872 he333953)).trans he333872
                              have he333969 : F333962 q331820 = .inr (17, [.ref q331830, .ref q331831, .int p331832, .int p331833]) := (n333964 q331820 (rn_oa he333873 he333953)).trans he333873
                              have he333970 : F333962 q331830 = .inr (4, [.int p333640, .ref q333642, .int p333641]) := (n333964 q331830 (rn_oa he333874 he333953)).trans he333874
                              have he333971 : F333962 q333642 = .inl (I (.object "java/lang/Object"), n333656, .inr (.inr (.inr (.inr f333657)))) := (n333964 q333642 (rn_ref_long he333875 he333953)).trans he333875
                              have he333972 : F333962 q333659 = .inr (20, [.int p333674, .int p333675, .int p333676, .int p333677, .int p333678, .int p333679, .int p333680]) := (n333964 q333659 (rn_oa he333876 he333953)).trans he333876
                              have he333973 : F333962 q276994 = .inr (22, [.ref (γ 9 0), .ref (γ 9 1), .ref (γ 9 2), .ref (γ 9 3), .ref (γ 9 4), .ref (γ 9 5), .ref (γ 9 6), .ref (γ 9 7), .ref (γ 9 8), .int p277003, .int p277004, .int p277005, .int p277006, .int p277007, .int p277008, .ref (γ 9 15), .ref (γ 9 16), .ref (γ 9 17), .ref (γ 9 18), .ref (γ 9 19), .ref (γ 9 20), .ref (γ 9 21), .ref (γ 9 22), .int p277009, .int p277010, .int p277011, .int p277012, .int p277013, .ref q277001, .ref (γ 9 29), .int p277014, .ref (γ 9 31), .int p277015, .int p277016, .int p277017, .ref q277002]) := (n333964 q276994 (rn_oa he333878 he333953)).trans he333878
                              have he333974 : F333962 (γ 9 1) = .inl (I (.array .long), 2000, .inr (.inr (.inr (.inr f333947)))) := (n333964 (γ 9 1) (rn_ref_long he333946 he333953)).trans he333946
                              have he333975 : F333962 (γ 9 2) = .inl (I .long, 32, .inr (.inl f333959)) := (n333964 (γ 9 2) (rn_ty ht277022 ht333950 (by decide))).trans he333958
                              have he333976 : F333962 q333949 = .inl (I .long, 32, .inr (.inl f333965)) := e333963
                              have hs333977 : rStr γ [] F276993 F333962 := rStr_put hs333865 n333964 ht333950 (by decide)
                              have kp333978 : F333962 q276994 = F276993 q276994 := (n333964 q276994 (rn_ty htq276994 ht333950 (by decide))).trans x333867
                              have kp333979 : F333962 (γ 9 3) = F333863 (γ 9 3) := n333964 (γ 9 3) (rn_ty ht277023 ht333950 (by decide))
                              have wf333965 : lb_W f333965 (32) (32) (2000) := lb_Wst hf333965 wf333954 (by omega) (lb_Mod0 (by omega) (by omega)) qu333961
                              obtain ⟨z333980, hz333980⟩ : ∃ z : Int32, z = g333862 + Int32.ofInt 1 := ⟨_, rfl⟩
                              have ez333980 : z333980.toInt = g333862.toInt + 1 := gI_inc hz333980 (by decide) bg333862' (by decide) (by decide)
                              have bz333980 : gB z333980 1 32 := ⟨by omega, by omega⟩
                              refine G_iinc (L' := [(10, .int z333980), (9, .int 0), (8, .int (-1)), (7, .int o333719), (6, .ref q333659), (5, .int g333614), (4, .ref q331820), (3, .int g331141), (0, .ref q276994), (1, .ref q276995), (2, .int p276996)]) z333980 0 dr_cX17_graph_237 rfl hz333980.symm (Nat.le_of_ble_eq_true rfl) rfl ?_
                              refine G_goto 210 dr_cX17_graph_240 (by decide +kernel) ?_
                              have hT333981 : RS D I P276992 F333962 γ el := RS_set hT333864 n333964 ht333950 (by decide) ⟨f333965, he333976, wf333965⟩
                              exact ih210_333867 F333962 z333980 (gB_w bz333980 (by decide) (by decide)) hT333981 hs333977 (by rw [kp333979]; exact x333866) kp333978 (fun k e1 ht => kt210_333868 k e1 (fun R c1 c2 => c2 F333863 g333862 q333949 f333954 u333955 f333959 u333960 u333961 f333965 F333962 z333980 k e1 bg333862 hT333864 hs333865 x333866 x333867 r333943 fq333944 hx333951 he333953 hu333955 fq333956 he333958 hu333960 hu333961 hf333965 n333964 he333976 ez333980 (ht R c1 c2))) (mz_up ez333980 (Int.le_trans bg333862'.2 (by decide)) hm210_333867)
                        exact hlp210_333867 (((33 : Int) - 0).toNat + 1) F333694 0 (gB_w (gBl (show Int32.toInt 0 = 0 by decide)) (by decide) (by decide)) hT333695 hs333704 gr333710 kp333705 (fun k e1 ht => ht) (Nat.lt_succ_self _)
                    · have r333982 : p276996.toInt = 0 := gj_eq hc333721 (show Int32.toInt 0 = 0 by decide)
                      have bp276996' : gB p276996 0 0 := gB_t0 r333982
                      refine G_aload 1 dr_cX17_graph_148 rfl ?_
                      refine Gp_get 0 hm333672 he333703 dr_cX17_graph_150 (gk_X15 D I) (Nat.le_of_ble_eq_true rfl) wr_9_177 rfl ?_
                      refine G_if_ne 172 dr_cX17_graph_153 (by decide +kernel) (fun hc333983 => ?_) (fun hc333983 => ?_)
                      · have r333984 : p333674.toInt ≠ 0 := gj_neq hc333983 (show Int32.toInt 0 = 0 by decide)
                        have bp333674' : gB p333674 1 32 := ⟨by omega, by omega⟩
                        refine G_iconst (-1) dr_cX17_graph_172 (by decide +kernel) ?_
                        refine G_istore (L' := [(8, .int (-1)), (7, .int o333719), (6, .ref q333659), (5, .int g333614), (4, .ref q331820), (3, .int g331141), (0, .ref q276994), (1, .ref q276995), (2, .int p276996)]) dr_cX17_graph_173 (Nat.le_of_ble_eq_true rfl) rfl ?_
                        refine G_iload 1 dr_cX17_graph_175 rfl ?_
                        refine G_if_lt 277 dr_cX17_graph_177 (by decide +kernel) (fun hc333985 => ?_) (fun hc333985 => ?_)
                        · have r333986 : o333719.toInt < 0 := gj_lt hc333985 (show Int32.toInt 0 = 0 by decide)
                          have bo333719' : gB o333719 (-1) (-1) := ⟨by omega, by omega⟩
                          refine G_aload_n 6 dr_cX17_graph_277 rfl ?_
                          refine G_aload 2 dr_cX17_graph_278 rfl ?_
                          refine G_iload_n 8 dr_cX17_graph_280 rfl ?_
                          refine Gw_callV (As := [.ref q333659, .int p276996]) (gV_ok D I) (ct_283829_SpillForgeModel_back l hl0 D I γ el P276992 F333694 q276994 q333659 p276996 hT333695 htq276994 ht333662 (gB_w bp276996' (by decide) (by decide))) dr_cX17_graph_281 ⟨wr_10_174, wr_1_14, wr_10_177, by decide, rfl, (Nat.le_of_ble_eq_true rfl), (Nat.le_of_ble_eq_true rfl)⟩ wr_10_176 wr_p_96 hm333630 he333706 rfl (show 0 + 0 ≤ 0 by first | omega | decide) (show 0 + 0 ≤ 0 by first | omega | decide) (Nat.le_of_ble_eq_true rfl) (fun r333990 w333991 dc333987 ds333988 hp333989 => ?_) (fun _ _ _ _ _ z => z.elim)
                          obtain ⟨F333995, rfl, rfl, hT333996, hs333997, hdc, hds, x333992, x333993, ht333994⟩ := hp333989
                          have he333998 : F333995 q276995 = .inr (18, [.ref q331154, .ref q331155, .int p331156, .int p331157]) := (hs333997 q276995 (rT0 htq276995 (by decide)) (rT1 htq276995 (by decide)) (rT2 htq276995 (by decide))).trans he333697
                          have he333999 : F333995 q331154 = .inr (4, [.int p331801, .ref q331803, .int p331802]) := (hs333997 q331154 (rT0 ht331158 (by decide)) (rT1 ht331158 (by decide)) (rT2 ht331158 (by decide))).trans he333698
                          have he334000 : F333995 q331803 = .inl (I (.object "java/lang/Object"), n331817, .inr (.inr (.inr (.inr f331818)))) := (hs333997 q331803 (rT0 r331809 (by decide)) (rT1 r331809 (by decide)) (rT2 r331809 (by decide))).trans he333699
                          have he334001 : F333995 q331820 = .inr (17, [.ref q331830, .ref q331831, .int p331832, .int p331833]) := (hs333997 q331820 (rT0 ht331826 (by decide)) (rT1 ht331826 (by decide)) (rT2 ht331826 (by decide))).trans he333700
                          have he334002 : F333995 q331830 = .inr (4, [.int p333640, .ref q333642, .int p333641]) := (hs333997 q331830 (rT0 ht331834 (by decide)) (rT1 ht331834 (by decide)) (rT2 ht331834 (by decide))).trans he333701
                          have he334003 : F333995 q333642 = .inl (I (.object "java/lang/Object"), n333656, .inr (.inr (.inr (.inr f333657)))) := (hs333997 q333642 (rT0 r333648 (by decide)) (rT1 r333648 (by decide)) (rT2 r333648 (by decide))).trans he333702
                          have he334004 : F333995 q333659 = .inr (20, [.int p333674, .int p333675, .int p333676, .int p333677, .int p333678, .int p333679, .int p333680]) := (hs333997 q333659 (rT0 ht333662 (by decide)) (rT1 ht333662 (by decide)) (rT2 ht333662 (by decide))).trans he333703
                          have hs334005 : rStr γ [] F276993 F333995 := rStr_tr hs333704 hs333997
                          have kp334006 : F333995 q276994 = F276993 q276994 := (x333992).trans kp333705
                          have kp334007 : F333995 (γ 9 3) = F333694 (γ 9 3) := x333993
                          have he334008 : F333995 q276994 = .inr (22, [.ref (γ 9 0), .ref (γ 9 1), .ref (γ 9 2), .ref (γ 9 3), .ref (γ 9 4), .ref (γ 9 5), .ref (γ 9 6), .ref (γ 9 7), .ref (γ 9 8), .int p277003, .int p277004, .int p277005, .int p277006, .int p277007, .int p277008, .ref (γ 9 15), .ref (γ 9 16), .ref (γ 9 17), .ref (γ 9 18), .ref (γ 9 19), .ref (γ 9 20), .ref (γ 9 21), .ref (γ 9 22), .int p277009, .int p277010, .int p277011, .int p277012, .int p277013, .ref q277001, .ref (γ 9 29), .int p277014, .ref (γ 9 31), .int p277015, .int p277016, .int p277017, .ref q277002]) := (x333992).trans he333706
                          change G _ _ _ _ _ _ _ _ _ _ _
                          refine G_widen (cs' := 0) (sl' := 0) (by omega) (by omega) ?_
                          obtain ⟨z334009, hz334009⟩ : ∃ z : Int32, z = g333614 + Int32.ofInt (-1) := ⟨_, rfl⟩
                          have ez334009 : z334009.toInt = g333614.toInt + (-1) := gI_inc hz334009 (by decide) bg333614' (by decide) (by decide)
                          have bz334009 : gB z334009 (-1) 999998 := ⟨by omega, by omega⟩
                          refine G_iinc (L' := [(5, .int z334009), (8, .int (-1)), (7, .int o333719), (6, .ref q333659), (4, .ref q331820), (3, .int g331141), (0, .ref q276994), (1, .ref q276995), (2, .int p276996)]) z334009 3 dr_cX17_graph_284 rfl hz334009.symm (Nat.le_of_ble_eq_true rfl) rfl ?_
                          refine G_goto 109 dr_cX17_graph_287 (by decide +kernel) ?_
                          refine G_lv (L' := [(5, .int z334009), (4, .ref q331820), (3, .int g331141), (0, .ref q276994), (1, .ref q276995), (2, .int p276996)]) [0, 4, 5, 6, 7, 8] rfl ?_
                          exact ih109_333620 F333995 z334009 (gB_w bz334009 (by decide) (by decide)) hT333996 hs334005 (by omega) (fun h0 => by have z := gr333710 h0; rw [← kp334007] at z; rw [show ((g333614.toInt : Int).toNat : Nat) = (z334009.toInt + 1 : Int).toNat by omega] at z; exact z) kp334006 (fun k e1 ht => kt109_333621 k e1 (fun R c1 c2 c3 c4 c5 c6 c7 c8 c9 c10 c11 => c4 F333615 g333614 q331830 q333659 p333641 F333694 p333674 p333675 p333678 o333719 F333995 z334009 k e1 bg333614 hT333616 hs333617 x333618 x333619 x333620 r333635 fq333636 hx333660 fq333664 ht333670 hT333695 hs333696 x333691 x333692 ht333693 fq333711 fq333712 fq333713 bo333719 ht333720 r333982 r333984 r333986 hT333996 hs333997 x333992 x333993 ht333994 ez334009 (ht R c1 c2 c3 c4 c5 c6 c7 c8 c9 c10 c11))) (mz_dn ez334009 (Int.le_trans (by decide) bg333614'.1) hm109_333620)
                        · have r334010 : 0 ≤ o333719.toInt := gj_nlt hc333985 (show Int32.toInt 0 = 0 by decide)
                          have bo333719' : gB o333719 0 1999 := ⟨by omega, by omega⟩
                          refine G_iload 0 dr_cX17_graph_180 rfl ?_
                          refine G_if_lt 204 dr_cX17_graph_182 (by decide +kernel) (fun _ => ?_) (fun hc => absurd hc (by decide))
                          refine G_iconst 0 dr_cX17_graph_204 (by decide +kernel) ?_
                          refine G_istore (L' := [(9, .int 0), (8, .int (-1)), (7, .int o333719), (6, .ref q333659), (5, .int g333614), (4, .ref q331820), (3, .int g331141), (0, .ref q276994), (1, .ref q276995), (2, .int p276996)]) dr_cX17_graph_205 (Nat.le_of_ble_eq_true rfl) rfl ?_
                          refine G_iconst 0 dr_cX17_graph_207 (by decide +kernel) ?_
                          refine G_istore (L' := [(10, .int 0), (9, .int 0), (8, .int (-1)), (7, .int o333719), (6, .ref q333659), (5, .int g333614), (4, .ref q331820), (3, .int g331141), (0, .ref q276994), (1, .ref q276995), (2, .int p276996)]) dr_cX17_graph_208 (Nat.le_of_ble_eq_true rfl) rfl ?_
                          have hlp210_334129 : ∀ (n210_334129 : Nat) (F334125 : Nat → va_E) (g334124 : Int32), gB g334124 0 32 → RS D I P276992 F334125 γ el → rStr γ [] F276993 F334125 → (gIp (p276996.toInt = 0) (rGr γ el F276993 q276995 (γ 6 (γ 1 q276995)) (cB (F334125 (γ 9 3))) (vB (g331141.toInt : Int).toNat (g333614.toInt : Int).toNat))) → (F334125 q276994 = F276993 q276994) → (∀ (k : Nat) (e1 : Nat → va_E), tl_RModel_graph_210_2 D I γ el P276992 F276993 p276996 q276995 g331141 g333614 q276994 o333719 F334125 g334124 k e1 → tl_RModel_graph_210_2 D I γ el P276992 F276993 p276996 q276995 g331141 g333614 q276994 o333719 F333694 (0 : Int32) k e1) → ((33 : Int) - g334124.toInt).toNat < n210_334129 → G (gV D I) l (gRm 5 111 0 0) (gMA (gV D I) (pt_276998_SpillForgeModel_graph D I γ el P276992 F276993 q276994 q276995 p276996) gNA 0 0) ky_276998_SpillForgeModel_graph 210 [(10, .int g334124), (9, .int 0), (8, .int (-1)), (7, .int o333719), (6, .ref q333659), (5, .int g333614), (4, .ref q331820), (3, .int g331141), (0, .ref q276994), (1, .ref q276995), (2, .int p276996)] [] (va_pl P276992 F334125) 0 0 := by
                            intro n210_334129
                            induction n210_334129 with
                            | zero => intro F334125 g334124 bg334124 hT334126 hs334127 x334128 x334129 kt210_334130 hm210_334129; exact absurd hm210_334129 (Nat.not_lt_zero _)
                            | succ n210_334129 ih210_334129 =>
                              intro F334125 g334124 bg334124 hT334126 hs334127 x334128 x334129 kt210_334130 hm210_334129
                              have hs334131 : rStr γ [] F333694 F334125 := fun b h0 hb hw => (hs334127 b h0 hb hw).trans (hs333704 b h0 hb hw).symm
                              have he334132 : F334125 q276995 = .inr (18, [.ref q331154, .ref q331155, .int p331156, .int p331157]) := (hs334131 q276995 (rT0 htq276995 (by decide)) (rT1 htq276995 (by decide)) (rT2 htq276995 (by decide))).trans he333697
                              have he334133 : F334125 q331154 = .inr (4, [.int p331801, .ref q331803, .int p331802]) := (hs334131 q331154 (rT0 ht331158 (by decide)) (rT1 ht331158 (by decide)) (rT2 ht331158 (by decide))).trans he333698
                              have he334134 : F334125 q331803 = .inl (I (.object "java/lang/Object"), n331817, .inr (.inr (.inr (.inr f331818)))) := (hs334131 q331803 (rT0 r331809 (by decide)) (rT1 r331809 (by decide)) (rT2 r331809 (by decide))).trans he333699
                              have he334135 : F334125 q331820 = .inr (17, [.ref q331830, .ref q331831, .int p331832, .int p331833]) := (hs334131 q331820 (rT0 ht331826 (by decide)) (rT1 ht331826 (by decide)) (rT2 ht331826 (by decide))).trans he333700
                              have he334136 : F334125 q331830 = .inr (4, [.int p333640, .ref q333642, .int p333641]) := (hs334131 q331830 (rT0 ht331834 (by decide)) (rT1 ht331834 (by decide)) (rT2 ht331834 (by decide))).trans he333701
                              have he334137 : F334125 q333642 = .inl (I (.object "java/lang/Object"), n333656, .inr (.inr (.inr (.inr f333657)))) := (hs334131 q333642 (rT0 r333648 (by decide)) (rT1 r333648 (by decide)) (rT2 r333648 (by decide))).trans he333702
                              have he334138 : F334125 q333659 = .inr (20, [.int p333674, .int p333675, .int p333676, .int p333677, .int p333678, .int p333679, .int p333680]) := (hs334131 q333659 (rT0 ht333662 (by decide)) (rT1 ht333662 (by decide)) (rT2 ht333662 (by decide))).trans he333703
                              have hs334139 : rStr γ [] F276993 F334125 := rStr_tr hs333704 hs334131
                              have he334140 : F334125 q276994 = .inr (22, [.ref (γ 9 0), .ref (γ 9 1), .ref (γ 9 2), .ref (γ 9 3), .ref (γ 9 4), .ref (γ 9 5), .ref (γ 9 6), .ref (γ 9 7), .ref (γ 9 8), .int p277003, .int p277004, .int p277005, .int p277006, .int p277007, .int p277008, .ref (γ 9 15), .ref (γ 9 16), .ref (γ 9 17), .ref (γ 9 18), .ref (γ 9 19), .ref (γ 9 20), .ref (γ 9 21), .ref (γ 9 22), .int p277009, .int p277010, .int p277011, .int p277012, .int p277013, .ref q277001, .ref (γ 9 29), .int p277014, .ref (γ 9 31), .int p277015, .int p277016, .int p277017, .ref q277002]) := x334129.trans he277000
                              have hm334141 : q276994 ∈ P276992 := RS_m hT334126 htq276994 (by decide)
                              refine G_iload 0 dr_cX17_graph_210 rfl ?_
                              refine G_bipush 32 dr_cX17_graph_212 (by decide +kernel) ?_
                              refine G_icmp_ge 243 dr_cX17_graph_214 (by decide +kernel) (fun hc334142 => ?_) (fun hc334142 => ?_)
                              · have r334143 : 32 ≤ g334124.toInt := gj_leL hc334142 (show Int32.toInt 32 = 32 by decide)
                                have bg334124' : gB g334124 32 32 := ⟨by omega, by omega⟩
                                have hx334144 : tl_RModel_graph_210_2 D I γ el P276992 F276993 p276996 q276995 g331141 g333614 q276994 o333719 F333694 (0 : Int32) 243 F334125 := kt210_334130 243 F334125 (fun R c1 c2 => c1 F334125 g334124 bg334124 hT334126 hs334127 x334128 x334129 r334143)
                                refine G_iload 2 dr_cX17_graph_243 rfl ?_
                                refine G_if_lt 265 dr_cX17_graph_245 (by decide +kernel) (fun _ => ?_) (fun hc => absurd hc (by decide))
                                refine G_aload_n 8 dr_cX17_graph_265 rfl ?_
                                have fq334145 : fR (F334125 q276994) 1 = (γ 9 1) := by rw [he334140]; rfl
                                refine Gp_get 1 hm334141 he334140 dr_cX17_graph_266 (gk_X17 D I) (Nat.le_of_ble_eq_true rfl) wr_7_75 rfl ?_
                                refine G_iload 3 dr_cX17_graph_269 rfl ?_
                                have hm334146 : (γ 9 1) ∈ P276992 := RS_m hT334126 ht277021 (by decide)
                                obtain ⟨f334148, he334147, hg334149⟩ := show rk_13 I γ (F334125 (γ 9 1)) from RS_o hT334126 ht277021
                                obtain ⟨q334150, hx334152⟩ : ∃ x, x = γ 11 o333719.toInt.toNat := ⟨_, rfl⟩
                                have ht334151 : rKd γ q334150 36 := by rw [hx334152]; exact (hg334149 _ (show o333719.toInt.toNat < 2000 by omega)).2.1
                                refine Gp_aald 5 hm334146 he334147 dr_cX17_graph_271 rfl rfl (gB_in bo333719' (by decide) (by decide)) ?_
                                rw [show f334148 o333719.toNatClampNeg = some q334150 from (hg334149 _ (show o333719.toInt.toNat < 2000 by omega)).1.trans (by rw [hx334152])]
                                change G _ _ _ _ _ _ _ (.ref q334150 :: _) _ _ _
                                refine G_iload 3 dr_cX17_graph_272 rfl ?_
                                have hm334153 : q334150 ∈ P276992 := RS_m hT334126 ht334151 (by decide)
                                obtain ⟨f334155, he334154, wf334155⟩ := show rk_36 I (F334125 q334150) from RS_o hT334126 ht334151
                                refine Gw_callS (As := [.ref q334150, .int o333719]) (gV_ok D I) (cp_1880_SpillForgeModel_clear l hl0 D I P276992 F334125 q334150 o333719 f334155 hm334153 he334154 bo333719' wf334155) dr_cX17_graph_274 ⟨wr_10_185, wr_1_14, wr_10_187, by decide, rfl, (Nat.le_of_ble_eq_true rfl), (Nat.le_of_ble_eq_true rfl)⟩ wr_10_186 (show 0 + 0 ≤ 0 by first | omega | decide) (show 0 + 0 ≤ 0 by first | omega | decide) (Nat.le_of_ble_eq_true rfl) (fun r334159 w334160 dc334156 ds334157 hp334158 => ?_) (fun _ _ _ _ _ z => z.elim)
                                obtain ⟨F334164, f334161, rfl, rfl, hfr334166, he334167, hdc, hds, x334162, ht334163⟩ := hp334158
                                have he334168 : F334164 q276995 = .inr (18, [.ref q331154, .ref q331155, .int p331156, .int p331157]) := (hfr334166 q276995 hm331152 (nm_c (rn_oa he334132 he334154) nm_n)).trans he334132
                                have he334169 : F334164 q331154 = .inr (4, [.int p331801, .ref q331803, .int p331802]) := (hfr334166 q331154 hm331799 (nm_c (rn_oa he334133 he334154) nm_n)).trans he334133
                                have he334170 : F334164 q331803 = .inl (I (.object "java/lang/Object"), n331817, .inr (.inr (.inr (.inr f331818)))) := (hfr334166 q331803 hm331819 (nm_c (rn_ref_long he334134 he334154) nm_n)).trans he334134
                                have he334171 : F334164 q331820 = .inr (17, [.ref q331830, .ref q331831, .int p331832, .int p331833]) := (hfr334166 q331820 hm331828 (nm_c (rn_oa he334135 he334154) nm_n)).trans he334135
                                have he334172 : F334164 q331830 = .inr (4, [.int p333640, .ref q333642, .int p333641]) := (hfr334166 q331830 hm333638 (nm_c (rn_oa he334136 he334154) nm_n)).trans he334136
                                have he334173 : F334164 q333642 = .inl (I (.object "java/lang/Object"), n333656, .inr (.inr (.inr (.inr f333657)))) := (hfr334166 q333642 hm333658 (nm_c (rn_ref_long he334137 he334154) nm_n)).trans he334137
                                have he334174 : F334164 q333659 = .inr (20, [.int p333674, .int p333675, .int p333676, .int p333677, .int p333678, .int p333679, .int p333680]) := (hfr334166 q333659 hm333672 (nm_c (rn_oa he334138 he334154) nm_n)).trans he334138
                                have he334175 : F334164 q276994 = .inr (22, [.ref (γ 9 0), .ref (γ 9 1), .ref (γ 9 2), .ref (γ 9 3), .ref (γ 9 4), .ref (γ 9 5), .ref (γ 9 6), .ref (γ 9 7), .ref (γ 9 8), .int p277003, .int p277004, .int p277005, .int p277006, .int p277007, .int p277008, .ref (γ 9 15), .ref (γ 9 16), .ref (γ 9 17), .ref (γ 9 18), .ref (γ 9 19), .ref (γ 9 20), .ref (γ 9 21), .ref (γ 9 22), .int p277009, .int p277010, .int p277011, .int p277012, .int p277013, .ref q277001, .ref (γ 9 29), .int p277014, .ref (γ 9 31), .int p277015, .int p277016, .int p277017, .ref q277002]) := (hfr334166 q276994 hm334141 (nm_c (rn_oa he334140 he334154) nm_n)).trans he334140
                                have he334176 : F334164 (γ 9 1) = .inl (I (.array .long), 2000, .inr (.inr (.inr (.inr f334148)))) := (hfr334166 (γ 9 1) hm334146 (nm_c (rn_ref_long he334147 he334154) nm_n)).trans he334147
                                have hfr334177 : rFr [q334150] P276992 F334125 F334164 := rFr_call (rSub_rf (P := P276992)) (rFr_rf (W := []) (P := P276992) (F := F334125)) hfr334166 (fun b hb hn => ⟨nm_n, (nm_c (fun e => hn (e ▸ List.mem_cons_self)) nm_n)⟩)
                                change G _ _ _ _ _ _ _ _ _ _ _
                                refine G_widen (cs' := 0) (sl' := 0) (by omega) (by omega) ?_
                                have hT334178 : RS D I P276992 F334164 γ el := RS_fr hT334126 hfr334177 ht334151 (by decide) ⟨f334161, he334167, x334162⟩
                                have hs334179 : rStr γ [] F276993 F334164 := rStr_fr hT334126 hs334127 hfr334177 ht334151 (by decide)
                                have kp334180 : F334164 q276994 = F276993 q276994 := (hfr334177 q276994 (RS_m hT334126 htq276994 (by decide)) (nm_c (rn_ty htq276994 ht334151 (by decide)) nm_n)).trans x334129
                                have kp334181 : F334164 (γ 9 3) = F334125 (γ 9 3) := hfr334177 (γ 9 3) (RS_m hT334126 ht277023 (by decide)) (nm_c (rn_ty ht277023 ht334151 (by decide)) nm_n)
                                refine G_aload_n 8 dr_cX17_graph_277 rfl ?_
                                refine G_aload 4 dr_cX17_graph_278 rfl ?_
                                refine G_iload_n 10 dr_cX17_graph_280 rfl ?_
                                refine Gw_callV (As := [.ref q333659, .int p276996]) (gV_ok D I) (ct_283829_SpillForgeModel_back l hl0 D I γ el P276992 F334164 q276994 q333659 p276996 hT334178 htq276994 ht333662 (gB_w bp276996' (by decide) (by decide))) dr_cX17_graph_281 ⟨wr_10_174, wr_1_14, wr_10_177, by decide, rfl, (Nat.le_of_ble_eq_true rfl), (Nat.le_of_ble_eq_true rfl)⟩ wr_10_176 wr_p_96 hm334141 he334175 rfl (show 0 + 0 ≤ 0 by first | omega | decide) (show 0 + 0 ≤ 0 by first | omega | decide) (Nat.le_of_ble_eq_true rfl) (fun r334185 w334186 dc334182 ds334183 hp334184 => ?_) (fun _ _ _ _ _ z => z.elim)
                                obtain ⟨F334190, rfl, rfl, hT334191, hs334192, hdc, hds, x334187, x334188, ht334189⟩ := hp334184
                                have he334193 : F334190 q276995 = .inr (18, [.ref q331154, .ref q331155, .int p331156, .int p331157]) := (hs334192 q276995 (rT0 htq276995 (by decide)) (rT1 htq276995 (by decide)) (rT2 htq276995 (by decide))).trans he334168
                                have he334194 : F334190 q331154 = .inr (4, [.int p331801, .ref q331803, .int p331802]) := (hs334192 q331154 (rT0 ht331158 (by decide)) (rT1 ht331158 (by decide)) (rT2 ht331158 (by decide))).trans he334169
                                have he334195 : F334190 q331803 = .inl (I (.object "java/lang/Object"), n331817, .inr (.inr (.inr (.inr f331818)))) := (hs334192 q331803 (rT0 r331809 (by decide)) (rT1 r331809 (by decide)) (rT2 r331809 (by decide))).trans he334170
                                have he334196 : F334190 q331820 = .inr (17, [.ref q331830, .ref q331831, .int p331832, .int p331833]) := (hs334192 q331820 (rT0 ht331826 (by decide)) (rT1 ht331826 (by decide)) (rT2 ht331826 (by decide))).trans he334171
                                have he334197 : F334190 q331830 = .inr (4, [.int p333640, .ref q333642, .int p333641]) := (hs334192 q331830 (rT0 ht331834 (by decide)) (rT1 ht331834 (by decide)) (rT2 ht331834 (by decide))).trans he334172
                                have he334198 : F334190 q333642 = .inl (I (.object "java/lang/Object"), n333656, .inr (.inr (.inr (.inr f333657)))) := (hs334192 q333642 (rT0 r333648 (by decide)) (rT1 r333648 (by decide)) (rT2 r333648 (by decide))).trans he334173
                                have he334199 : F334190 q333659 = .inr (20, [.int p333674, .int p333675, .int p333676, .int p333677, .int p333678, .int p333679, .int p333680]) := (hs334192 q333659 (rT0 ht333662 (by decide)) (rT1 ht333662 (by decide)) (rT2 ht333662 (by decide))).trans he334174
                                have hs334200 : rStr γ [] F276993 F334190 := rStr_tr hs334179 hs334192
                                have kp334201 : F334190 q276994 = F276993 q276994 := (x334187).trans kp334180
                                have kp334202 : F334190 (γ 9 3) = F334125 (γ 9 3) := (x334188).trans kp334181
                                have he334203 : F334190 q276994 = .inr (22, [.ref (γ 9 0), .ref (γ 9 1), .ref (γ 9 2), .ref (γ 9 3), .ref (γ 9 4), .ref (γ 9 5), .ref (γ 9 6), .ref (γ 9 7), .ref (γ 9 8), .int p277003, .int p277004, .int p277005, .int p277006, .int p277007, .int p277008, .ref (γ 9 15), .ref (γ 9 16), .ref (γ 9 17), .ref (γ 9 18), .ref (γ 9 19), .ref (γ 9 20), .ref (γ 9 21), .ref (γ 9 22), .int p277009, .int p277010, .int p277011, .int p277012, .int p277013, .ref q277001, .ref (γ 9 29), .int p277014, .ref (γ 9 31), .int p277015, .int p277016, .int p277017, .ref q277002]) := (x334187).trans he334175
                                change G _ _ _ _ _ _ _ _ _ _ _
                                refine G_widen (cs' := 0) (sl' := 0) (by omega) (by omega) ?_
                                obtain ⟨z334204, hz334204⟩ : ∃ z : Int32, z = g333614 + Int32.ofInt (-1) := ⟨_, rfl⟩
                                have ez334204 : z334204.toInt = g333614.toInt + (-1) := gI_inc hz334204 (by decide) bg333614' (by decide) (by decide)
                                have bz334204 : gB z334204 (-1) 999998 := ⟨by omega, by omega⟩
                                refine G_iinc (L' := [(5, .int z334204), (10, .int g334124), (9, .int 0), (8, .int (-1)), (7, .int o333719), (6, .ref q333659), (4, .ref q331820), (3, .int g331141), (0, .ref q276994), (1, .ref q276995), (2, .int p276996)]) z334204 5 dr_cX17_graph_284 rfl hz334204.symm (Nat.le_of_ble_eq_true rfl) rfl ?_
                                refine G_goto 109 dr_cX17_graph_287 (by decide +kernel) ?_
                                refine G_lv (L' := [(5, .int z334204), (4, .ref q331820), (3, .int g331141), (0, .ref q276994), (1, .ref q276995), (2, .int p276996)]) [0, 6, 7, 8, 9, 10] rfl ?_
                                exact ih109_333620 F334190 z334204 (gB_w bz334204 (by decide) (by decide)) hT334191 hs334200 (by omega) (fun h0 => by have z := x334128 h0; rw [← kp334202] at z; rw [show ((g333614.toInt : Int).toNat : Nat) = (z334204.toInt + 1 : Int).toNat by omega] at z; exact z) kp334201 (fun k e1 ht => kt109_333621 k e1 (fun R c1 c2 c3 c4 c5 c6 c7 c8 c9 c10 c11 => c5 F333615 g333614 q331830 q333659 p333641 F333694 p333674 p333675 p333678 o333719 F334125 q334150 f334155 f334161 F334164 F334190 z334204 k e1 bg333614 hT333616 hs333617 x333618 x333619 x333620 r333635 fq333636 hx333660 fq333664 ht333670 hT333695 hs333696 x333691 x333692 ht333693 fq333711 fq333712 fq333713 bo333719 ht333720 r333982 r333984 r334010 hx334144 fq334145 hx334152 he334154 ht334163 hfr334177 he334167 hT334178 hT334191 hs334192 x334187 x334188 ht334189 ez334204 (ht R c1 c2 c3 c4 c5 c6 c7 c8 c9 c10 c11))) (mz_dn ez334204 (Int.le_trans (by decide) bg333614'.1) hm109_333620)
                              · have r334205 : g334124.toInt < 32 := gj_nleL hc334142 (show Int32.toInt 32 = 32 by decide)
                                have bg334124' : gB g334124 0 31 := ⟨by omega, by omega⟩
                                refine G_aload_n 8 dr_cX17_graph_217 rfl ?_
                                have fq334206 : fR (F334125 q276994) 1 = (γ 9 1) := by rw [he334140]; rfl
                                refine Gp_get 1 hm334141 he334140 dr_cX17_graph_218 (gk_X17 D I) (Nat.le_of_ble_eq_true rfl) wr_7_75 rfl ?_
                                refine G_iload 3 dr_cX17_graph_221 rfl ?_
                                have hm334207 : (γ 9 1) ∈ P276992 := RS_m hT334126 ht277021 (by decide)
                                obtain ⟨f334209, he334208, hg334210⟩ := show rk_13 I γ (F334125 (γ 9 1)) from RS_o hT334126 ht277021
                                obtain ⟨q334211, hx334213⟩ : ∃ x, x = γ 11 o333719.toInt.toNat := ⟨_, rfl⟩
                                have ht334212 : rKd γ q334211 36 := by rw [hx334213]; exact (hg334210 _ (show o333719.toInt.toNat < 2000 by omega)).2.1
                                refine Gp_aald 5 hm334207 he334208 dr_cX17_graph_223 rfl rfl (gB_in bo333719' (by decide) (by decide)) ?_
                                rw [show f334209 o333719.toNatClampNeg = some q334211 from (hg334210 _ (show o333719.toInt.toNat < 2000 by omega)).1.trans (by rw [hx334213])]
                                change G _ _ _ _ _ _ _ (.ref q334211 :: _) _ _ _
                                refine G_iload 0 dr_cX17_graph_224 rfl ?_
                                refine G_dup2_11 dr_cX17_graph_226 rfl rfl ?_
                                have hm334214 : q334211 ∈ P276992 := RS_m hT334126 ht334212 (by decide)
                                obtain ⟨f334216, he334215, wf334216⟩ := show rk_36 I (F334125 q334211) from RS_o hT334126 ht334212
                                refine Gp_lald 2 hm334214 he334215 dr_cX17_graph_227 rfl (gB_in bg334124' (by decide) (by decide)) (G_namL fun u334217 hu334217 => ?_)
                                have qu334217 : lb_Q u334217 (2000 - 64 * g334124.toInt) := lb_Wld hu334217 wf334216 (by omega) (by omega) (lb_Mod0 (by omega) (by omega))
                                refine G_aload_n 8 dr_cX17_graph_228 rfl ?_
                                have fq334218 : fR (F334125 q276994) 2 = (γ 9 2) := by rw [he334140]; rfl
                                refine Gp_get 2 hm334141 he334140 dr_cX17_graph_229 (gk_X17 D I) (Nat.le_of_ble_eq_true rfl) wr_7_76 rfl ?_
                                refine G_iload 0 dr_cX17_graph_232 rfl ?_
                                have hm334219 : (γ 9 2) ∈ P276992 := RS_m hT334126 ht277022 (by decide)
                                obtain ⟨f334221, he334220, wf334221⟩ := show rk_35 I (F334125 (γ 9 2)) from RS_o hT334126 ht277022
                                refine Gp_lald 2 hm334219 he334220 dr_cX17_graph_234 rfl (gB_in bg334124' (by decide) (by decide)) (G_namL fun u334222 hu334222 => ?_)
                                have qu334222 : lb_Q u334222 (2000 - 64 * g334124.toInt) := lb_Wld hu334222 wf334221 (by omega) (by omega) (lb_Mod0 (by omega) (by omega))
                                refine G_lor dr_cX17_graph_235 (G_namL fun u334223 hu334223 => ?_)
                                have qu334223 : lb_Q u334223 (2000 - 64 * g334124.toInt) := lb_Qor hu334223 qu334217 qu334222
                                refine Gp_last 2 hm334214 he334215 dr_cX17_graph_236 rfl (gB_in bg334124' (by decide) (by decide)) (fun F334224 e334225 n334226 => ?_)
                                obtain ⟨f334227, hf334227⟩ : ∃ z, z = vp_updL f334216 g334124.toNatClampNeg u334223 := ⟨_, rfl⟩
                                rw [← hf334227] at e334225
                                have he334228 : F334224 q276995 = .inr (18, [.ref q331154, .ref q331155, .int p331156, .int p331157]) := (n334226 q276995 (rn_oa he334132 he334215)).trans he334132
                                have he334229 : F334224 q331154 = .inr (4, [.int p331801, .ref q331803, .int p331802]) := (n334226 q331154 (rn_oa he334133 he334215)).trans he334133
                                have he334230 : F334224 q331803 = .inl (I (.object "java/lang/Object"), n331817, .inr (.inr (.inr (.inr f331818)))) := (n334226 q331803 (rn_ref_long he334134 he334215)).trans he334134
                                have he334231 : F334224 q331820 = .inr (17, [.ref q331830, .ref q331831, .int p331832, .int p331833]) := (n334226 q331820 (rn_oa he334135 he334215)).trans he334135
                                have he334232 : F334224 q331830 = .inr (4, [.int p333640, .ref q333642, .int p333641]) := (n334226 q331830 (rn_oa he334136 he334215)).trans he334136
                                have he334233 : F334224 q333642 = .inl (I (.object "java/lang/Object"), n333656, .inr (.inr (.inr (.inr f333657)))) := (n334226 q333642 (rn_ref_long he334137 he334215)).trans he334137
                                have he334234 : F334224 q333659 = .inr (20, [.int p333674, .int p333675, .int p333676, .int p333677, .int p333678, .int p333679, .int p333680]) := (n334226 q333659 (rn_oa he334138 he334215)).trans he334138
                                have he334235 : F334224 q276994 = .inr (22, [.ref (γ 9 0), .ref (γ 9 1), .ref (γ 9 2), .ref (γ 9 3), .ref (γ 9 4), .ref (γ 9 5), .ref (γ 9 6), .ref (γ 9 7), .ref (γ 9 8), .int p277003, .int p277004, .int p277005, .int p277006, .int p277007, .int p277008, .ref (γ 9 15), .ref (γ 9 16), .ref (γ 9 17), .ref (γ 9 18), .ref (γ 9 19), .ref (γ 9 20), .ref (γ 9 21), .ref (γ 9 22), .int p277009, .int p277010, .int p277011, .int p277012, .int p277013, .ref q277001, .ref (γ 9 29), .int p277014, .ref (γ 9 31), .int p277015, .int p277016, .int p277017, .ref q277002]) := (n334226 q276994 (rn_oa he334140 he334215)).trans he334140
                                have he334236 : F334224 (γ 9 1) = .inl (I (.array .long), 2000, .inr (.inr (.inr (.inr f334209)))) := (n334226 (γ 9 1) (rn_ref_long he334208 he334215)).trans he334208
                                have he334237 : F334224 (γ 9 2) = .inl (I .long, 32, .inr (.inl f334221)) := (n334226 (γ 9 2) (rn_ty ht277022 ht334212 (by decide))).trans he334220
                                have he334238 : F334224 q334211 = .inl (I .long, 32, .inr (.inl f334227)) := e334225
                                have hs334239 : rStr γ [] F276993 F334224 := rStr_put hs334127 n334226 ht334212 (by decide)
                                have kp334240 : F334224 q276994 = F276993 q276994 := (n334226 q276994 (rn_ty htq276994 ht334212 (by decide))).trans x334129
                                have kp334241 : F334224 (γ 9 3) = F334125 (γ 9 3) := n334226 (γ 9 3) (rn_ty ht277023 ht334212 (by decide))
                                have wf334227 : lb_W f334227 (32) (32) (2000) := lb_Wst hf334227 wf334216 (by omega) (lb_Mod0 (by omega) (by omega)) qu334223
                                obtain ⟨z334242, hz334242⟩ : ∃ z : Int32, z = g334124 + Int32.ofInt 1 := ⟨_, rfl⟩
                                have ez334242 : z334242.toInt = g334124.toInt + 1 := gI_inc hz334242 (by decide) bg334124' (by decide) (by decide)
                                have bz334242 : gB z334242 1 32 := ⟨by omega, by omega⟩
                                refine G_iinc (L' := [(10, .int z334242), (9, .int 0), (8, .int (-1)), (7, .int o333719), (6, .ref q333659), (5, .int g333614), (4, .ref q331820), (3, .int g331141), (0, .ref q276994), (1, .ref q276995), (2, .int p276996)]) z334242 0 dr_cX17_graph_237 rfl hz334242.symm (Nat.le_of_ble_eq_true rfl) rfl ?_
                                refine G_goto 210 dr_cX17_graph_240 (by decide +kernel) ?_
                                have hT334243 : RS D I P276992 F334224 γ el := RS_set hT334126 n334226 ht334212 (by decide) ⟨f334227, he334238, wf334227⟩
                                exact ih210_334129 F334224 z334242 (gB_w bz334242 (by decide) (by decide)) hT334243 hs334239 (by rw [kp334241]; exact x334128) kp334240 (fun k e1 ht => kt210_334130 k e1 (fun R c1 c2 => c2 F334125 g334124 q334211 f334216 u334217 f334221 u334222 u334223 f334227 F334224 z334242 k e1 bg334124 hT334126 hs334127 x334128 x334129 r334205 fq334206 hx334213 he334215 hu334217 fq334218 he334220 hu334222 hu334223 hf334227 n334226 he334238 ez334242 (ht R c1 c2))) (mz_up ez334242 (Int.le_trans bg334124'.2 (by decide)) hm210_334129)
                          exact hlp210_334129 (((33 : Int) - 0).toNat + 1) F333694 0 (gB_w (gBl (show Int32.toInt 0 = 0 by decide)) (by decide) (by decide)) hT333695 hs333704 gr333710 kp333705 (fun k e1 ht => ht) (Nat.lt_succ_self _)
                      · have r334244 : p333674.toInt = 0 := gj_eq hc333983 (show Int32.toInt 0 = 0 by decide)
                        have bp333674' : gB p333674 0 0 := ⟨by omega, by omega⟩
                        refine G_aload 1 dr_cX17_graph_156 rfl ?_
                        have fq334245 : fI (F333694 q333659) 5 = p333679 := by rw [he333703]; rfl
                        refine Gp_get 5 hm333672 he333703 dr_cX17_graph_158 (gk_X15 D I) (Nat.le_of_ble_eq_true rfl) wr_9_197 rfl ?_
                        refine G_if_eq 172 dr_cX17_graph_161 (by decide +kernel) (fun hc334246 => ?_) (fun hc334246 => ?_)
                        · have r334247 : p333679.toInt = 0 := gj_eq hc334246 (show Int32.toInt 0 = 0 by decide)
                          have bp333679' : gB p333679 0 0 := gB_t0 r334247
                          refine G_iconst (-1) dr_cX17_graph_172 (by decide +kernel) ?_
                          refine G_istore (L' := [(8, .int (-1)), (7, .int o333719), (6, .ref q333659), (5, .int g333614), (4, .ref q331820), (3, .int g331141), (0, .ref q276994), (1, .ref q276995), (2, .int p276996)]) dr_cX17_graph_173 (Nat.le_of_ble_eq_true rfl) rfl ?_
                          refine G_iload 1 dr_cX17_graph_175 rfl ?_
                          refine G_if_lt 277 dr_cX17_graph_177 (by decide +kernel) (fun hc334248 => ?_) (fun hc334248 => ?_)
                          · have r334249 : o333719.toInt < 0 := gj_lt hc334248 (show Int32.toInt 0 = 0 by decide)
                            have bo333719' : gB o333719 (-1) (-1) := ⟨by omega, by omega⟩
                            refine G_aload_n 6 dr_cX17_graph_277 rfl ?_
                            refine G_aload 2 dr_cX17_graph_278 rfl ?_
                            refine G_iload_n 8 dr_cX17_graph_280 rfl ?_
                            refine Gw_callV (As := [.ref q333659, .int p276996]) (gV_ok D I) (ct_283829_SpillForgeModel_back l hl0 D I γ el P276992 F333694 q276994 q333659 p276996 hT333695 htq276994 ht333662 (gB_w bp276996' (by decide) (by decide))) dr_cX17_graph_281 ⟨wr_10_174, wr_1_14, wr_10_177, by decide, rfl, (Nat.le_of_ble_eq_true rfl), (Nat.le_of_ble_eq_true rfl)⟩ wr_10_176 wr_p_96 hm333630 he333706 rfl (show 0 + 0 ≤ 0 by first | omega | decide) (show 0 + 0 ≤ 0 by first | omega | decide) (Nat.le_of_ble_eq_true rfl) (fun r334253 w334254 dc334250 ds334251 hp334252 => ?_) (fun _ _ _ _ _ z => z.elim)
                            obtain ⟨F334258, rfl, rfl, hT334259, hs334260, hdc, hds, x334255, x334256, ht334257⟩ := hp334252
                            have he334261 : F334258 q276995 = .inr (18, [.ref q331154, .ref q331155, .int p331156, .int p331157]) := (hs334260 q276995 (rT0 htq276995 (by decide)) (rT1 htq276995 (by decide)) (rT2 htq276995 (by decide))).trans he333697
                            have he334262 : F334258 q331154 = .inr (4, [.int p331801, .ref q331803, .int p331802]) := (hs334260 q331154 (rT0 ht331158 (by decide)) (rT1 ht331158 (by decide)) (rT2 ht331158 (by decide))).trans he333698
                            have he334263 : F334258 q331803 = .inl (I (.object "java/lang/Object"), n331817, .inr (.inr (.inr (.inr f331818)))) := (hs334260 q331803 (rT0 r331809 (by decide)) (rT1 r331809 (by decide)) (rT2 r331809 (by decide))).trans he333699
                            have he334264 : F334258 q331820 = .inr (17, [.ref q331830, .ref q331831, .int p331832, .int p331833]) := (hs334260 q331820 (rT0 ht331826 (by decide)) (rT1 ht331826 (by decide)) (rT2 ht331826 (by decide))).trans he333700
                            have he334265 : F334258 q331830 = .inr (4, [.int p333640, .ref q333642, .int p333641]) := (hs334260 q331830 (rT0 ht331834 (by decide)) (rT1 ht331834 (by decide)) (rT2 ht331834 (by decide))).trans he333701
                            have he334266 : F334258 q333642 = .inl (I (.object "java/lang/Object"), n333656, .inr (.inr (.inr (.inr f333657)))) := (hs334260 q333642 (rT0 r333648 (by decide)) (rT1 r333648 (by decide)) (rT2 r333648 (by decide))).trans he333702
                            have he334267 : F334258 q333659 = .inr (20, [.int p333674, .int p333675, .int p333676, .int p333677, .int p333678, .int p333679, .int p333680]) := (hs334260 q333659 (rT0 ht333662 (by decide)) (rT1 ht333662 (by decide)) (rT2 ht333662 (by decide))).trans he333703
                            have hs334268 : rStr γ [] F276993 F334258 := rStr_tr hs333704 hs334260
                            have kp334269 : F334258 q276994 = F276993 q276994 := (x334255).trans kp333705
                            have kp334270 : F334258 (γ 9 3) = F333694 (γ 9 3) := x334256
                            have he334271 : F334258 q276994 = .inr (22, [.ref (γ 9 0), .ref (γ 9 1), .ref (γ 9 2), .ref (γ 9 3), .ref (γ 9 4), .ref (γ 9 5), .ref (γ 9 6), .ref (γ 9 7), .ref (γ 9 8), .int p277003, .int p277004, .int p277005, .int p277006, .int p277007, .int p277008, .ref (γ 9 15), .ref (γ 9 16), .ref (γ 9 17), .ref (γ 9 18), .ref (γ 9 19), .ref (γ 9 20), .ref (γ 9 21), .ref (γ 9 22), .int p277009, .int p277010, .int p277011, .int p277012, .int p277013, .ref q277001, .ref (γ 9 29), .int p277014, .ref (γ 9 31), .int p277015, .int p277016, .int p277017, .ref q277002]) := (x334255).trans he333706
                            change G _ _ _ _ _ _ _ _ _ _ _
                            refine G_widen (cs' := 0) (sl' := 0) (by omega) (by omega) ?_
                            obtain ⟨z334272, hz334272⟩ : ∃ z : Int32, z = g333614 + Int32.ofInt (-1) := ⟨_, rfl⟩
                            have ez334272 : z334272.toInt = g333614.toInt + (-1) := gI_inc hz334272 (by decide) bg333614' (by decide) (by decide)
                            have bz334272 : gB z334272 (-1) 999998 := ⟨by omega, by omega⟩
                            refine G_iinc (L' := [(5, .int z334272), (8, .int (-1)), (7, .int o333719), (6, .ref q333659), (4, .ref q331820), (3, .int g331141), (0, .ref q276994), (1, .ref q276995), (2, .int p276996)]) z334272 3 dr_cX17_graph_284 rfl hz334272.symm (Nat.le_of_ble_eq_true rfl) rfl ?_
                            refine G_goto 109 dr_cX17_graph_287 (by decide +kernel) ?_
                            refine G_lv (L' := [(5, .int z334272), (4, .ref q331820), (3, .int g331141), (0, .ref q276994), (1, .ref q276995), (2, .int p276996)]) [0, 4, 5, 6, 7, 8] rfl ?_
                            exact ih109_333620 F334258 z334272 (gB_w bz334272 (by decide) (by decide)) hT334259 hs334268 (by omega) (fun h0 => by have z := gr333710 h0; rw [← kp334270] at z; rw [show ((g333614.toInt : Int).toNat : Nat) = (z334272.toInt + 1 : Int).toNat by omega] at z; exact z) kp334269 (fun k e1 ht => kt109_333621 k e1 (fun R c1 c2 c3 c4 c5 c6 c7 c8 c9 c10 c11 => c6 F333615 g333614 q331830 q333659 p333641 F333694 p333674 p333675 p333678 o333719 p333679 F334258 z334272 k e1 bg333614 hT333616 hs333617 x333618 x333619 x333620 r333635 fq333636 hx333660 fq333664 ht333670 hT333695 hs333696 x333691 x333692 ht333693 fq333711 fq333712 fq333713 bo333719 ht333720 r333982 r334244 fq334245 r334247 r334249 hT334259 hs334260 x334255 x334256 ht334257 ez334272 (ht R c1 c2 c3 c4 c5 c6 c7 c8 c9 c10 c11))) (mz_dn ez334272 (Int.le_trans (by decide) bg333614'.1) hm109_333620)
                          · have r334273 : 0 ≤ o333719.toInt := gj_nlt hc334248 (show Int32.toInt 0 = 0 by decide)
                            have bo333719' : gB o333719 0 1999 := ⟨by omega, by omega⟩
                            refine G_iload 0 dr_cX17_graph_180 rfl ?_
                            refine G_if_lt 204 dr_cX17_graph_182 (by decide +kernel) (fun _ => ?_) (fun hc => absurd hc (by decide))
                            refine G_iconst 0 dr_cX17_graph_204 (by decide +kernel) ?_
                            refine G_istore (L' := [(9, .int 0), (8, .int (-1)), (7, .int o333719), (6, .ref q333659), (5, .int g333614), (4, .ref q331820), (3, .int g331141), (0, .ref q276994), (1, .ref q276995), (2, .int p276996)]) dr_cX17_graph_205 (Nat.le_of_ble_eq_true rfl) rfl ?_
                            refine G_iconst 0 dr_cX17_graph_207 (by decide +kernel) ?_
                            refine G_istore (L' := [(10, .int 0), (9, .int 0), (8, .int (-1)), (7, .int o333719), (6, .ref q333659), (5, .int g333614), (4, .ref q331820), (3, .int g331141), (0, .ref q276994), (1, .ref q276995), (2, .int p276996)]) dr_cX17_graph_208 (Nat.le_of_ble_eq_true rfl) rfl ?_
                            have hlp210_334392 : ∀ (n210_334392 : Nat) (F334388 : Nat → va_E) (g334387 : Int32), gB g334387 0 32 → RS D I P276992 F334388 γ el → rStr γ [] F276993 F334388 → (gIp (p276996.toInt = 0) (rGr γ el F276993 q276995 (γ 6 (γ 1 q276995)) (cB (F334388 (γ 9 3))) (vB (g331141.toInt : Int).toNat (g333614.toInt : Int).toNat))) → (F334388 q276994 = F276993 q276994) → (∀ (k : Nat) (e1 : Nat → va_E), tl_RModel_graph_210_3 D I γ el P276992 F276993 p276996 q276995 g331141 g333614 q276994 o333719 F334388 g334387 k e1 → tl_RModel_graph_210_3 D I γ el P276992 F276993 p276996 q276995 g331141 g333614 q276994 o333719 F333694 (0 : Int32) k e1) → ((33 : Int) - g334387.toInt).toNat < n210_334392 → G (gV D I) l (gRm 5 111 0 0) (gMA (gV D I) (pt_276998_SpillForgeModel_graph D I γ el P276992 F276993 q276994 q276995 p276996) gNA 0 0) ky_276998_SpillForgeModel_graph 210 [(10, .int g334387), (9, .int 0), (8, .int (-1)), (7, .int o333719), (6, .ref q333659), (5, .int g333614), (4, .ref q331820), (3, .int g331141), (0, .ref q276994), (1, .ref q276995), (2, .int p276996)] [] (va_pl P276992 F334388) 0 0 := by
                              intro n210_334392
                              induction n210_334392 with
                              | zero => intro F334388 g334387 bg334387 hT334389 hs334390 x334391 x334392 kt210_334393 hm210_334392; exact absurd hm210_334392 (Nat.not_lt_zero _)
                              | succ n210_334392 ih210_334392 =>
                                intro F334388 g334387 bg334387 hT334389 hs334390 x334391 x334392 kt210_334393 hm210_334392
                                have hs334394 : rStr γ [] F333694 F334388 := fun b h0 hb hw => (hs334390 b h0 hb hw).trans (hs333704 b h0 hb hw).symm
                                have he334395 : F334388 q276995 = .inr (18, [.ref q331154, .ref q331155, .int p331156, .int p331157]) := (hs334394 q276995 (rT0 htq276995 (by decide)) (rT1 htq276995 (by decide)) (rT2 htq276995 (by decide))).trans he333697
                                have he334396 : F334388 q331154 = .inr (4, [.int p331801, .ref q331803, .int p331802]) := (hs334394 q331154 (rT0 ht331158 (by decide)) (rT1 ht331158 (by decide)) (rT2 ht331158 (by decide))).trans he333698
                                have he334397 : F334388 q331803 = .inl (I (.object "java/lang/Object"), n331817, .inr (.inr (.inr (.inr f331818)))) := (hs334394 q331803 (rT0 r331809 (by decide)) (rT1 r331809 (by decide)) (rT2 r331809 (by decide))).trans he333699
                                have he334398 : F334388 q331820 = .inr (17, [.ref q331830, .ref q331831, .int p331832, .int p331833]) := (hs334394 q331820 (rT0 ht331826 (by decide)) (rT1 ht331826 (by decide)) (rT2 ht331826 (by decide))).trans he333700
                                have he334399 : F334388 q331830 = .inr (4, [.int p333640, .ref q333642, .int p333641]) := (hs334394 q331830 (rT0 ht331834 (by decide)) (rT1 ht331834 (by decide)) (rT2 ht331834 (by decide))).trans he333701
                                have he334400 : F334388 q333642 = .inl (I (.object "java/lang/Object"), n333656, .inr (.inr (.inr (.inr f333657)))) := (hs334394 q333642 (rT0 r333648 (by decide)) (rT1 r333648 (by decide)) (rT2 r333648 (by decide))).trans he333702
                                have he334401 : F334388 q333659 = .inr (20, [.int p333674, .int p333675, .int p333676, .int p333677, .int p333678, .int p333679, .int p333680]) := (hs334394 q333659 (rT0 ht333662 (by decide)) (rT1 ht333662 (by decide)) (rT2 ht333662 (by decide))).trans he333703
                                have hs334402 : rStr γ [] F276993 F334388 := rStr_tr hs333704 hs334394
                                have he334403 : F334388 q276994 = .inr (22, [.ref (γ 9 0), .ref (γ 9 1), .ref (γ 9 2), .ref (γ 9 3), .ref (γ 9 4), .ref (γ 9 5), .ref (γ 9 6), .ref (γ 9 7), .ref (γ 9 8), .int p277003, .int p277004, .int p277005, .int p277006, .int p277007, .int p277008, .ref (γ 9 15), .ref (γ 9 16), .ref (γ 9 17), .ref (γ 9 18), .ref (γ 9 19), .ref (γ 9 20), .ref (γ 9 21), .ref (γ 9 22), .int p277009, .int p277010, .int p277011, .int p277012, .int p277013, .ref q277001, .ref (γ 9 29), .int p277014, .ref (γ 9 31), .int p277015, .int p277016, .int p277017, .ref q277002]) := x334392.trans he277000
                                have hm334404 : q276994 ∈ P276992 := RS_m hT334389 htq276994 (by decide)
                                refine G_iload 0 dr_cX17_graph_210 rfl ?_
                                refine G_bipush 32 dr_cX17_graph_212 (by decide +kernel) ?_
                                refine G_icmp_ge 243 dr_cX17_graph_214 (by decide +kernel) (fun hc334405 => ?_) (fun hc334405 => ?_)
                                · have r334406 : 32 ≤ g334387.toInt := gj_leL hc334405 (show Int32.toInt 32 = 32 by decide)
                                  have bg334387' : gB g334387 32 32 := ⟨by omega, by omega⟩
                                  have hx334407 : tl_RModel_graph_210_3 D I γ el P276992 F276993 p276996 q276995 g331141 g333614 q276994 o333719 F333694 (0 : Int32) 243 F334388 := kt210_334393 243 F334388 (fun R c1 c2 => c1 F334388 g334387 bg334387 hT334389 hs334390 x334391 x334392 r334406)
                                  refine G_iload 2 dr_cX17_graph_243 rfl ?_
                                  refine G_if_lt 265 dr_cX17_graph_245 (by decide +kernel) (fun _ => ?_) (fun hc => absurd hc (by decide))
                                  refine G_aload_n 8 dr_cX17_graph_265 rfl ?_
                                  have fq334408 : fR (F334388 q276994) 1 = (γ 9 1) := by rw [he334403]; rfl
                                  refine Gp_get 1 hm334404 he334403 dr_cX17_graph_266 (gk_X17 D I) (Nat.le_of_ble_eq_true rfl) wr_7_75 rfl ?_
                                  refine G_iload 3 dr_cX17_graph_269 rfl ?_
                                  have hm334409 : (γ 9 1) ∈ P276992 := RS_m hT334389 ht277021 (by decide)
                                  obtain ⟨f334411, he334410, hg334412⟩ := show rk_13 I γ (F334388 (γ 9 1)) from RS_o hT334389 ht277021
                                  obtain ⟨q334413, hx334415⟩ : ∃ x, x = γ 11 o333719.toInt.toNat := ⟨_, rfl⟩
                                  have ht334414 : rKd γ q334413 36 := by rw [hx334415]; exact (hg334412 _ (show o333719.toInt.toNat < 2000 by omega)).2.1
                                  refine Gp_aald 5 hm334409 he334410 dr_cX17_graph_271 rfl rfl (gB_in bo333719' (by decide) (by decide)) ?_
                                  rw [show f334411 o333719.toNatClampNeg = some q334413 from (hg334412 _ (show o333719.toInt.toNat < 2000 by omega)).1.trans (by rw [hx334415])]
                                  change G _ _ _ _ _ _ _ (.ref q334413 :: _) _ _ _
                                  refine G_iload 3 dr_cX17_graph_272 rfl ?_
                                  have hm334416 : q334413 ∈ P276992 := RS_m hT334389 ht334414 (by decide)
                                  obtain ⟨f334418, he334417, wf334418⟩ := show rk_36 I (F334388 q334413) from RS_o hT334389 ht334414
                                  refine Gw_callS (As := [.ref q334413, .int o333719]) (gV_ok D I) (cp_1880_SpillForgeModel_clear l hl0 D I P276992 F334388 q334413 o333719 f334418 hm334416 he334417 bo333719' wf334418) dr_cX17_graph_274 ⟨wr_10_185, wr_1_14, wr_10_187, by decide, rfl, (Nat.le_of_ble_eq_true rfl), (Nat.le_of_ble_eq_true rfl)⟩ wr_10_186 (show 0 + 0 ≤ 0 by first | omega | decide) (show 0 + 0 ≤ 0 by first | omega | decide) (Nat.le_of_ble_eq_true rfl) (fun r334422 w334423 dc334419 ds334420 hp334421 => ?_) (fun _ _ _ _ _ z => z.elim)
                                  obtain ⟨F334427, f334424, rfl, rfl, hfr334429, he334430, hdc, hds, x334425, ht334426⟩ := hp334421
                                  have he334431 : F334427 q276995 = .inr (18, [.ref q331154, .ref q331155, .int p331156, .int p331157]) := (hfr334429 q276995 hm331152 (nm_c (rn_oa he334395 he334417) nm_n)).trans he334395
                                  have he334432 : F334427 q331154 = .inr (4, [.int p331801, .ref q331803, .int p331802]) := (hfr334429 q331154 hm331799 (nm_c (rn_oa he334396 he334417) nm_n)).trans he334396
                                  have he334433 : F334427 q331803 = .inl (I (.object "java/lang/Object"), n331817, .inr (.inr (.inr (.inr f331818)))) := (hfr334429 q331803 hm331819 (nm_c (rn_ref_long he334397 he334417) nm_n)).trans he334397
                                  have he334434 : F334427 q331820 = .inr (17, [.ref q331830, .ref q331831, .int p331832, .int p331833]) := (hfr334429 q331820 hm331828 (nm_c (rn_oa he334398 he334417) nm_n)).trans he334398
                                  have he334435 : F334427 q331830 = .inr (4, [.int p333640, .ref q333642, .int p333641]) := (hfr334429 q331830 hm333638 (nm_c (rn_oa he334399 he334417) nm_n)).trans he334399
                                  have he334436 : F334427 q333642 = .inl (I (.object "java/lang/Object"), n333656, .inr (.inr (.inr (.inr f333657)))) := (hfr334429 q333642 hm333658 (nm_c (rn_ref_long he334400 he334417) nm_n)).trans he334400
                                  have he334437 : F334427 q333659 = .inr (20, [.int p333674, .int p333675, .int p333676, .int p333677, .int p333678, .int p333679, .int p333680]) := (hfr334429 q333659 hm333672 (nm_c (rn_oa he334401 he334417) nm_n)).trans he334401
                                  have he334438 : F334427 q276994 = .inr (22, [.ref (γ 9 0), .ref (γ 9 1), .ref (γ 9 2), .ref (γ 9 3), .ref (γ 9 4), .ref (γ 9 5), .ref (γ 9 6), .ref (γ 9 7), .ref (γ 9 8), .int p277003, .int p277004, .int p277005, .int p277006, .int p277007, .int p277008, .ref (γ 9 15), .ref (γ 9 16), .ref (γ 9 17), .ref (γ 9 18), .ref (γ 9 19), .ref (γ 9 20), .ref (γ 9 21), .ref (γ 9 22), .int p277009, .int p277010, .int p277011, .int p277012, .int p277013, .ref q277001, .ref (γ 9 29), .int p277014, .ref (γ 9 31), .int p277015, .int p277016, .int p277017, .ref q277002]) := (hfr334429 q276994 hm334404 (nm_c (rn_oa he334403 he334417) nm_n)).trans he334403
                                  have he334439 : F334427 (γ 9 1) = .inl (I (.array .long), 2000, .inr (.inr (.inr (.inr f334411)))) := (hfr334429 (γ 9 1) hm334409 (nm_c (rn_ref_long he334410 he334417) nm_n)).trans he334410
                                  have hfr334440 : rFr [q334413] P276992 F334388 F334427 := rFr_call (rSub_rf (P := P276992)) (rFr_rf (W := []) (P := P276992) (F := F334388)) hfr334429 (fun b hb hn => ⟨nm_n, (nm_c (fun e => hn (e ▸ List.mem_cons_self)) nm_n)⟩)
                                  change G _ _ _ _ _ _ _ _ _ _ _
                                  refine G_widen (cs' := 0) (sl' := 0) (by omega) (by omega) ?_
                                  have hT334441 : RS D I P276992 F334427 γ el := RS_fr hT334389 hfr334440 ht334414 (by decide) ⟨f334424, he334430, x334425⟩
                                  have hs334442 : rStr γ [] F276993 F334427 := rStr_fr hT334389 hs334390 hfr334440 ht334414 (by decide)
                                  have kp334443 : F334427 q276994 = F276993 q276994 := (hfr334440 q276994 (RS_m hT334389 htq276994 (by decide)) (nm_c (rn_ty htq276994 ht334414 (by decide)) nm_n)).trans x334392
                                  have kp334444 : F334427 (γ 9 3) = F334388 (γ 9 3) := hfr334440 (γ 9 3) (RS_m hT334389 ht277023 (by decide)) (nm_c (rn_ty ht277023 ht334414 (by decide)) nm_n)
                                  refine G_aload_n 8 dr_cX17_graph_277 rfl ?_
                                  refine G_aload 4 dr_cX17_graph_278 rfl ?_
                                  refine G_iload_n 10 dr_cX17_graph_280 rfl ?_
                                  refine Gw_callV (As := [.ref q333659, .int p276996]) (gV_ok D I) (ct_283829_SpillForgeModel_back l hl0 D I γ el P276992 F334427 q276994 q333659 p276996 hT334441 htq276994 ht333662 (gB_w bp276996' (by decide) (by decide))) dr_cX17_graph_281 ⟨wr_10_174, wr_1_14, wr_10_177, by decide, rfl, (Nat.le_of_ble_eq_true rfl), (Nat.le_of_ble_eq_true rfl)⟩ wr_10_176 wr_p_96 hm334404 he334438 rfl (show 0 + 0 ≤ 0 by first | omega | decide) (show 0 + 0 ≤ 0 by first | omega | decide) (Nat.le_of_ble_eq_true rfl) (fun r334448 w334449 dc334445 ds334446 hp334447 => ?_) (fun _ _ _ _ _ z => z.elim)
                                  obtain ⟨F334453, rfl, rfl, hT334454, hs334455, hdc, hds, x334450, x334451, ht334452⟩ := hp334447
                                  have he334456 : F334453 q276995 = .inr (18, [.ref q331154, .ref q331155, .int p331156, .int p331157]) := (hs334455 q276995 (rT0 htq276995 (by decide)) (rT1 htq276995 (by decide)) (rT2 htq276995 (by decide))).trans he334431
                                  have he334457 : F334453 q331154 = .inr (4, [.int p331801, .ref q331803, .int p331802]) := (hs334455 q331154 (rT0 ht331158 (by decide)) (rT1 ht331158 (by decide)) (rT2 ht331158 (by decide))).trans he334432
                                  have he334458 : F334453 q331803 = .inl (I (.object "java/lang/Object"), n331817, .inr (.inr (.inr (.inr f331818)))) := (hs334455 q331803 (rT0 r331809 (by decide)) (rT1 r331809 (by decide)) (rT2 r331809 (by decide))).trans he334433
                                  have he334459 : F334453 q331820 = .inr (17, [.ref q331830, .ref q331831, .int p331832, .int p331833]) := (hs334455 q331820 (rT0 ht331826 (by decide)) (rT1 ht331826 (by decide)) (rT2 ht331826 (by decide))).trans he334434
                                  have he334460 : F334453 q331830 = .inr (4, [.int p333640, .ref q333642, .int p333641]) := (hs334455 q331830 (rT0 ht331834 (by decide)) (rT1 ht331834 (by decide)) (rT2 ht331834 (by decide))).trans he334435
                                  have he334461 : F334453 q333642 = .inl (I (.object "java/lang/Object"), n333656, .inr (.inr (.inr (.inr f333657)))) := (hs334455 q333642 (rT0 r333648 (by decide)) (rT1 r333648 (by decide)) (rT2 r333648 (by decide))).trans he334436
                                  have he334462 : F334453 q333659 = .inr (20, [.int p333674, .int p333675, .int p333676, .int p333677, .int p333678, .int p333679, .int p333680]) := (hs334455 q333659 (rT0 ht333662 (by decide)) (rT1 ht333662 (by decide)) (rT2 ht333662 (by decide))).trans he334437
                                  have hs334463 : rStr γ [] F276993 F334453 := rStr_tr hs334442 hs334455
                                  have kp334464 : F334453 q276994 = F276993 q276994 := (x334450).trans kp334443
                                  have kp334465 : F334453 (γ 9 3) = F334388 (γ 9 3) := (x334451).trans kp334444
                                  have he334466 : F334453 q276994 = .inr (22, [.ref (γ 9 0), .ref (γ 9 1), .ref (γ 9 2), .ref (γ 9 3), .ref (γ 9 4), .ref (γ 9 5), .ref (γ 9 6), .ref (γ 9 7), .ref (γ 9 8), .int p277003, .int p277004, .int p277005, .int p277006, .int p277007, .int p277008, .ref (γ 9 15), .ref (γ 9 16), .ref (γ 9 17), .ref (γ 9 18), .ref (γ 9 19), .ref (γ 9 20), .ref (γ 9 21), .ref (γ 9 22), .int p277009, .int p277010, .int p277011, .int p277012, .int p277013, .ref q277001, .ref (γ 9 29), .int p277014, .ref (γ 9 31), .int p277015, .int p277016, .int p277017, .ref q277002]) := (x334450).trans he334438
                                  change G _ _ _ _ _ _ _ _ _ _ _
                                  refine G_widen (cs' := 0) (sl' := 0) (by omega) (by omega) ?_
                                  obtain ⟨z334467, hz334467⟩ : ∃ z : Int32, z = g333614 + Int32.ofInt (-1) := ⟨_, rfl⟩
                                  have ez334467 : z334467.toInt = g333614.toInt + (-1) := gI_inc hz334467 (by decide) bg333614' (by decide) (by decide)
                                  have bz334467 : gB z334467 (-1) 999998 := ⟨by omega, by omega⟩
                                  refine G_iinc (L' := [(5, .int z334467), (10, .int g334387), (9, .int 0), (8, .int (-1)), (7, .int o333719), (6, .ref q333659), (4, .ref q331820), (3, .int g331141), (0, .ref q276994), (1, .ref q276995), (2, .int p276996)]) z334467 5 dr_cX17_graph_284 rfl hz334467.symm (Nat.le_of_ble_eq_true rfl) rfl ?_
                                  refine G_goto 109 dr_cX17_graph_287 (by decide +kernel) ?_
                                  refine G_lv (L' := [(5, .int z334467), (4, .ref q331820), (3, .int g331141), (0, .ref q276994), (1, .ref q276995), (2, .int p276996)]) [0, 6, 7, 8, 9, 10] rfl ?_
                                  exact ih109_333620 F334453 z334467 (gB_w bz334467 (by decide) (by decide)) hT334454 hs334463 (by omega) (fun h0 => by have z := x334391 h0; rw [← kp334465] at z; rw [show ((g333614.toInt : Int).toNat : Nat) = (z334467.toInt + 1 : Int).toNat by omega] at z; exact z) kp334464 (fun k e1 ht => kt109_333621 k e1 (fun R c1 c2 c3 c4 c5 c6 c7 c8 c9 c10 c11 => c7 F333615 g333614 q331830 q333659 p333641 F333694 p333674 p333675 p333678 o333719 p333679 F334388 q334413 f334418 f334424 F334427 F334453 z334467 k e1 bg333614 hT333616 hs333617 x333618 x333619 x333620 r333635 fq333636 hx333660 fq333664 ht333670 hT333695 hs333696 x333691 x333692 ht333693 fq333711 fq333712 fq333713 bo333719 ht333720 r333982 r334244 fq334245 r334247 r334273 hx334407 fq334408 hx334415 he334417 ht334426 hfr334440 he334430 hT334441 hT334454 hs334455 x334450 x334451 ht334452 ez334467 (ht R c1 c2 c3 c4 c5 c6 c7 c8 c9 c10 c11))) (mz_dn ez334467 (Int.le_trans (by decide) bg333614'.1) hm109_333620)
                                · have r334468 : g334387.toInt < 32 := gj_nleL hc334405 (show Int32.toInt 32 = 32 by decide)
                                  have bg334387' : gB g334387 0 31 := ⟨by omega, by omega⟩
                                  refine G_aload_n 8 dr_cX17_graph_217 rfl ?_
                                  have fq334469 : fR (F334388 q276994) 1 = (γ 9 1) := by rw [he334403]; rfl
                                  refine Gp_get 1 hm334404 he334403 dr_cX17_graph_218 (gk_X17 D I) (Nat.le_of_ble_eq_true rfl) wr_7_75 rfl ?_
                                  refine G_iload 3 dr_cX17_graph_221 rfl ?_
                                  have hm334470 : (γ 9 1) ∈ P276992 := RS_m hT334389 ht277021 (by decide)
                                  obtain ⟨f334472, he334471, hg334473⟩ := show rk_13 I γ (F334388 (γ 9 1)) from RS_o hT334389 ht277021
                                  obtain ⟨q334474, hx334476⟩ : ∃ x, x = γ 11 o333719.toInt.toNat := ⟨_, rfl⟩
                                  have ht334475 : rKd γ q334474 36 := by rw [hx334476]; exact (hg334473 _ (show o333719.toInt.toNat < 2000 by omega)).2.1
                                  refine Gp_aald 5 hm334470 he334471 dr_cX17_graph_223 rfl rfl (gB_in bo333719' (by decide) (by decide)) ?_
                                  rw [show f334472 o333719.toNatClampNeg = some q334474 from (hg334473 _ (show o333719.toInt.toNat < 2000 by omega)).1.trans (by rw [hx334476])]
                                  change G _ _ _ _ _ _ _ (.ref q334474 :: _) _ _ _
                                  refine G_iload 0 dr_cX17_graph_224 rfl ?_
                                  refine G_dup2_11 dr_cX17_graph_226 rfl rfl ?_
                                  have hm334477 : q334474 ∈ P276992 := RS_m hT334389 ht334475 (by decide)
                                  obtain ⟨f334479, he334478, wf334479⟩ := show rk_36 I (F334388 q334474) from RS_o hT334389 ht334475
                                  refine Gp_lald 2 hm334477 he334478 dr_cX17_graph_227 rfl (gB_in bg334387' (by decide) (by decide)) (G_namL fun u334480 hu334480 => ?_)
                                  have qu334480 : lb_Q u334480 (2000 - 64 * g334387.toInt) := lb_Wld hu334480 wf334479 (by omega) (by omega) (lb_Mod0 (by omega) (by omega))
                                  refine G_aload_n 8 dr_cX17_graph_228 rfl ?_
                                  have fq334481 : fR (F334388 q276994) 2 = (γ 9 2) := by rw [he334403]; rfl
                                  refine Gp_get 2 hm334404 he334403 dr_cX17_graph_229 (gk_X17 D I) (Nat.le_of_ble_eq_true rfl) wr_7_76 rfl ?_
                                  refine G_iload 0 dr_cX17_graph_232 rfl ?_
                                  have hm334482 : (γ 9 2) ∈ P276992 := RS_m hT334389 ht277022 (by decide)
                                  obtain ⟨f334484, he334483, wf334484⟩ := show rk_35 I (F334388 (γ 9 2)) from RS_o hT334389 ht277022
                                  refine Gp_lald 2 hm334482 he334483 dr_cX17_graph_234 rfl (gB_in bg334387' (by decide) (by decide)) (G_namL fun u334485 hu334485 => ?_)
                                  have qu334485 : lb_Q u334485 (2000 - 64 * g334387.toInt) := lb_Wld hu334485 wf334484 (by omega) (by omega) (lb_Mod0 (by omega) (by omega))
                                  refine G_lor dr_cX17_graph_235 (G_namL fun u334486 hu334486 => ?_)
                                  have qu334486 : lb_Q u334486 (2000 - 64 * g334387.toInt) := lb_Qor hu334486 qu334480 qu334485
                                  refine Gp_last 2 hm334477 he334478 dr_cX17_graph_236 rfl (gB_in bg334387' (by decide) (by decide)) (fun F334487 e334488 n334489 => ?_)
                                  obtain ⟨f334490, hf334490⟩ : ∃ z, z = vp_updL f334479 g334387.toNatClampNeg u334486 := ⟨_, rfl⟩
                                  rw [← hf334490] at e334488
                                  have he334491 : F334487 q276995 = .inr (18, [.ref q331154, .ref q331155, .int p331156, .int p331157]) := (n334489 q276995 (rn_oa he334395 he334478)).trans he334395
                                  have he334492 : F334487 q331154 = .inr (4, [.int p331801, .ref q331803, .int p331802]) := (n334489 q331154 (rn_oa he334396 he334478)).trans he334396
                                  have he334493 : F334487 q331803 = .inl (I (.object "java/lang/Object"), n331817, .inr (.inr (.inr (.inr f331818)))) := (n334489 q331803 (rn_ref_long he334397 he334478)).trans he334397
                                  have he334494 : F334487 q331820 = .inr (17, [.ref q331830, .ref q331831, .int p331832, .int p331833]) := (n334489 q331820 (rn_oa he334398 he334478)).trans he334398
                                  have he334495 : F334487 q331830 = .inr (4, [.int p333640, .ref q333642, .int p333641]) := (n334489 q331830 (rn_oa he334399 he334478)).trans he334399
                                  have he334496 : F334487 q333642 = .inl (I (.object "java/lang/Object"), n333656, .inr (.inr (.inr (.inr f333657)))) := (n334489 q333642 (rn_ref_long he334400 he334478)).trans he334400
                                  have he334497 : F334487 q333659 = .inr (20, [.int p333674, .int p333675, .int p333676, .int p333677, .int p333678, .int p333679, .int p333680]) := (n334489 q333659 (rn_oa he334401 he334478)).trans he334401
                                  have he334498 : F334487 q276994 = .inr (22, [.ref (γ 9 0), .ref (γ 9 1), .ref (γ 9 2), .ref (γ 9 3), .ref (γ 9 4), .ref (γ 9 5), .ref (γ 9 6), .ref (γ 9 7), .ref (γ 9 8), .int p277003, .int p277004, .int p277005, .int p277006, .int p277007, .int p277008, .ref (γ 9 15), .ref (γ 9 16), .ref (γ 9 17), .ref (γ 9 18), .ref (γ 9 19), .ref (γ 9 20), .ref (γ 9 21), .ref (γ 9 22), .int p277009, .int p277010, .int p277011, .int p277012, .int p277013, .ref q277001, .ref (γ 9 29), .int p277014, .ref (γ 9 31), .int p277015, .int p277016, .int p277017, .ref q277002]) := (n334489 q276994 (rn_oa he334403 he334478)).trans he334403
                                  have he334499 : F334487 (γ 9 1) = .inl (I (.array .long), 2000, .inr (.inr (.inr (.inr f334472)))) := (n334489 (γ 9 1) (rn_ref_long he334471 he334478)).trans he334471
                                  have he334500 : F334487 (γ 9 2) = .inl (I .long, 32, .inr (.inl f334484)) := (n334489 (γ 9 2) (rn_ty ht277022 ht334475 (by decide))).trans he334483
                                  have he334501 : F334487 q334474 = .inl (I .long, 32, .inr (.inl f334490)) := e334488
                                  have hs334502 : rStr γ [] F276993 F334487 := rStr_put hs334390 n334489 ht334475 (by decide)
                                  have kp334503 : F334487 q276994 = F276993 q276994 := (n334489 q276994 (rn_ty htq276994 ht334475 (by decide))).trans x334392
                                  have kp334504 : F334487 (γ 9 3) = F334388 (γ 9 3) := n334489 (γ 9 3) (rn_ty ht277023 ht334475 (by decide))
                                  have wf334490 : lb_W f334490 (32) (32) (2000) := lb_Wst hf334490 wf334479 (by omega) (lb_Mod0 (by omega) (by omega)) qu334486
                                  obtain ⟨z334505, hz334505⟩ : ∃ z : Int32, z = g334387 + Int32.ofInt 1 := ⟨_, rfl⟩
                                  have ez334505 : z334505.toInt = g334387.toInt + 1 := gI_inc hz334505 (by decide) bg334387' (by decide) (by decide)
                                  have bz334505 : gB z334505 1 32 := ⟨by omega, by omega⟩
                                  refine G_iinc (L' := [(10, .int z334505), (9, .int 0), (8, .int (-1)), (7, .int o333719), (6, .ref q333659), (5, .int g333614), (4, .ref q331820), (3, .int g331141), (0, .ref q276994), (1, .ref q276995), (2, .int p276996)]) z334505 0 dr_cX17_graph_237 rfl hz334505.symm (Nat.le_of_ble_eq_true rfl) rfl ?_
                                  refine G_goto 210 dr_cX17_graph_240 (by decide +kernel) ?_
                                  have hT334506 : RS D I P276992 F334487 γ el := RS_set hT334389 n334489 ht334475 (by decide) ⟨f334490, he334501, wf334490⟩
                                  exact ih210_334392 F334487 z334505 (gB_w bz334505 (by decide) (by decide)) hT334506 hs334502 (by rw [kp334504]; exact x334391) kp334503 (fun k e1 ht => kt210_334393 k e1 (fun R c1 c2 => c2 F334388 g334387 q334474 f334479 u334480 f334484 u334485 u334486 f334490 F334487 z334505 k e1 bg334387 hT334389 hs334390 x334391 x334392 r334468 fq334469 hx334476 he334478 hu334480 fq334481 he334483 hu334485 hu334486 hf334490 n334489 he334501 ez334505 (ht R c1 c2))) (mz_up ez334505 (Int.le_trans bg334387'.2 (by decide)) hm210_334392)
                            exact hlp210_334392 (((33 : Int) - 0).toNat + 1) F333694 0 (gB_w (gBl (show Int32.toInt 0 = 0 by decide)) (by decide) (by decide)) hT333695 hs333704 gr333710 kp333705 (fun k e1 ht => ht) (Nat.lt_succ_self _)
                        · have r334507 : p333679.toInt ≠ 0 := gj_neq hc334246 (show Int32.toInt 0 = 0 by decide)
                          have bp333679' : gB p333679 1 1 := gB_t1 bp333679 r334507
                          refine G_aload 1 dr_cX17_graph_164 rfl ?_
                          have fq334508 : fI (F333694 q333659) 2 = p333676 := by rw [he333703]; rfl
                          refine Gp_get 2 hm333672 he333703 dr_cX17_graph_166 (gk_X15 D I) (Nat.le_of_ble_eq_true rfl) wr_9_186 rfl ?_
                          refine G_goto 173 dr_cX17_graph_169 (by decide +kernel) ?_
                          refine G_istore (L' := [(8, .int p333676), (7, .int o333719), (6, .ref q333659), (5, .int g333614), (4, .ref q331820), (3, .int g331141), (0, .ref q276994), (1, .ref q276995), (2, .int p276996)]) dr_cX17_graph_173 (Nat.le_of_ble_eq_true rfl) rfl ?_
                          refine G_iload 1 dr_cX17_graph_175 rfl ?_
                          refine G_if_lt 277 dr_cX17_graph_177 (by decide +kernel) (fun hc334509 => ?_) (fun hc334509 => ?_)
                          · have r334510 : o333719.toInt < 0 := gj_lt hc334509 (show Int32.toInt 0 = 0 by decide)
                            have bo333719' : gB o333719 (-1) (-1) := ⟨by omega, by omega⟩
                            refine G_aload_n 6 dr_cX17_graph_277 rfl ?_
                            refine G_aload 2 dr_cX17_graph_278 rfl ?_
                            refine G_iload_n 8 dr_cX17_graph_280 rfl ?_
                            refine Gw_callV (As := [.ref q333659, .int p276996]) (gV_ok D I) (ct_283829_SpillForgeModel_back l hl0 D I γ el P276992 F333694 q276994 q333659 p276996 hT333695 htq276994 ht333662 (gB_w bp276996' (by decide) (by decide))) dr_cX17_graph_281 ⟨wr_10_174, wr_1_14, wr_10_177, by decide, rfl, (Nat.le_of_ble_eq_true rfl), (Nat.le_of_ble_eq_true rfl)⟩ wr_10_176 wr_p_96 hm333630 he333706 rfl (show 0 + 0 ≤ 0 by first | omega | decide) (show 0 + 0 ≤ 0 by first | omega | decide) (Nat.le_of_ble_eq_true rfl) (fun r334514 w334515 dc334511 ds334512 hp334513 => ?_) (fun _ _ _ _ _ z => z.elim)
                            obtain ⟨F334519, rfl, rfl, hT334520, hs334521, hdc, hds, x334516, x334517, ht334518⟩ := hp334513
                            have he334522 : F334519 q276995 = .inr (18, [.ref q331154, .ref q331155, .int p331156, .int p331157]) := (hs334521 q276995 (rT0 htq276995 (by decide)) (rT1 htq276995 (by decide)) (rT2 htq276995 (by decide))).trans he333697
                            have he334523 : F334519 q331154 = .inr (4, [.int p331801, .ref q331803, .int p331802]) := (hs334521 q331154 (rT0 ht331158 (by decide)) (rT1 ht331158 (by decide)) (rT2 ht331158 (by decide))).trans he333698
                            have he334524 : F334519 q331803 = .inl (I (.object "java/lang/Object"), n331817, .inr (.inr (.inr (.inr f331818)))) := (hs334521 q331803 (rT0 r331809 (by decide)) (rT1 r331809 (by decide)) (rT2 r331809 (by decide))).trans he333699
                            have he334525 : F334519 q331820 = .inr (17, [.ref q331830, .ref q331831, .int p331832, .int p331833]) := (hs334521 q331820 (rT0 ht331826 (by decide)) (rT1 ht331826 (by decide)) (rT2 ht331826 (by decide))).trans he333700
                            have he334526 : F334519 q331830 = .inr (4, [.int p333640, .ref q333642, .int p333641]) := (hs334521 q331830 (rT0 ht331834 (by decide)) (rT1 ht331834 (by decide)) (rT2 ht331834 (by decide))).trans he333701
                            have he334527 : F334519 q333642 = .inl (I (.object "java/lang/Object"), n333656, .inr (.inr (.inr (.inr f333657)))) := (hs334521 q333642 (rT0 r333648 (by decide)) (rT1 r333648 (by decide)) (rT2 r333648 (by decide))).trans he333702
                            have he334528 : F334519 q333659 = .inr (20, [.int p333674, .int p333675, .int p333676, .int p333677, .int p333678, .int p333679, .int p333680]) := (hs334521 q333659 (rT0 ht333662 (by decide)) (rT1 ht333662 (by decide)) (rT2 ht333662 (by decide))).trans he333703
                            have hs334529 : rStr γ [] F276993 F334519 := rStr_tr hs333704 hs334521
                            have kp334530 : F334519 q276994 = F276993 q276994 := (x334516).trans kp333705
                            have kp334531 : F334519 (γ 9 3) = F333694 (γ 9 3) := x334517
                            have he334532 : F334519 q276994 = .inr (22, [.ref (γ 9 0), .ref (γ 9 1), .ref (γ 9 2), .ref (γ 9 3), .ref (γ 9 4), .ref (γ 9 5), .ref (γ 9 6), .ref (γ 9 7), .ref (γ 9 8), .int p277003, .int p277004, .int p277005, .int p277006, .int p277007, .int p277008, .ref (γ 9 15), .ref (γ 9 16), .ref (γ 9 17), .ref (γ 9 18), .ref (γ 9 19), .ref (γ 9 20), .ref (γ 9 21), .ref (γ 9 22), .int p277009, .int p277010, .int p277011, .int p277012, .int p277013, .ref q277001, .ref (γ 9 29), .int p277014, .ref (γ 9 31), .int p277015, .int p277016, .int p277017, .ref q277002]) := (x334516).trans he333706
                            change G _ _ _ _ _ _ _ _ _ _ _
                            refine G_widen (cs' := 0) (sl' := 0) (by omega) (by omega) ?_
                            obtain ⟨z334533, hz334533⟩ : ∃ z : Int32, z = g333614 + Int32.ofInt (-1) := ⟨_, rfl⟩
                            have ez334533 : z334533.toInt = g333614.toInt + (-1) := gI_inc hz334533 (by decide) bg333614' (by decide) (by decide)
                            have bz334533 : gB z334533 (-1) 999998 := ⟨by omega, by omega⟩
                            refine G_iinc (L' := [(5, .int z334533), (8, .int p333676), (7, .int o333719), (6, .ref q333659), (4, .ref q331820), (3, .int g331141), (0, .ref q276994), (1, .ref q276995), (2, .int p276996)]) z334533 3 dr_cX17_graph_284 rfl hz334533.symm (Nat.le_of_ble_eq_true rfl) rfl ?_
                            refine G_goto 109 dr_cX17_graph_287 (by decide +kernel) ?_
                            refine G_lv (L' := [(5, .int z334533), (4, .ref q331820), (3, .int g331141), (0, .ref q276994), (1, .ref q276995), (2, .int p276996)]) [0, 4, 5, 6, 7, 8] rfl ?_
                            exact ih109_333620 F334519 z334533 (gB_w bz334533 (by decide) (by decide)) hT334520 hs334529 (by omega) (fun h0 => by have z := gr333710 h0; rw [← kp334531] at z; rw [show ((g333614.toInt : Int).toNat : Nat) = (z334533.toInt + 1 : Int).toNat by omega] at z; exact z) kp334530 (fun k e1 ht => kt109_333621 k e1 (fun R c1 c2 c3 c4 c5 c6 c7 c8 c9 c10 c11 => c8 F333615 g333614 q331830 q333659 p333641 F333694 p333674 p333675 p333678 o333719 p333679 F334519 z334533 k e1 bg333614 hT333616 hs333617 x333618 x333619 x333620 r333635 fq333636 hx333660 fq333664 ht333670 hT333695 hs333696 x333691 x333692 ht333693 fq333711 fq333712 fq333713 bo333719 ht333720 r333982 r334244 fq334245 r334507 r334510 hT334520 hs334521 x334516 x334517 ht334518 ez334533 (ht R c1 c2 c3 c4 c5 c6 c7 c8 c9 c10 c11))) (mz_dn ez334533 (Int.le_trans (by decide) bg333614'.1) hm109_333620)
                          · have r334534 : 0 ≤ o333719.toInt := gj_nlt hc334509 (show Int32.toInt 0 = 0 by decide)
                            have bo333719' : gB o333719 0 1999 := ⟨by omega, by omega⟩
                            refine G_iload 0 dr_cX17_graph_180 rfl ?_
                            refine G_if_lt 204 dr_cX17_graph_182 (by decide +kernel) (fun hc334535 => ?_) (fun hc334535 => ?_)
                            · have r334536 : p333676.toInt < 0 := gj_lt hc334535 (show Int32.toInt 0 = 0 by decide)
                              have bp333676' : gB p333676 (-2147483648) (-1) := ⟨by omega, by omega⟩
                              refine G_iconst 0 dr_cX17_graph_204 (by decide +kernel) ?_
                              refine G_istore (L' := [(9, .int 0), (8, .int p333676), (7, .int o333719), (6, .ref q333659), (5, .int g333614), (4, .ref q331820), (3, .int g331141), (0, .ref q276994), (1, .ref q276995), (2, .int p276996)]) dr_cX17_graph_205 (Nat.le_of_ble_eq_true rfl) rfl ?_
                              refine G_iconst 0 dr_cX17_graph_207 (by decide +kernel) ?_
                              refine G_istore (L' := [(10, .int 0), (9, .int 0), (8, .int p333676), (7, .int o333719), (6, .ref q333659), (5, .int g333614), (4, .ref q331820), (3, .int g331141), (0, .ref q276994), (1, .ref q276995), (2, .int p276996)]) dr_cX17_graph_208 (Nat.le_of_ble_eq_true rfl) rfl ?_
                              have hlp210_334655 : ∀ (n210_334655 : Nat) (F334651 : Nat → va_E) (g334650 : Int32), gB g334650 0 32 → RS D I P276992 F334651 γ el → rStr γ [] F276993 F334651 → (gIp (p276996.toInt = 0) (rGr γ el F276993 q276995 (γ 6 (γ 1 q276995)) (cB (F334651 (γ 9 3))) (vB (g331141.toInt : Int).toNat (g333614.toInt : Int).toNat))) → (F334651 q276994 = F276993 q276994) → (∀ (k : Nat) (e1 : Nat → va_E), tl_RModel_graph_210_4 D I γ el P276992 F276993 p276996 q276995 g331141 g333614 q276994 o333719 F334651 g334650 k e1 → tl_RModel_graph_210_4 D I γ el P276992 F276993 p276996 q276995 g331141 g333614 q276994 o333719 F333694 (0 : Int32) k e1) → ((33 : Int) - g334650.toInt).toNat < n210_334655 → G (gV D I) l (gRm 5 111 0 0) (gMA (gV D I) (pt_276998_SpillForgeModel_graph D I γ el P276992 F276993 q276994 q276995 p276996) gNA 0 0) ky_276998_SpillForgeModel_graph 210 [(10, .int g334650), (9, .int 0), (8, .int p333676), (7, .int o333719), (6, .ref q333659), (5, .int g333614), (4, .ref q331820), (3, .int g331141), (0, .ref q276994), (1, .ref q276995), (2, .int p276996)] [] (va_pl P276992 F334651) 0 0 := by
                                intro n210_334655
                                induction n210_334655 with
                                | zero => intro F334651 g334650 bg334650 hT334652 hs334653 x334654 x334655 kt210_334656 hm210_334655; exact absurd hm210_334655 (Nat.not_lt_zero _)
                                | succ n210_334655 ih210_334655 =>
                                  intro F334651 g334650 bg334650 hT334652 hs334653 x334654 x334655 kt210_334656 hm210_334655
                                  have hs334657 : rStr γ [] F333694 F334651 := fun b h0 hb hw => (hs334653 b h0 hb hw).trans (hs333704 b h0 hb hw).symm
                                  have he334658 : F334651 q276995 = .inr (18, [.ref q331154, .ref q331155, .int p331156, .int p331157]) := (hs334657 q276995 (rT0 htq276995 (by decide)) (rT1 htq276995 (by decide)) (rT2 htq276995 (by decide))).trans he333697
                                  have he334659 : F334651 q331154 = .inr (4, [.int p331801, .ref q331803, .int p331802]) := (hs334657 q331154 (rT0 ht331158 (by decide)) (rT1 ht331158 (by decide)) (rT2 ht331158 (by decide))).trans he333698
                                  have he334660 : F334651 q331803 = .inl (I (.object "java/lang/Object"), n331817, .inr (.inr (.inr (.inr f331818)))) := (hs334657 q331803 (rT0 r331809 (by decide)) (rT1 r331809 (by decide)) (rT2 r331809 (by decide))).trans he333699
                                  have he334661 : F334651 q331820 = .inr (17, [.ref q331830, .ref q331831, .int p331832, .int p331833]) := (hs334657 q331820 (rT0 ht331826 (by decide)) (rT1 ht331826 (by decide)) (rT2 ht331826 (by decide))).trans he333700
                                  have he334662 : F334651 q331830 = .inr (4, [.int p333640, .ref q333642, .int p333641]) := (hs334657 q331830 (rT0 ht331834 (by decide)) (rT1 ht331834 (by decide)) (rT2 ht331834 (by decide))).trans he333701
                                  have he334663 : F334651 q333642 = .inl (I (.object "java/lang/Object"), n333656, .inr (.inr (.inr (.inr f333657)))) := (hs334657 q333642 (rT0 r333648 (by decide)) (rT1 r333648 (by decide)) (rT2 r333648 (by decide))).trans he333702
                                  have he334664 : F334651 q333659 = .inr (20, [.int p333674, .int p333675, .int p333676, .int p333677, .int p333678, .int p333679, .int p333680]) := (hs334657 q333659 (rT0 ht333662 (by decide)) (rT1 ht333662 (by decide)) (rT2 ht333662 (by decide))).trans he333703
                                  have hs334665 : rStr γ [] F276993 F334651 := rStr_tr hs333704 hs334657
                                  have he334666 : F334651 q276994 = .inr (22, [.ref (γ 9 0), .ref (γ 9 1), .ref (γ 9 2), .ref (γ 9 3), .ref (γ 9 4), .ref (γ 9 5), .ref (γ 9 6), .ref (γ 9 7), .ref (γ 9 8), .int p277003, .int p277004, .int p277005, .int p277006, .int p277007, .int p277008, .ref (γ 9 15), .ref (γ 9 16), .ref (γ 9 17), .ref (γ 9 18), .ref (γ 9 19), .ref (γ 9 20), .ref (γ 9 21), .ref (γ 9 22), .int p277009, .int p277010, .int p277011, .int p277012, .int p277013, .ref q277001, .ref (γ 9 29), .int p277014, .ref (γ 9 31), .int p277015, .int p277016, .int p277017, .ref q277002]) := x334655.trans he277000
                                  have hm334667 : q276994 ∈ P276992 := RS_m hT334652 htq276994 (by decide)
                                  refine G_iload 0 dr_cX17_graph_210 rfl ?_
                                  refine G_bipush 32 dr_cX17_graph_212 (by decide +kernel) ?_
                                  refine G_icmp_ge 243 dr_cX17_graph_214 (by decide +kernel) (fun hc334668 => ?_) (fun hc334668 => ?_)
                                  · have r334669 : 32 ≤ g334650.toInt := gj_leL hc334668 (show Int32.toInt 32 = 32 by decide)
                                    have bg334650' : gB g334650 32 32 := ⟨by omega, by omega⟩
                                    have hx334670 : tl_RModel_graph_210_4 D I γ el P276992 F276993 p276996 q276995 g331141 g333614 q276994 o333719 F333694 (0 : Int32) 243 F334651 := kt210_334656 243 F334651 (fun R c1 c2 => c1 F334651 g334650 bg334650 hT334652 hs334653 x334654 x334655 r334669)
                                    refine G_iload 2 dr_cX17_graph_243 rfl ?_
                                    refine G_if_lt 265 dr_cX17_graph_245 (by decide +kernel) (fun _ => ?_) (fun hc => absurd (show False by have := gj_nlt hc (show Int32.toInt 0 = 0 by decide); omega) not_false)
                                    refine G_aload_n 8 dr_cX17_graph_265 rfl ?_
                                    have fq334671 : fR (F334651 q276994) 1 = (γ 9 1) := by rw [he334666]; rfl
                                    refine Gp_get 1 hm334667 he334666 dr_cX17_graph_266 (gk_X17 D I) (Nat.le_of_ble_eq_true rfl) wr_7_75 rfl ?_
                                    refine G_iload 3 dr_cX17_graph_269 rfl ?_
                                    have hm334672 : (γ 9 1) ∈ P276992 := RS_m hT334652 ht277021 (by decide)
                                    obtain ⟨f334674, he334673, hg334675⟩ := show rk_13 I γ (F334651 (γ 9 1)) from RS_o hT334652 ht277021
                                    obtain ⟨q334676, hx334678⟩ : ∃ x, x = γ 11 o333719.toInt.toNat := ⟨_, rfl⟩
                                    have ht334677 : rKd γ q334676 36 := by rw [hx334678]; exact (hg334675 _ (show o333719.toInt.toNat < 2000 by omega)).2.1
                                    refine Gp_aald 5 hm334672 he334673 dr_cX17_graph_271 rfl rfl (gB_in bo333719' (by decide) (by decide)) ?_
                                    rw [show f334674 o333719.toNatClampNeg = some q334676 from (hg334675 _ (show o333719.toInt.toNat < 2000 by omega)).1.trans (by rw [hx334678])]
                                    change G _ _ _ _ _ _ _ (.ref q334676 :: _) _ _ _
                                    refine G_iload 3 dr_cX17_graph_272 rfl ?_
                                    have hm334679 : q334676 ∈ P276992 := RS_m hT334652 ht334677 (by decide)
                                    obtain ⟨f334681, he334680, wf334681⟩ := show rk_36 I (F334651 q334676) from RS_o hT334652 ht334677
                                    refine Gw_callS (As := [.ref q334676, .int o333719]) (gV_ok D I) (cp_1880_SpillForgeModel_clear l hl0 D I P276992 F334651 q334676 o333719 f334681 hm334679 he334680 bo333719' wf334681) dr_cX17_graph_274 ⟨wr_10_185, wr_1_14, wr_10_187, by decide, rfl, (Nat.le_of_ble_eq_true rfl), (Nat.le_of_ble_eq_true rfl)⟩ wr_10_186 (show 0 + 0 ≤ 0 by first | omega | decide) (show 0 + 0 ≤ 0 by first | omega | decide) (Nat.le_of_ble_eq_true rfl) (fun r334685 w334686 dc334682 ds334683 hp334684 => ?_) (fun _ _ _ _ _ z => z.elim)
                                    obtain ⟨F334690, f334687, rfl, rfl, hfr334692, he334693, hdc, hds, x334688, ht334689⟩ := hp334684
                                    have he334694 : F334690 q276995 = .inr (18, [.ref q331154, .ref q331155, .int p331156, .int p331157]) := (hfr334692 q276995 hm331152 (nm_c (rn_oa he334658 he334680) nm_n)).trans he334658
                                    have he334695 : F334690 q331154 = .inr (4, [.int p331801, .ref q331803, .int p331802]) := (hfr334692 q331154 hm331799 (nm_c (rn_oa he334659 he334680) nm_n)).trans he334659
                                    have he334696 : F334690 q331803 = .inl (I (.object "java/lang/Object"), n331817, .inr (.inr (.inr (.inr f331818)))) := (hfr334692 q331803 hm331819 (nm_c (rn_ref_long he334660 he334680) nm_n)).trans he334660
                                    have he334697 : F334690 q331820 = .inr (17, [.ref q331830, .ref q331831, .int p331832, .int p331833]) := (hfr334692 q331820 hm331828 (nm_c (rn_oa he334661 he334680) nm_n)).trans he334661
                                    have he334698 : F334690 q331830 = .inr (4, [.int p333640, .ref q333642, .int p333641]) := (hfr334692 q331830 hm333638 (nm_c (rn_oa he334662 he334680) nm_n)).trans he334662
                                    have he334699 : F334690 q333642 = .inl (I (.object "java/lang/Object"), n333656, .inr (.inr (.inr (.inr f333657)))) := (hfr334692 q333642 hm333658 (nm_c (rn_ref_long he334663 he334680) nm_n)).trans he334663
                                    have he334700 : F334690 q333659 = .inr (20, [.int p333674, .int p333675, .int p333676, .int p333677, .int p333678, .int p333679, .int p333680]) := (hfr334692 q333659 hm333672 (nm_c (rn_oa he334664 he334680) nm_n)).trans he334664
                                    have he334701 : F334690 q276994 = .inr (22, [.ref (γ 9 0), .ref (γ 9 1), .ref (γ 9 2), .ref (γ 9 3), .ref (γ 9 4), .ref (γ 9 5), .ref (γ 9 6), .ref (γ 9 7), .ref (γ 9 8), .int p277003, .int p277004, .int p277005, .int p277006, .int p277007, .int p277008, .ref (γ 9 15), .ref (γ 9 16), .ref (γ 9 17), .ref (γ 9 18), .ref (γ 9 19), .ref (γ 9 20), .ref (γ 9 21), .ref (γ 9 22), .int p277009, .int p277010, .int p277011, .int p277012, .int p277013, .ref q277001, .ref (γ 9 29), .int p277014, .ref (γ 9 31), .int p277015, .int p277016, .int p277017, .ref q277002]) := (hfr334692 q276994 hm334667 (nm_c (rn_oa he334666 he334680) nm_n)).trans he334666
                                    have he334702 : F334690 (γ 9 1) = .inl (I (.array .long), 2000, .inr (.inr (.inr (.inr f334674)))) := (hfr334692 (γ 9 1) hm334672 (nm_c (rn_ref_long he334673 he334680) nm_n)).trans he334673
                                    have hfr334703 : rFr [q334676] P276992 F334651 F334690 := rFr_call (rSub_rf (P := P276992)) (rFr_rf (W := []) (P := P276992) (F := F334651)) hfr334692 (fun b hb hn => ⟨nm_n, (nm_c (fun e => hn (e ▸ List.mem_cons_self)) nm_n)⟩)
                                    change G _ _ _ _ _ _ _ _ _ _ _
                                    refine G_widen (cs' := 0) (sl' := 0) (by omega) (by omega) ?_
                                    have hT334704 : RS D I P276992 F334690 γ el := RS_fr hT334652 hfr334703 ht334677 (by decide) ⟨f334687, he334693, x334688⟩
                                    have hs334705 : rStr γ [] F276993 F334690 := rStr_fr hT334652 hs334653 hfr334703 ht334677 (by decide)
                                    have kp334706 : F334690 q276994 = F276993 q276994 := (hfr334703 q276994 (RS_m hT334652 htq276994 (by decide)) (nm_c (rn_ty htq276994 ht334677 (by decide)) nm_n)).trans x334655
                                    have kp334707 : F334690 (γ 9 3) = F334651 (γ 9 3) := hfr334703 (γ 9 3) (RS_m hT334652 ht277023 (by decide)) (nm_c (rn_ty ht277023 ht334677 (by decide)) nm_n)
                                    refine G_aload_n 8 dr_cX17_graph_277 rfl ?_
                                    refine G_aload 4 dr_cX17_graph_278 rfl ?_
                                    refine G_iload_n 10 dr_cX17_graph_280 rfl ?_
                                    refine Gw_callV (As := [.ref q333659, .int p276996]) (gV_ok D I) (ct_283829_SpillForgeModel_back l hl0 D I γ el P276992 F334690 q276994 q333659 p276996 hT334704 htq276994 ht333662 (gB_w bp276996' (by decide) (by decide))) dr_cX17_graph_281 ⟨wr_10_174, wr_1_14, wr_10_177, by decide, rfl, (Nat.le_of_ble_eq_true rfl), (Nat.le_of_ble_eq_true rfl)⟩ wr_10_176 wr_p_96 hm334667 he334701 rfl (show 0 + 0 ≤ 0 by first | omega | decide) (show 0 + 0 ≤ 0 by first | omega | decide) (Nat.le_of_ble_eq_true rfl) (fun r334711 w334712 dc334708 ds334709 hp334710 => ?_) (fun _ _ _ _ _ z => z.elim)
                                    obtain ⟨F334716, rfl, rfl, hT334717, hs334718, hdc, hds, x334713, x334714, ht334715⟩ := hp334710
                                    have he334719 : F334716 q276995 = .inr (18, [.ref q331154, .ref q331155, .int p331156, .int p331157]) := (hs334718 q276995 (rT0 htq276995 (by decide)) (rT1 htq276995 (by decide)) (rT2 htq276995 (by decide))).trans he334694
                                    have he334720 : F334716 q331154 = .inr (4, [.int p331801, .ref q331803, .int p331802]) := (hs334718 q331154 (rT0 ht331158 (by decide)) (rT1 ht331158 (by decide)) (rT2 ht331158 (by decide))).trans he334695
                                    have he334721 : F334716 q331803 = .inl (I (.object "java/lang/Object"), n331817, .inr (.inr (.inr (.inr f331818)))) := (hs334718 q331803 (rT0 r331809 (by decide)) (rT1 r331809 (by decide)) (rT2 r331809 (by decide))).trans he334696
                                    have he334722 : F334716 q331820 = .inr (17, [.ref q331830, .ref q331831, .int p331832, .int p331833]) := (hs334718 q331820 (rT0 ht331826 (by decide)) (rT1 ht331826 (by decide)) (rT2 ht331826 (by decide))).trans he334697
                                    have he334723 : F334716 q331830 = .inr (4, [.int p333640, .ref q333642, .int p333641]) := (hs334718 q331830 (rT0 ht331834 (by decide)) (rT1 ht331834 (by decide)) (rT2 ht331834 (by decide))).trans he334698
                                    have he334724 : F334716 q333642 = .inl (I (.object "java/lang/Object"), n333656, .inr (.inr (.inr (.inr f333657)))) := (hs334718 q333642 (rT0 r333648 (by decide)) (rT1 r333648 (by decide)) (rT2 r333648 (by decide))).trans he334699
                                    have he334725 : F334716 q333659 = .inr (20, [.int p333674, .int p333675, .int p333676, .int p333677, .int p333678, .int p333679, .int p333680]) := (hs334718 q333659 (rT0 ht333662 (by decide)) (rT1 ht333662 (by decide)) (rT2 ht333662 (by decide))).trans he334700
                                    have hs334726 : rStr γ [] F276993 F334716 := rStr_tr hs334705 hs334718
                                    have kp334727 : F334716 q276994 = F276993 q276994 := (x334713).trans kp334706
                                    have kp334728 : F334716 (γ 9 3) = F334651 (γ 9 3) := (x334714).trans kp334707
                                    have he334729 : F334716 q276994 = .inr (22, [.ref (γ 9 0), .ref (γ 9 1), .ref (γ 9 2), .ref (γ 9 3), .ref (γ 9 4), .ref (γ 9 5), .ref (γ 9 6), .ref (γ 9 7), .ref (γ 9 8), .int p277003, .int p277004, .int p277005, .int p277006, .int p277007, .int p277008, .ref (γ 9 15), .ref (γ 9 16), .ref (γ 9 17), .ref (γ 9 18), .ref (γ 9 19), .ref (γ 9 20), .ref (γ 9 21), .ref (γ 9 22), .int p277009, .int p277010, .int p277011, .int p277012, .int p277013, .ref q277001, .ref (γ 9 29), .int p277014, .ref (γ 9 31), .int p277015, .int p277016, .int p277017, .ref q277002]) := (x334713).trans he334701
                                    change G _ _ _ _ _ _ _ _ _ _ _
                                    refine G_widen (cs' := 0) (sl' := 0) (by omega) (by omega) ?_
                                    obtain ⟨z334730, hz334730⟩ : ∃ z : Int32, z = g333614 + Int32.ofInt (-1) := ⟨_, rfl⟩
                                    have ez334730 : z334730.toInt = g333614.toInt + (-1) := gI_inc hz334730 (by decide) bg333614' (by decide) (by decide)
                                    have bz334730 : gB z334730 (-1) 999998 := ⟨by omega, by omega⟩
                                    refine G_iinc (L' := [(5, .int z334730), (10, .int g334650), (9, .int 0), (8, .int p333676), (7, .int o333719), (6, .ref q333659), (4, .ref q331820), (3, .int g331141), (0, .ref q276994), (1, .ref q276995), (2, .int p276996)]) z334730 5 dr_cX17_graph_284 rfl hz334730.symm (Nat.le_of_ble_eq_true rfl) rfl ?_
                                    refine G_goto 109 dr_cX17_graph_287 (by decide +kernel) ?_
                                    refine G_lv (L' := [(5, .int z334730), (4, .ref q331820), (3, .int g331141), (0, .ref q276994), (1, .ref q276995), (2, .int p276996)]) [0, 6, 7, 8, 9, 10] rfl ?_
                                    exact ih109_333620 F334716 z334730 (gB_w bz334730 (by decide) (by decide)) hT334717 hs334726 (by omega) (fun h0 => by have z := x334654 h0; rw [← kp334728] at z; rw [show ((g333614.toInt : Int).toNat : Nat) = (z334730.toInt + 1 : Int).toNat by omega] at z; exact z) kp334727 (fun k e1 ht => kt109_333621 k e1 (fun R c1 c2 c3 c4 c5 c6 c7 c8 c9 c10 c11 => c9 F333615 g333614 q331830 q333659 p333641 F333694 p333674 p333675 p333678 o333719 p333679 p333676 F334651 q334676 f334681 f334687 F334690 F334716 z334730 k e1 bg333614 hT333616 hs333617 x333618 x333619 x333620 r333635 fq333636 hx333660 fq333664 ht333670 hT333695 hs333696 x333691 x333692 ht333693 fq333711 fq333712 fq333713 bo333719 ht333720 r333982 r334244 fq334245 r334507 fq334508 r334534 r334536 hx334670 fq334671 hx334678 he334680 ht334689 hfr334703 he334693 hT334704 hT334717 hs334718 x334713 x334714 ht334715 ez334730 (ht R c1 c2 c3 c4 c5 c6 c7 c8 c9 c10 c11))) (mz_dn ez334730 (Int.le_trans (by decide) bg333614'.1) hm109_333620)
                                  · have r334731 : g334650.toInt < 32 := gj_nleL hc334668 (show Int32.toInt 32 = 32 by decide)
                                    have bg334650' : gB g334650 0 31 := ⟨by omega, by omega⟩
                                    refine G_aload_n 8 dr_cX17_graph_217 rfl ?_
                                    have fq334732 : fR (F334651 q276994) 1 = (γ 9 1) := by rw [he334666]; rfl
                                    refine Gp_get 1 hm334667 he334666 dr_cX17_graph_218 (gk_X17 D I) (Nat.le_of_ble_eq_true rfl) wr_7_75 rfl ?_
                                    refine G_iload 3 dr_cX17_graph_221 rfl ?_
                                    have hm334733 : (γ 9 1) ∈ P276992 := RS_m hT334652 ht277021 (by decide)
                                    obtain ⟨f334735, he334734, hg334736⟩ := show rk_13 I γ (F334651 (γ 9 1)) from RS_o hT334652 ht277021
                                    obtain ⟨q334737, hx334739⟩ : ∃ x, x = γ 11 o333719.toInt.toNat := ⟨_, rfl⟩
                                    have ht334738 : rKd γ q334737 36 := by rw [hx334739]; exact (hg334736 _ (show o333719.toInt.toNat < 2000 by omega)).2.1
                                    refine Gp_aald 5 hm334733 he334734 dr_cX17_graph_223 rfl rfl (gB_in bo333719' (by decide) (by decide)) ?_
                                    rw [show f334735 o333719.toNatClampNeg = some q334737 from (hg334736 _ (show o333719.toInt.toNat < 2000 by omega)).1.trans (by rw [hx334739])]
                                    change G _ _ _ _ _ _ _ (.ref q334737 :: _) _ _ _
                                    refine G_iload 0 dr_cX17_graph_224 rfl ?_
                                    refine G_dup2_11 dr_cX17_graph_226 rfl rfl ?_
                                    have hm334740 : q334737 ∈ P276992 := RS_m hT334652 ht334738 (by decide)
                                    obtain ⟨f334742, he334741, wf334742⟩ := show rk_36 I (F334651 q334737) from RS_o hT334652 ht334738
                                    refine Gp_lald 2 hm334740 he334741 dr_cX17_graph_227 rfl (gB_in bg334650' (by decide) (by decide)) (G_namL fun u334743 hu334743 => ?_)
                                    have qu334743 : lb_Q u334743 (2000 - 64 * g334650.toInt) := lb_Wld hu334743 wf334742 (by omega) (by omega) (lb_Mod0 (by omega) (by omega))
                                    refine G_aload_n 8 dr_cX17_graph_228 rfl ?_
                                    have fq334744 : fR (F334651 q276994) 2 = (γ 9 2) := by rw [he334666]; rfl
                                    refine Gp_get 2 hm334667 he334666 dr_cX17_graph_229 (gk_X17 D I) (Nat.le_of_ble_eq_true rfl) wr_7_76 rfl ?_
                                    refine G_iload 0 dr_cX17_graph_232 rfl ?_
                                    have hm334745 : (γ 9 2) ∈ P276992 := RS_m hT334652 ht277022 (by decide)
                                    obtain ⟨f334747, he334746, wf334747⟩ := show rk_35 I (F334651 (γ 9 2)) from RS_o hT334652 ht277022
                                    refine Gp_lald 2 hm334745 he334746 dr_cX17_graph_234 rfl (gB_in bg334650' (by decide) (by decide)) (G_namL fun u334748 hu334748 => ?_)
                                    have qu334748 : lb_Q u334748 (2000 - 64 * g334650.toInt) := lb_Wld hu334748 wf334747 (by omega) (by omega) (lb_Mod0 (by omega) (by omega))
                                    refine G_lor dr_cX17_graph_235 (G_namL fun u334749 hu334749 => ?_)
                                    have qu334749 : lb_Q u334749 (2000 - 64 * g334650.toInt) := lb_Qor hu334749 qu334743 qu334748
                                    refine Gp_last 2 hm334740 he334741 dr_cX17_graph_236 rfl (gB_in bg334650' (by decide) (by decide)) (fun F334750 e334751 n334752 => ?_)
                                    obtain ⟨f334753, hf334753⟩ : ∃ z, z = vp_updL f334742 g334650.toNatClampNeg u334749 := ⟨_, rfl⟩
                                    rw [← hf334753] at e334751
                                    have he334754 : F334750 q276995 = .inr (18, [.ref q331154, .ref q331155, .int p331156, .int p331157]) := (n334752 q276995 (rn_oa he334658 he334741)).trans he334658
                                    have he334755 : F334750 q331154 = .inr (4, [.int p331801, .ref q331803, .int p331802]) := (n334752 q331154 (rn_oa he334659 he334741)).trans he334659
                                    have he334756 : F334750 q331803 = .inl (I (.object "java/lang/Object"), n331817, .inr (.inr (.inr (.inr f331818)))) := (n334752 q331803 (rn_ref_long he334660 he334741)).trans he334660
                                    have he334757 : F334750 q331820 = .inr (17, [.ref q331830, .ref q331831, .int p331832, .int p331833]) := (n334752 q331820 (rn_oa he334661 he334741)).trans he334661
                                    have he334758 : F334750 q331830 = .inr (4, [.int p333640, .ref q333642, .int p333641]) := (n334752 q331830 (rn_oa he334662 he334741)).trans he334662
                                    have he334759 : F334750 q333642 = .inl (I (.object "java/lang/Object"), n333656, .inr (.inr (.inr (.inr f333657)))) := (n334752 q333642 (rn_ref_long he334663 he334741)).trans he334663
                                    have he334760 : F334750 q333659 = .inr (20, [.int p333674, .int p333675, .int p333676, .int p333677, .int p333678, .int p333679, .int p333680]) := (n334752 q333659 (rn_oa he334664 he334741)).trans he334664
                                    have he334761 : F334750 q276994 = .inr (22, [.ref (γ 9 0), .ref (γ 9 1), .ref (γ 9 2), .ref (γ 9 3), .ref (γ 9 4), .ref (γ 9 5), .ref (γ 9 6), .ref (γ 9 7), .ref (γ 9 8), .int p277003, .int p277004, .int p277005, .int p277006, .int p277007, .int p277008, .ref (γ 9 15), .ref (γ 9 16), .ref (γ 9 17), .ref (γ 9 18), .ref (γ 9 19), .ref (γ 9 20), .ref (γ 9 21), .ref (γ 9 22), .int p277009, .int p277010, .int p277011, .int p277012, .int p277013, .ref q277001, .ref (γ 9 29), .int p277014, .ref (γ 9 31), .int p277015, .int p277016, .int p277017, .ref q277002]) := (n334752 q276994 (rn_oa he334666 he334741)).trans he334666
                                    have he334762 : F334750 (γ 9 1) = .inl (I (.array .long), 2000, .inr (.inr (.inr (.inr f334735)))) := (n334752 (γ 9 1) (rn_ref_long he334734 he334741)).trans he334734
                                    have he334763 : F334750 (γ 9 2) = .inl (I .long, 32, .inr (.inl f334747)) := (n334752 (γ 9 2) (rn_ty ht277022 ht334738 (by decide))).trans he334746
                                    have he334764 : F334750 q334737 = .inl (I .long, 32, .inr (.inl f334753)) := e334751
                                    have hs334765 : rStr γ [] F276993 F334750 := rStr_put hs334653 n334752 ht334738 (by decide)
                                    have kp334766 : F334750 q276994 = F276993 q276994 := (n334752 q276994 (rn_ty htq276994 ht334738 (by decide))).trans x334655
                                    have kp334767 : F334750 (γ 9 3) = F334651 (γ 9 3) := n334752 (γ 9 3) (rn_ty ht277023 ht334738 (by decide))
                                    have wf334753 : lb_W f334753 (32) (32) (2000) := lb_Wst hf334753 wf334742 (by omega) (lb_Mod0 (by omega) (by omega)) qu334749
                                    obtain ⟨z334768, hz334768⟩ : ∃ z : Int32, z = g334650 + Int32.ofInt 1 := ⟨_, rfl⟩
                                    have ez334768 : z334768.toInt = g334650.toInt + 1 := gI_inc hz334768 (by decide) bg334650' (by decide) (by decide)
                                    have bz334768 : gB z334768 1 32 := ⟨by omega, by omega⟩
                                    refine G_iinc (L' := [(10, .int z334768), (9, .int 0), (8, .int p333676), (7, .int o333719), (6, .ref q333659), (5, .int g333614), (4, .ref q331820), (3, .int g331141), (0, .ref q276994), (1, .ref q276995), (2, .int p276996)]) z334768 0 dr_cX17_graph_237 rfl hz334768.symm (Nat.le_of_ble_eq_true rfl) rfl ?_
                                    refine G_goto 210 dr_cX17_graph_240 (by decide +kernel) ?_
                                    have hT334769 : RS D I P276992 F334750 γ el := RS_set hT334652 n334752 ht334738 (by decide) ⟨f334753, he334764, wf334753⟩
                                    exact ih210_334655 F334750 z334768 (gB_w bz334768 (by decide) (by decide)) hT334769 hs334765 (by rw [kp334767]; exact x334654) kp334766 (fun k e1 ht => kt210_334656 k e1 (fun R c1 c2 => c2 F334651 g334650 q334737 f334742 u334743 f334747 u334748 u334749 f334753 F334750 z334768 k e1 bg334650 hT334652 hs334653 x334654 x334655 r334731 fq334732 hx334739 he334741 hu334743 fq334744 he334746 hu334748 hu334749 hf334753 n334752 he334764 ez334768 (ht R c1 c2))) (mz_up ez334768 (Int.le_trans bg334650'.2 (by decide)) hm210_334655)
                              exact hlp210_334655 (((33 : Int) - 0).toNat + 1) F333694 0 (gB_w (gBl (show Int32.toInt 0 = 0 by decide)) (by decide) (by decide)) hT333695 hs333704 gr333710 kp333705 (fun k e1 ht => ht) (Nat.lt_succ_self _)
                            · have r334770 : 0 ≤ p333676.toInt := gj_nlt hc334535 (show Int32.toInt 0 = 0 by decide)
                              have bp333676' : gB p333676 0 2147483647 := ⟨by omega, by omega⟩
                              refine G_aload_n 6 dr_cX17_graph_185 rfl ?_
                              have fq334771 : fR (F333694 q276994) 1 = (γ 9 1) := by rw [he333706]; rfl
                              refine Gp_get 1 hm333630 he333706 dr_cX17_graph_186 (gk_X17 D I) (Nat.le_of_ble_eq_true rfl) wr_7_75 rfl ?_
                              refine G_iload 1 dr_cX17_graph_189 rfl ?_
                              have hm334772 : (γ 9 1) ∈ P276992 := RS_m hT333695 ht277021 (by decide)
                              obtain ⟨f334774, he334773, hg334775⟩ := show rk_13 I γ (F333694 (γ 9 1)) from RS_o hT333695 ht277021
                              obtain ⟨q334776, hx334778⟩ : ∃ x, x = γ 11 o333719.toInt.toNat := ⟨_, rfl⟩
                              have ht334777 : rKd γ q334776 36 := by rw [hx334778]; exact (hg334775 _ (show o333719.toInt.toNat < 2000 by omega)).2.1
                              refine Gp_aald 5 hm334772 he334773 dr_cX17_graph_191 rfl rfl (gB_in bo333719' (by decide) (by decide)) ?_
                              rw [show f334774 o333719.toNatClampNeg = some q334776 from (hg334775 _ (show o333719.toInt.toNat < 2000 by omega)).1.trans (by rw [hx334778])]
                              change G _ _ _ _ _ _ _ (.ref q334776 :: _) _ _ _
                              refine G_iload 0 dr_cX17_graph_192 rfl ?_
                              have hm334779 : q334776 ∈ P276992 := RS_m hT333695 ht334777 (by decide)
                              obtain ⟨f334781, he334780, wf334781⟩ := show rk_36 I (F333694 q334776) from RS_o hT333695 ht334777
                              refine Gw_callS (As := [.ref q334776, .int p333676]) (gV_ok D I) (cp_1845_SpillForgeModel_has l hl0 D I P276992 F333694 q334776 p333676 f334781 hm334779 he334780 ⟨by omega, by omega⟩) dr_cX17_graph_194 ⟨wr_10_203, wr_1_14, wr_10_205, by decide, rfl, (Nat.le_of_ble_eq_true rfl), (Nat.le_of_ble_eq_true rfl)⟩ wr_10_204 (show 0 + 0 ≤ 0 by first | omega | decide) (show 0 + 0 ≤ 0 by first | omega | decide) (Nat.le_of_ble_eq_true rfl) (fun r334785 w334786 dc334782 ds334783 hp334784 => ?_) (fun _ _ _ _ _ z => z.elim)
                              rcases hp334784 with ⟨z334787, z334788, rfl, rfl, hdc, hds, r334789, r334790, r334791, r334792, r334793⟩ | ⟨z334794, z334795, rfl, rfl, hdc, hds, r334796, r334797, r334798, r334799, r334800⟩
                              · change G _ _ _ _ _ _ _ (.int 0 :: _) _ _ _
                                refine G_widen (cs' := 0) (sl' := 0) (by omega) (by omega) ?_
                                refine G_if_eq 204 dr_cX17_graph_197 (by decide +kernel) (fun _ => ?_) (fun hc => absurd hc (by decide))
                                refine G_iconst 0 dr_cX17_graph_204 (by decide +kernel) ?_
                                refine G_istore (L' := [(9, .int 0), (8, .int p333676), (7, .int o333719), (6, .ref q333659), (5, .int g333614), (4, .ref q331820), (3, .int g331141), (0, .ref q276994), (1, .ref q276995), (2, .int p276996)]) dr_cX17_graph_205 (Nat.le_of_ble_eq_true rfl) rfl ?_
                                refine G_iconst 0 dr_cX17_graph_207 (by decide +kernel) ?_
                                refine G_istore (L' := [(10, .int 0), (9, .int 0), (8, .int p333676), (7, .int o333719), (6, .ref q333659), (5, .int g333614), (4, .ref q331820), (3, .int g331141), (0, .ref q276994), (1, .ref q276995), (2, .int p276996)]) dr_cX17_graph_208 (Nat.le_of_ble_eq_true rfl) rfl ?_
                                have hlp210_334952 : ∀ (n210_334952 : Nat) (F334948 : Nat → va_E) (g334947 : Int32), gB g334947 0 32 → RS D I P276992 F334948 γ el → rStr γ [] F276993 F334948 → (gIp (p276996.toInt = 0) (rGr γ el F276993 q276995 (γ 6 (γ 1 q276995)) (cB (F334948 (γ 9 3))) (vB (g331141.toInt : Int).toNat (g333614.toInt : Int).toNat))) → (F334948 q276994 = F276993 q276994) → (∀ (k : Nat) (e1 : Nat → va_E), tl_RModel_graph_210_5 D I γ el P276992 F276993 p276996 q276995 g331141 g333614 q276994 o333719 F334948 g334947 k e1 → tl_RModel_graph_210_5 D I γ el P276992 F276993 p276996 q276995 g331141 g333614 q276994 o333719 F333694 (0 : Int32) k e1) → ((33 : Int) - g334947.toInt).toNat < n210_334952 → G (gV D I) l (gRm 5 111 0 0) (gMA (gV D I) (pt_276998_SpillForgeModel_graph D I γ el P276992 F276993 q276994 q276995 p276996) gNA 0 0) ky_276998_SpillForgeModel_graph 210 [(10, .int g334947), (9, .int 0), (8, .int p333676), (7, .int o333719), (6, .ref q333659), (5, .int g333614), (4, .ref q331820), (3, .int g331141), (0, .ref q276994), (1, .ref q276995), (2, .int p276996)] [] (va_pl P276992 F334948) 0 0 := by
                                  intro n210_334952
                                  induction n210_334952 with
                                  | zero => intro F334948 g334947 bg334947 hT334949 hs334950 x334951 x334952 kt210_334953 hm210_334952; exact absurd hm210_334952 (Nat.not_lt_zero _)
                                  | succ n210_334952 ih210_334952 =>
                                    intro F334948 g334947 bg334947 hT334949 hs334950 x334951 x334952 kt210_334953 hm210_334952
                                    have hs334954 : rStr γ [] F333694 F334948 := fun b h0 hb hw => (hs334950 b h0 hb hw).trans (hs333704 b h0 hb hw).symm
                                    have he334955 : F334948 q276995 = .inr (18, [.ref q331154, .ref q331155, .int p331156, .int p331157]) := (hs334954 q276995 (rT0 htq276995 (by decide)) (rT1 htq276995 (by decide)) (rT2 htq276995 (by decide))).trans he333697
                                    have he334956 : F334948 q331154 = .inr (4, [.int p331801, .ref q331803, .int p331802]) := (hs334954 q331154 (rT0 ht331158 (by decide)) (rT1 ht331158 (by decide)) (rT2 ht331158 (by decide))).trans he333698
                                    have he334957 : F334948 q331803 = .inl (I (.object "java/lang/Object"), n331817, .inr (.inr (.inr (.inr f331818)))) := (hs334954 q331803 (rT0 r331809 (by decide)) (rT1 r331809 (by decide)) (rT2 r331809 (by decide))).trans he333699
                                    have he334958 : F334948 q331820 = .inr (17, [.ref q331830, .ref q331831, .int p331832, .int p331833]) := (hs334954 q331820 (rT0 ht331826 (by decide)) (rT1 ht331826 (by decide)) (rT2 ht331826 (by decide))).trans he333700
                                    have he334959 : F334948 q331830 = .inr (4, [.int p333640, .ref q333642, .int p333641]) := (hs334954 q331830 (rT0 ht331834 (by decide)) (rT1 ht331834 (by decide)) (rT2 ht331834 (by decide))).trans he333701
                                    have he334960 : F334948 q333642 = .inl (I (.object "java/lang/Object"), n333656, .inr (.inr (.inr (.inr f333657)))) := (hs334954 q333642 (rT0 r333648 (by decide)) (rT1 r333648 (by decide)) (rT2 r333648 (by decide))).trans he333702
                                    have he334961 : F334948 q333659 = .inr (20, [.int p333674, .int p333675, .int p333676, .int p333677, .int p333678, .int p333679, .int p333680]) := (hs334954 q333659 (rT0 ht333662 (by decide)) (rT1 ht333662 (by decide)) (rT2 ht333662 (by decide))).trans he333703
                                    have hs334962 : rStr γ [] F276993 F334948 := rStr_tr hs333704 hs334954
                                    have he334963 : F334948 q276994 = .inr (22, [.ref (γ 9 0), .ref (γ 9 1), .ref (γ 9 2), .ref (γ 9 3), .ref (γ 9 4), .ref (γ 9 5), .ref (γ 9 6), .ref (γ 9 7), .ref (γ 9 8), .int p277003, .int p277004, .int p277005, .int p277006, .int p277007, .int p277008, .ref (γ 9 15), .ref (γ 9 16), .ref (γ 9 17), .ref (γ 9 18), .ref (γ 9 19), .ref (γ 9 20), .ref (γ 9 21), .ref (γ 9 22), .int p277009, .int p277010, .int p277011, .int p277012, .int p277013, .ref q277001, .ref (γ 9 29), .int p277014, .ref (γ 9 31), .int p277015, .int p277016, .int p277017, .ref q277002]) := x334952.trans he277000
                                    have hm334964 : q276994 ∈ P276992 := RS_m hT334949 htq276994 (by decide)
                                    refine G_iload 0 dr_cX17_graph_210 rfl ?_
                                    refine G_bipush 32 dr_cX17_graph_212 (by decide +kernel) ?_
                                    refine G_icmp_ge 243 dr_cX17_graph_214 (by decide +kernel) (fun hc334965 => ?_) (fun hc334965 => ?_)
                                    · have r334966 : 32 ≤ g334947.toInt := gj_leL hc334965 (show Int32.toInt 32 = 32 by decide)
                                      have bg334947' : gB g334947 32 32 := ⟨by omega, by omega⟩
                                      have hx334967 : tl_RModel_graph_210_5 D I γ el P276992 F276993 p276996 q276995 g331141 g333614 q276994 o333719 F333694 (0 : Int32) 243 F334948 := kt210_334953 243 F334948 (fun R c1 c2 => c1 F334948 g334947 bg334947 hT334949 hs334950 x334951 x334952 r334966)
                                      refine G_iload 2 dr_cX17_graph_243 rfl ?_
                                      refine G_if_lt 265 dr_cX17_graph_245 (by decide +kernel) (fun hc => absurd (show False by have := gj_lt hc (show Int32.toInt 0 = 0 by decide); omega) not_false) (fun _ => ?_)
                                      refine G_iload 1 dr_cX17_graph_248 rfl ?_
                                      refine G_if_ne 265 dr_cX17_graph_250 (by decide +kernel) (fun hc => absurd hc (by decide)) (fun _ => ?_)
                                      refine G_aload_n 8 dr_cX17_graph_253 rfl ?_
                                      have fq334968 : fR (F334948 q276994) 1 = (γ 9 1) := by rw [he334963]; rfl
                                      refine Gp_get 1 hm334964 he334963 dr_cX17_graph_254 (gk_X17 D I) (Nat.le_of_ble_eq_true rfl) wr_7_75 rfl ?_
                                      refine G_iload 3 dr_cX17_graph_257 rfl ?_
                                      have hm334969 : (γ 9 1) ∈ P276992 := RS_m hT334949 ht277021 (by decide)
                                      obtain ⟨f334971, he334970, hg334972⟩ := show rk_13 I γ (F334948 (γ 9 1)) from RS_o hT334949 ht277021
                                      obtain ⟨q334973, hx334975⟩ : ∃ x, x = γ 11 o333719.toInt.toNat := ⟨_, rfl⟩
                                      have ht334974 : rKd γ q334973 36 := by rw [hx334975]; exact (hg334972 _ (show o333719.toInt.toNat < 2000 by omega)).2.1
                                      refine Gp_aald 5 hm334969 he334970 dr_cX17_graph_259 rfl rfl (gB_in bo333719' (by decide) (by decide)) ?_
                                      rw [show f334971 o333719.toNatClampNeg = some q334973 from (hg334972 _ (show o333719.toInt.toNat < 2000 by omega)).1.trans (by rw [hx334975])]
                                      change G _ _ _ _ _ _ _ (.ref q334973 :: _) _ _ _
                                      refine G_iload 2 dr_cX17_graph_260 rfl ?_
                                      have hm334976 : q334973 ∈ P276992 := RS_m hT334949 ht334974 (by decide)
                                      obtain ⟨f334978, he334977, wf334978⟩ := show rk_36 I (F334948 q334973) from RS_o hT334949 ht334974
                                      refine Gw_callS (As := [.ref q334973, .int p333676]) (gV_ok D I) (cp_1880_SpillForgeModel_clear l hl0 D I P276992 F334948 q334973 p333676 f334978 hm334976 he334977 ⟨by omega, by omega⟩ wf334978) dr_cX17_graph_262 ⟨wr_10_185, wr_1_14, wr_10_187, by decide, rfl, (Nat.le_of_ble_eq_true rfl), (Nat.le_of_ble_eq_true rfl)⟩ wr_10_186 (show 0 + 0 ≤ 0 by first | omega | decide) (show 0 + 0 ≤ 0 by first | omega | decide) (Nat.le_of_ble_eq_true rfl) (fun r334982 w334983 dc334979 ds334980 hp334981 => ?_) (fun _ _ _ _ _ z => z.elim)
                                      obtain ⟨F334987, f334984, rfl, rfl, hfr334989, he334990, hdc, hds, x334985, ht334986⟩ := hp334981
                                      have he334991 : F334987 q276995 = .inr (18, [.ref q331154, .ref q331155, .int p331156, .int p331157]) := (hfr334989 q276995 hm331152 (nm_c (rn_oa he334955 he334977) nm_n)).trans he334955
                                      have he334992 : F334987 q331154 = .inr (4, [.int p331801, .ref q331803, .int p331802]) := (hfr334989 q331154 hm331799 (nm_c (rn_oa he334956 he334977) nm_n)).trans he334956
                                      have he334993 : F334987 q331803 = .inl (I (.object "java/lang/Object"), n331817, .inr (.inr (.inr (.inr f331818)))) := (hfr334989 q331803 hm331819 (nm_c (rn_ref_long he334957 he334977) nm_n)).trans he334957
                                      have he334994 : F334987 q331820 = .inr (17, [.ref q331830, .ref q331831, .int p331832, .int p331833]) := (hfr334989 q331820 hm331828 (nm_c (rn_oa he334958 he334977) nm_n)).trans he334958
                                      have he334995 : F334987 q331830 = .inr (4, [.int p333640, .ref q333642, .int p333641]) := (hfr334989 q331830 hm333638 (nm_c (rn_oa he334959 he334977) nm_n)).trans he334959
                                      have he334996 : F334987 q333642 = .inl (I (.object "java/lang/Object"), n333656, .inr (.inr (.inr (.inr f333657)))) := (hfr334989 q333642 hm333658 (nm_c (rn_ref_long he334960 he334977) nm_n)).trans he334960
                                      have he334997 : F334987 q333659 = .inr (20, [.int p333674, .int p333675, .int p333676, .int p333677, .int p333678, .int p333679, .int p333680]) := (hfr334989 q333659 hm333672 (nm_c (rn_oa he334961 he334977) nm_n)).trans he334961
                                      have he334998 : F334987 q276994 = .inr (22, [.ref (γ 9 0), .ref (γ 9 1), .ref (γ 9 2), .ref (γ 9 3), .ref (γ 9 4), .ref (γ 9 5), .ref (γ 9 6), .ref (γ 9 7), .ref (γ 9 8), .int p277003, .int p277004, .int p277005, .int p277006, .int p277007, .int p277008, .ref (γ 9 15), .ref (γ 9 16), .ref (γ 9 17), .ref (γ 9 18), .ref (γ 9 19), .ref (γ 9 20), .ref (γ 9 21), .ref (γ 9 22), .int p277009, .int p277010, .int p277011, .int p277012, .int p277013, .ref q277001, .ref (γ 9 29), .int p277014, .ref (γ 9 31), .int p277015, .int p277016, .int p277017, .ref q277002]) := (hfr334989 q276994 hm334964 (nm_c (rn_oa he334963 he334977) nm_n)).trans he334963
                                      have he334999 : F334987 (γ 9 1) = .inl (I (.array .long), 2000, .inr (.inr (.inr (.inr f334971)))) := (hfr334989 (γ 9 1) hm334969 (nm_c (rn_ref_long he334970 he334977) nm_n)).trans he334970
                                      have hfr335000 : rFr [q334973] P276992 F334948 F334987 := rFr_call (rSub_rf (P := P276992)) (rFr_rf (W := []) (P := P276992) (F := F334948)) hfr334989 (fun b hb hn => ⟨nm_n, (nm_c (fun e => hn (e ▸ List.mem_cons_self)) nm_n)⟩)
                                      change G _ _ _ _ _ _ _ _ _ _ _
                                      refine G_widen (cs' := 0) (sl' := 0) (by omega) (by omega) ?_
                                      have hT335001 : RS D I P276992 F334987 γ el := RS_fr hT334949 hfr335000 ht334974 (by decide) ⟨f334984, he334990, x334985⟩
                                      have hs335002 : rStr γ [] F276993 F334987 := rStr_fr hT334949 hs334950 hfr335000 ht334974 (by decide)
                                      have kp335003 : F334987 q276994 = F276993 q276994 := (hfr335000 q276994 (RS_m hT334949 htq276994 (by decide)) (nm_c (rn_ty htq276994 ht334974 (by decide)) nm_n)).trans x334952
                                      have kp335004 : F334987 (γ 9 3) = F334948 (γ 9 3) := hfr335000 (γ 9 3) (RS_m hT334949 ht277023 (by decide)) (nm_c (rn_ty ht277023 ht334974 (by decide)) nm_n)
                                      refine G_aload_n 8 dr_cX17_graph_265 rfl ?_
                                      have fq335005 : fR (F334987 q276994) 1 = (γ 9 1) := by rw [he334998]; rfl
                                      refine Gp_get 1 hm334964 he334998 dr_cX17_graph_266 (gk_X17 D I) (Nat.le_of_ble_eq_true rfl) wr_7_75 rfl ?_
                                      refine G_iload 3 dr_cX17_graph_269 rfl ?_
                                      obtain ⟨q335006, hx335008⟩ : ∃ x, x = γ 11 o333719.toInt.toNat := ⟨_, rfl⟩
                                      have ht335007 : rKd γ q335006 36 := by rw [hx335008]; exact (hg334972 _ (show o333719.toInt.toNat < 2000 by omega)).2.1
                                      refine Gp_aald 5 hm334969 he334999 dr_cX17_graph_271 rfl rfl (gB_in bo333719' (by decide) (by decide)) ?_
                                      rw [show f334971 o333719.toNatClampNeg = some q335006 from (hg334972 _ (show o333719.toInt.toNat < 2000 by omega)).1.trans (by rw [hx335008])]
                                      change G _ _ _ _ _ _ _ (.ref q335006 :: _) _ _ _
                                      refine G_iload 3 dr_cX17_graph_272 rfl ?_
                                      have hm335009 : q335006 ∈ P276992 := RS_m hT335001 ht335007 (by decide)
                                      obtain ⟨f335011, he335010, wf335011⟩ := show rk_36 I (F334987 q335006) from RS_o hT335001 ht335007
                                      refine Gw_callS (As := [.ref q335006, .int o333719]) (gV_ok D I) (cp_1880_SpillForgeModel_clear l hl0 D I P276992 F334987 q335006 o333719 f335011 hm335009 he335010 bo333719' wf335011) dr_cX17_graph_274 ⟨wr_10_185, wr_1_14, wr_10_187, by decide, rfl, (Nat.le_of_ble_eq_true rfl), (Nat.le_of_ble_eq_true rfl)⟩ wr_10_186 (show 0 + 0 ≤ 0 by first | omega | decide) (show 0 + 0 ≤ 0 by first | omega | decide) (Nat.le_of_ble_eq_true rfl) (fun r335015 w335016 dc335012 ds335013 hp335014 => ?_) (fun _ _ _ _ _ z => z.elim)
                                      obtain ⟨F335020, f335017, rfl, rfl, hfr335022, he335023, hdc, hds, x335018, ht335019⟩ := hp335014
                                      have he335024 : F335020 q276995 = .inr (18, [.ref q331154, .ref q331155, .int p331156, .int p331157]) := (hfr335022 q276995 hm331152 (nm_c (rn_oa he334991 he335010) nm_n)).trans he334991
                                      have he335025 : F335020 q331154 = .inr (4, [.int p331801, .ref q331803, .int p331802]) := (hfr335022 q331154 hm331799 (nm_c (rn_oa he334992 he335010) nm_n)).trans he334992
                                      have he335026 : F335020 q331803 = .inl (I (.object "java/lang/Object"), n331817, .inr (.inr (.inr (.inr f331818)))) := (hfr335022 q331803 hm331819 (nm_c (rn_ref_long he334993 he335010) nm_n)).trans he334993
                                      have he335027 : F335020 q331820 = .inr (17, [.ref q331830, .ref q331831, .int p331832, .int p331833]) := (hfr335022 q331820 hm331828 (nm_c (rn_oa he334994 he335010) nm_n)).trans he334994
                                      have he335028 : F335020 q331830 = .inr (4, [.int p333640, .ref q333642, .int p333641]) := (hfr335022 q331830 hm333638 (nm_c (rn_oa he334995 he335010) nm_n)).trans he334995
                                      have he335029 : F335020 q333642 = .inl (I (.object "java/lang/Object"), n333656, .inr (.inr (.inr (.inr f333657)))) := (hfr335022 q333642 hm333658 (nm_c (rn_ref_long he334996 he335010) nm_n)).trans he334996
                                      have he335030 : F335020 q333659 = .inr (20, [.int p333674, .int p333675, .int p333676, .int p333677, .int p333678, .int p333679, .int p333680]) := (hfr335022 q333659 hm333672 (nm_c (rn_oa he334997 he335010) nm_n)).trans he334997
                                      have he335031 : F335020 q276994 = .inr (22, [.ref (γ 9 0), .ref (γ 9 1), .ref (γ 9 2), .ref (γ 9 3), .ref (γ 9 4), .ref (γ 9 5), .ref (γ 9 6), .ref (γ 9 7), .ref (γ 9 8), .int p277003, .int p277004, .int p277005, .int p277006, .int p277007, .int p277008, .ref (γ 9 15), .ref (γ 9 16), .ref (γ 9 17), .ref (γ 9 18), .ref (γ 9 19), .ref (γ 9 20), .ref (γ 9 21), .ref (γ 9 22), .int p277009, .int p277010, .int p277011, .int p277012, .int p277013, .ref q277001, .ref (γ 9 29), .int p277014, .ref (γ 9 31), .int p277015, .int p277016, .int p277017, .ref q277002]) := (hfr335022 q276994 hm334964 (nm_c (rn_oa he334998 he335010) nm_n)).trans he334998
                                      have he335032 : F335020 (γ 9 1) = .inl (I (.array .long), 2000, .inr (.inr (.inr (.inr f334971)))) := (hfr335022 (γ 9 1) hm334969 (nm_c (rn_ref_long he334999 he335010) nm_n)).trans he334999
                                      have hfr335033 : rFr [q335006] P276992 F334987 F335020 := rFr_call (rSub_rf (P := P276992)) (rFr_rf (W := []) (P := P276992) (F := F334987)) hfr335022 (fun b hb hn => ⟨nm_n, (nm_c (fun e => hn (e ▸ List.mem_cons_self)) nm_n)⟩)
                                      change G _ _ _ _ _ _ _ _ _ _ _
                                      refine G_widen (cs' := 0) (sl' := 0) (by omega) (by omega) ?_
                                      have hT335034 : RS D I P276992 F335020 γ el := RS_fr hT335001 hfr335033 ht335007 (by decide) ⟨f335017, he335023, x335018⟩
                                      have hs335035 : rStr γ [] F276993 F335020 := rStr_fr hT335001 hs335002 hfr335033 ht335007 (by decide)
                                      have kp335036 : F335020 q276994 = F276993 q276994 := (hfr335033 q276994 (RS_m hT335001 htq276994 (by decide)) (nm_c (rn_ty htq276994 ht335007 (by decide)) nm_n)).trans kp335003
                                      have kp335037 : F335020 (γ 9 3) = F334948 (γ 9 3) := (hfr335033 (γ 9 3) (RS_m hT335001 ht277023 (by decide)) (nm_c (rn_ty ht277023 ht335007 (by decide)) nm_n)).trans kp335004
                                      refine G_aload_n 8 dr_cX17_graph_277 rfl ?_
                                      refine G_aload 4 dr_cX17_graph_278 rfl ?_
                                      refine G_iload_n 10 dr_cX17_graph_280 rfl ?_
                                      refine Gw_callV (As := [.ref q333659, .int p276996]) (gV_ok D I) (ct_283829_SpillForgeModel_back l hl0 D I γ el P276992 F335020 q276994 q333659 p276996 hT335034 htq276994 ht333662 (gB_w bp276996' (by decide) (by decide))) dr_cX17_graph_281 ⟨wr_10_174, wr_1_14, wr_10_177, by decide, rfl, (Nat.le_of_ble_eq_true rfl), (Nat.le_of_ble_eq_true rfl)⟩ wr_10_176 wr_p_96 hm334964 he335031 rfl (show 0 + 0 ≤ 0 by first | omega | decide) (show 0 + 0 ≤ 0 by first | omega | decide) (Nat.le_of_ble_eq_true rfl) (fun r335041 w335042 dc335038 ds335039 hp335040 => ?_) (fun _ _ _ _ _ z => z.elim)
                                      obtain ⟨F335046, rfl, rfl, hT335047, hs335048, hdc, hds, x335043, x335044, ht335045⟩ := hp335040
                                      have he335049 : F335046 q276995 = .inr (18, [.ref q331154, .ref q331155, .int p331156, .int p331157]) := (hs335048 q276995 (rT0 htq276995 (by decide)) (rT1 htq276995 (by decide)) (rT2 htq276995 (by decide))).trans he335024
                                      have he335050 : F335046 q331154 = .inr (4, [.int p331801, .ref q331803, .int p331802]) := (hs335048 q331154 (rT0 ht331158 (by decide)) (rT1 ht331158 (by decide)) (rT2 ht331158 (by decide))).trans he335025
                                      have he335051 : F335046 q331803 = .inl (I (.object "java/lang/Object"), n331817, .inr (.inr (.inr (.inr f331818)))) := (hs335048 q331803 (rT0 r331809 (by decide)) (rT1 r331809 (by decide)) (rT2 r331809 (by decide))).trans he335026
                                      have he335052 : F335046 q331820 = .inr (17, [.ref q331830, .ref q331831, .int p331832, .int p331833]) := (hs335048 q331820 (rT0 ht331826 (by decide)) (rT1 ht331826 (by decide)) (rT2 ht331826 (by decide))).trans he335027
                                      have he335053 : F335046 q331830 = .inr (4, [.int p333640, .ref q333642, .int p333641]) := (hs335048 q331830 (rT0 ht331834 (by decide)) (rT1 ht331834 (by decide)) (rT2 ht331834 (by decide))).trans he335028
                                      have he335054 : F335046 q333642 = .inl (I (.object "java/lang/Object"), n333656, .inr (.inr (.inr (.inr f333657)))) := (hs335048 q333642 (rT0 r333648 (by decide)) (rT1 r333648 (by decide)) (rT2 r333648 (by decide))).trans he335029
                                      have he335055 : F335046 q333659 = .inr (20, [.int p333674, .int p333675, .int p333676, .int p333677, .int p333678, .int p333679, .int p333680]) := (hs335048 q333659 (rT0 ht333662 (by decide)) (rT1 ht333662 (by decide)) (rT2 ht333662 (by decide))).trans he335030
                                      have hs335056 : rStr γ [] F276993 F335046 := rStr_tr hs335035 hs335048
                                      have kp335057 : F335046 q276994 = F276993 q276994 := (x335043).trans kp335036
                                      have kp335058 : F335046 (γ 9 3) = F334948 (γ 9 3) := (x335044).trans kp335037
                                      have he335059 : F335046 q276994 = .inr (22, [.ref (γ 9 0), .ref (γ 9 1), .ref (γ 9 2), .ref (γ 9 3), .ref (γ 9 4), .ref (γ 9 5), .ref (γ 9 6), .ref (γ 9 7), .ref (γ 9 8), .int p277003, .int p277004, .int p277005, .int p277006, .int p277007, .int p277008, .ref (γ 9 15), .ref (γ 9 16), .ref (γ 9 17), .ref (γ 9 18), .ref (γ 9 19), .ref (γ 9 20), .ref (γ 9 21), .ref (γ 9 22), .int p277009, .int p277010, .int p277011, .int p277012, .int p277013, .ref q277001, .ref (γ 9 29), .int p277014, .ref (γ 9 31), .int p277015, .int p277016, .int p277017, .ref q277002]) := (x335043).trans he335031
                                      change G _ _ _ _ _ _ _ _ _ _ _
                                      refine G_widen (cs' := 0) (sl' := 0) (by omega) (by omega) ?_
                                      obtain ⟨z335060, hz335060⟩ : ∃ z : Int32, z = g333614 + Int32.ofInt (-1) := ⟨_, rfl⟩
                                      have ez335060 : z335060.toInt = g333614.toInt + (-1) := gI_inc hz335060 (by decide) bg333614' (by decide) (by decide)
                                      have bz335060 : gB z335060 (-1) 999998 := ⟨by omega, by omega⟩
                                      refine G_iinc (L' := [(5, .int z335060), (10, .int g334947), (9, .int 0), (8, .int p333676), (7, .int o333719), (6, .ref q333659), (4, .ref q331820), (3, .int g331141), (0, .ref q276994), (1, .ref q276995), (2, .int p276996)]) z335060 5 dr_cX17_graph_284 rfl hz335060.symm (Nat.le_of_ble_eq_true rfl) rfl ?_
                                      refine G_goto 109 dr_cX17_graph_287 (by decide +kernel) ?_
                                      refine G_lv (L' := [(5, .int z335060), (4, .ref q331820), (3, .int g331141), (0, .ref q276994), (1, .ref q276995), (2, .int p276996)]) [0, 6, 7, 8, 9, 10] rfl ?_
                                      exact ih109_333620 F335046 z335060 (gB_w bz335060 (by decide) (by decide)) hT335047 hs335056 (by omega) (fun h0 => by have z := x334951 h0; rw [← kp335058] at z; rw [show ((g333614.toInt : Int).toNat : Nat) = (z335060.toInt + 1 : Int).toNat by omega] at z; exact z) kp335057 (fun k e1 ht => kt109_333621 k e1 (fun R c1 c2 c3 c4 c5 c6 c7 c8 c9 c10 c11 => c10 F333615 g333614 q331830 q333659 p333641 F333694 p333674 p333675 p333678 o333719 p333679 p333676 q334776 f334781 F334948 q334973 f334978 f334984 F334987 q335006 f335011 f335017 F335020 F335046 z335060 k e1 bg333614 hT333616 hs333617 x333618 x333619 x333620 r333635 fq333636 hx333660 fq333664 ht333670 hT333695 hs333696 x333691 x333692 ht333693 fq333711 fq333712 fq333713 bo333719 ht333720 r333982 r334244 fq334245 r334507 fq334508 r334534 r334770 fq334771 hx334778 he334780 r334793 hx334967 fq334968 hx334975 he334977 ht334986 hfr335000 he334990 hT335001 fq335005 hx335008 he335010 ht335019 hfr335033 he335023 hT335034 hT335047 hs335048 x335043 x335044 ht335045 ez335060 (ht R c1 c2 c3 c4 c5 c6 c7 c8 c9 c10 c11))) (mz_dn ez335060 (Int.le_trans (by decide) bg333614'.1) hm109_333620)
                                    · have r335061 : g334947.toInt < 32 := gj_nleL hc334965 (show Int32.toInt 32 = 32 by decide)
                                      have bg334947' : gB g334947 0 31 := ⟨by omega, by omega⟩
                                      refine G_aload_n 8 dr_cX17_graph_217 rfl ?_
                                      have fq335062 : fR (F334948 q276994) 1 = (γ 9 1) := by rw [he334963]; rfl
                                      refine Gp_get 1 hm334964 he334963 dr_cX17_graph_218 (gk_X17 D I) (Nat.le_of_ble_eq_true rfl) wr_7_75 rfl ?_
                                      refine G_iload 3 dr_cX17_graph_221 rfl ?_
                                      have hm335063 : (γ 9 1) ∈ P276992 := RS_m hT334949 ht277021 (by decide)
                                      obtain ⟨f335065, he335064, hg335066⟩ := show rk_13 I γ (F334948 (γ 9 1)) from RS_o hT334949 ht277021
                                      obtain ⟨q335067, hx335069⟩ : ∃ x, x = γ 11 o333719.toInt.toNat := ⟨_, rfl⟩
                                      have ht335068 : rKd γ q335067 36 := by rw [hx335069]; exact (hg335066 _ (show o333719.toInt.toNat < 2000 by omega)).2.1
                                      refine Gp_aald 5 hm335063 he335064 dr_cX17_graph_223 rfl rfl (gB_in bo333719' (by decide) (by decide)) ?_
                                      rw [show f335065 o333719.toNatClampNeg = some q335067 from (hg335066 _ (show o333719.toInt.toNat < 2000 by omega)).1.trans (by rw [hx335069])]
                                      change G _ _ _ _ _ _ _ (.ref q335067 :: _) _ _ _
                                      refine G_iload 0 dr_cX17_graph_224 rfl ?_
                                      refine G_dup2_11 dr_cX17_graph_226 rfl rfl ?_
                                      have hm335070 : q335067 ∈ P276992 := RS_m hT334949 ht335068 (by decide)
                                      obtain ⟨f335072, he335071, wf335072⟩ := show rk_36 I (F334948 q335067) from RS_o hT334949 ht335068
                                      refine Gp_lald 2 hm335070 he335071 dr_cX17_graph_227 rfl (gB_in bg334947' (by decide) (by decide)) (G_namL fun u335073 hu335073 => ?_)
                                      have qu335073 : lb_Q u335073 (2000 - 64 * g334947.toInt) := lb_Wld hu335073 wf335072 (by omega) (by omega) (lb_Mod0 (by omega) (by omega))
                                      refine G_aload_n 8 dr_cX17_graph_228 rfl ?_
                                      have fq335074 : fR (F334948 q276994) 2 = (γ 9 2) := by rw [he334963]; rfl
                                      refine Gp_get 2 hm334964 he334963 dr_cX17_graph_229 (gk_X17 D I) (Nat.le_of_ble_eq_true rfl) wr_7_76 rfl ?_
                                      refine G_iload 0 dr_cX17_graph_232 rfl ?_
                                      have hm335075 : (γ 9 2) ∈ P276992 := RS_m hT334949 ht277022 (by decide)
                                      obtain ⟨f335077, he335076, wf335077⟩ := show rk_35 I (F334948 (γ 9 2)) from RS_o hT334949 ht277022
                                      refine Gp_lald 2 hm335075 he335076 dr_cX17_graph_234 rfl (gB_in bg334947' (by decide) (by decide)) (G_namL fun u335078 hu335078 => ?_)
                                      have qu335078 : lb_Q u335078 (2000 - 64 * g334947.toInt) := lb_Wld hu335078 wf335077 (by omega) (by omega) (lb_Mod0 (by omega) (by omega))
                                      refine G_lor dr_cX17_graph_235 (G_namL fun u335079 hu335079 => ?_)
                                      have qu335079 : lb_Q u335079 (2000 - 64 * g334947.toInt) := lb_Qor hu335079 qu335073 qu335078
                                      refine Gp_last 2 hm335070 he335071 dr_cX17_graph_236 rfl (gB_in bg334947' (by decide) (by decide)) (fun F335080 e335081 n335082 => ?_)
                                      obtain ⟨f335083, hf335083⟩ : ∃ z, z = vp_updL f335072 g334947.toNatClampNeg u335079 := ⟨_, rfl⟩
                                      rw [← hf335083] at e335081
                                      have he335084 : F335080 q276995 = .inr (18, [.ref q331154, .ref q331155, .int p331156, .int p331157]) := (n335082 q276995 (rn_oa he334955 he335071)).trans he334955
                                      have he335085 : F335080 q331154 = .inr (4, [.int p331801, .ref q331803, .int p331802]) := (n335082 q331154 (rn_oa he334956 he335071)).trans he334956
                                      have he335086 : F335080 q331803 = .inl (I (.object "java/lang/Object"), n331817, .inr (.inr (.inr (.inr f331818)))) := (n335082 q331803 (rn_ref_long he334957 he335071)).trans he334957
                                      have he335087 : F335080 q331820 = .inr (17, [.ref q331830, .ref q331831, .int p331832, .int p331833]) := (n335082 q331820 (rn_oa he334958 he335071)).trans he334958
                                      have he335088 : F335080 q331830 = .inr (4, [.int p333640, .ref q333642, .int p333641]) := (n335082 q331830 (rn_oa he334959 he335071)).trans he334959
                                      have he335089 : F335080 q333642 = .inl (I (.object "java/lang/Object"), n333656, .inr (.inr (.inr (.inr f333657)))) := (n335082 q333642 (rn_ref_long he334960 he335071)).trans he334960
                                      have he335090 : F335080 q333659 = .inr (20, [.int p333674, .int p333675, .int p333676, .int p333677, .int p333678, .int p333679, .int p333680]) := (n335082 q333659 (rn_oa he334961 he335071)).trans he334961
                                      have he335091 : F335080 q276994 = .inr (22, [.ref (γ 9 0), .ref (γ 9 1), .ref (γ 9 2), .ref (γ 9 3), .ref (γ 9 4), .ref (γ 9 5), .ref (γ 9 6), .ref (γ 9 7), .ref (γ 9 8), .int p277003, .int p277004, .int p277005, .int p277006, .int p277007, .int p277008, .ref (γ 9 15), .ref (γ 9 16), .ref (γ 9 17), .ref (γ 9 18), .ref (γ 9 19), .ref (γ 9 20), .ref (γ 9 21), .ref (γ 9 22), .int p277009, .int p277010, .int p277011, .int p277012, .int p277013, .ref q277001, .ref (γ 9 29), .int p277014, .ref (γ 9 31), .int p277015, .int p277016, .int p277017, .ref q277002]) := (n335082 q276994 (rn_oa he334963 he335071)).trans he334963
                                      have he335092 : F335080 (γ 9 1) = .inl (I (.array .long), 2000, .inr (.inr (.inr (.inr f335065)))) := (n335082 (γ 9 1) (rn_ref_long he335064 he335071)).trans he335064
                                      have he335093 : F335080 (γ 9 2) = .inl (I .long, 32, .inr (.inl f335077)) := (n335082 (γ 9 2) (rn_ty ht277022 ht335068 (by decide))).trans he335076
                                      have he335094 : F335080 q335067 = .inl (I .long, 32, .inr (.inl f335083)) := e335081
                                      have hs335095 : rStr γ [] F276993 F335080 := rStr_put hs334950 n335082 ht335068 (by decide)
                                      have kp335096 : F335080 q276994 = F276993 q276994 := (n335082 q276994 (rn_ty htq276994 ht335068 (by decide))).trans x334952
                                      have kp335097 : F335080 (γ 9 3) = F334948 (γ 9 3) := n335082 (γ 9 3) (rn_ty ht277023 ht335068 (by decide))
                                      have wf335083 : lb_W f335083 (32) (32) (2000) := lb_Wst hf335083 wf335072 (by omega) (lb_Mod0 (by omega) (by omega)) qu335079
                                      obtain ⟨z335098, hz335098⟩ : ∃ z : Int32, z = g334947 + Int32.ofInt 1 := ⟨_, rfl⟩
                                      have ez335098 : z335098.toInt = g334947.toInt + 1 := gI_inc hz335098 (by decide) bg334947' (by decide) (by decide)
                                      have bz335098 : gB z335098 1 32 := ⟨by omega, by omega⟩
                                      refine G_iinc (L' := [(10, .int z335098), (9, .int 0), (8, .int p333676), (7, .int o333719), (6, .ref q333659), (5, .int g333614), (4, .ref q331820), (3, .int g331141), (0, .ref q276994), (1, .ref q276995), (2, .int p276996)]) z335098 0 dr_cX17_graph_237 rfl hz335098.symm (Nat.le_of_ble_eq_true rfl) rfl ?_
                                      refine G_goto 210 dr_cX17_graph_240 (by decide +kernel) ?_
                                      have hT335099 : RS D I P276992 F335080 γ el := RS_set hT334949 n335082 ht335068 (by decide) ⟨f335083, he335094, wf335083⟩
                                      exact ih210_334952 F335080 z335098 (gB_w bz335098 (by decide) (by decide)) hT335099 hs335095 (by rw [kp335097]; exact x334951) kp335096 (fun k e1 ht => kt210_334953 k e1 (fun R c1 c2 => c2 F334948 g334947 q335067 f335072 u335073 f335077 u335078 u335079 f335083 F335080 z335098 k e1 bg334947 hT334949 hs334950 x334951 x334952 r335061 fq335062 hx335069 he335071 hu335073 fq335074 he335076 hu335078 hu335079 hf335083 n335082 he335094 ez335098 (ht R c1 c2))) (mz_up ez335098 (Int.le_trans bg334947'.2 (by decide)) hm210_334952)
                                exact hlp210_334952 (((33 : Int) - 0).toNat + 1) F333694 0 (gB_w (gBl (show Int32.toInt 0 = 0 by decide)) (by decide) (by decide)) hT333695 hs333704 gr333710 kp333705 (fun k e1 ht => ht) (Nat.lt_succ_self _)
                              · change G _ _ _ _ _ _ _ (.int 1 :: _) _ _ _
                                refine G_widen (cs' := 0) (sl' := 0) (by omega) (by omega) ?_
                                refine G_if_eq 204 dr_cX17_graph_197 (by decide +kernel) (fun hc => absurd hc (by decide)) (fun _ => ?_)
                                refine G_iconst 1 dr_cX17_graph_200 (by decide +kernel) ?_
                                refine G_goto 205 dr_cX17_graph_201 (by decide +kernel) ?_
                                refine G_istore (L' := [(9, .int 1), (8, .int p333676), (7, .int o333719), (6, .ref q333659), (5, .int g333614), (4, .ref q331820), (3, .int g331141), (0, .ref q276994), (1, .ref q276995), (2, .int p276996)]) dr_cX17_graph_205 (Nat.le_of_ble_eq_true rfl) rfl ?_
                                refine G_iconst 0 dr_cX17_graph_207 (by decide +kernel) ?_
                                refine G_istore (L' := [(10, .int 0), (9, .int 1), (8, .int p333676), (7, .int o333719), (6, .ref q333659), (5, .int g333614), (4, .ref q331820), (3, .int g331141), (0, .ref q276994), (1, .ref q276995), (2, .int p276996)]) dr_cX17_graph_208 (Nat.le_of_ble_eq_true rfl) rfl ?_
                                have hlp210_335218 : ∀ (n210_335218 : Nat) (F335214 : Nat → va_E) (g335213 : Int32), gB g335213 0 32 → RS D I P276992 F335214 γ el → rStr γ [] F276993 F335214 → (gIp (p276996.toInt = 0) (rGr γ el F276993 q276995 (γ 6 (γ 1 q276995)) (cB (F335214 (γ 9 3))) (vB (g331141.toInt : Int).toNat (g333614.toInt : Int).toNat))) → (F335214 q276994 = F276993 q276994) → (∀ (k : Nat) (e1 : Nat → va_E), tl_RModel_graph_210_6 D I γ el P276992 F276993 p276996 q276995 g331141 g333614 q276994 o333719 F335214 g335213 k e1 → tl_RModel_graph_210_6 D I γ el P276992 F276993 p276996 q276995 g331141 g333614 q276994 o333719 F333694 (0 : Int32) k e1) → ((33 : Int) - g335213.toInt).toNat < n210_335218 → G (gV D I) l (gRm 5 111 0 0) (gMA (gV D I) (pt_276998_SpillForgeModel_graph D I γ el P276992 F276993 q276994 q276995 p276996) gNA 0 0) ky_276998_SpillForgeModel_graph 210 [(10, .int g335213), (9, .int 1), (8, .int p333676), (7, .int o333719), (6, .ref q333659), (5, .int g333614), (4, .ref q331820), (3, .int g331141), (0, .ref q276994), (1, .ref q276995), (2, .int p276996)] [] (va_pl P276992 F335214) 0 0 := by
                                  intro n210_335218
                                  induction n210_335218 with
                                  | zero => intro F335214 g335213 bg335213 hT335215 hs335216 x335217 x335218 kt210_335219 hm210_335218; exact absurd hm210_335218 (Nat.not_lt_zero _)
                                  | succ n210_335218 ih210_335218 =>
                                    intro F335214 g335213 bg335213 hT335215 hs335216 x335217 x335218 kt210_335219 hm210_335218
                                    have hs335220 : rStr γ [] F333694 F335214 := fun b h0 hb hw => (hs335216 b h0 hb hw).trans (hs333704 b h0 hb hw).symm
                                    have he335221 : F335214 q276995 = .inr (18, [.ref q331154, .ref q331155, .int p331156, .int p331157]) := (hs335220 q276995 (rT0 htq276995 (by decide)) (rT1 htq276995 (by decide)) (rT2 htq276995 (by decide))).trans he333697
                                    have he335222 : F335214 q331154 = .inr (4, [.int p331801, .ref q331803, .int p331802]) := (hs335220 q331154 (rT0 ht331158 (by decide)) (rT1 ht331158 (by decide)) (rT2 ht331158 (by decide))).trans he333698
                                    have he335223 : F335214 q331803 = .inl (I (.object "java/lang/Object"), n331817, .inr (.inr (.inr (.inr f331818)))) := (hs335220 q331803 (rT0 r331809 (by decide)) (rT1 r331809 (by decide)) (rT2 r331809 (by decide))).trans he333699
                                    have he335224 : F335214 q331820 = .inr (17, [.ref q331830, .ref q331831, .int p331832, .int p331833]) := (hs335220 q331820 (rT0 ht331826 (by decide)) (rT1 ht331826 (by decide)) (rT2 ht331826 (by decide))).trans he333700
                                    have he335225 : F335214 q331830 = .inr (4, [.int p333640, .ref q333642, .int p333641]) := (hs335220 q331830 (rT0 ht331834 (by decide)) (rT1 ht331834 (by decide)) (rT2 ht331834 (by decide))).trans he333701
                                    have he335226 : F335214 q333642 = .inl (I (.object "java/lang/Object"), n333656, .inr (.inr (.inr (.inr f333657)))) := (hs335220 q333642 (rT0 r333648 (by decide)) (rT1 r333648 (by decide)) (rT2 r333648 (by decide))).trans he333702
                                    have he335227 : F335214 q333659 = .inr (20, [.int p333674, .int p333675, .int p333676, .int p333677, .int p333678, .int p333679, .int p333680]) := (hs335220 q333659 (rT0 ht333662 (by decide)) (rT1 ht333662 (by decide)) (rT2 ht333662 (by decide))).trans he333703
                                    have hs335228 : rStr γ [] F276993 F335214 := rStr_tr hs333704 hs335220
                                    have he335229 : F335214 q276994 = .inr (22, [.ref (γ 9 0), .ref (γ 9 1), .ref (γ 9 2), .ref (γ 9 3), .ref (γ 9 4), .ref (γ 9 5), .ref (γ 9 6), .ref (γ 9 7), .ref (γ 9 8), .int p277003, .int p277004, .int p277005, .int p277006, .int p277007, .int p277008, .ref (γ 9 15), .ref (γ 9 16), .ref (γ 9 17), .ref (γ 9 18), .ref (γ 9 19), .ref (γ 9 20), .ref (γ 9 21), .ref (γ 9 22), .int p277009, .int p277010, .int p277011, .int p277012, .int p277013, .ref q277001, .ref (γ 9 29), .int p277014, .ref (γ 9 31), .int p277015, .int p277016, .int p277017, .ref q277002]) := x335218.trans he277000
                                    have hm335230 : q276994 ∈ P276992 := RS_m hT335215 htq276994 (by decide)
                                    refine G_iload 0 dr_cX17_graph_210 rfl ?_
                                    refine G_bipush 32 dr_cX17_graph_212 (by decide +kernel) ?_
                                    refine G_icmp_ge 243 dr_cX17_graph_214 (by decide +kernel) (fun hc335231 => ?_) (fun hc335231 => ?_)
                                    · have r335232 : 32 ≤ g335213.toInt := gj_leL hc335231 (show Int32.toInt 32 = 32 by decide)
                                      have bg335213' : gB g335213 32 32 := ⟨by omega, by omega⟩
                                      have hx335233 : tl_RModel_graph_210_6 D I γ el P276992 F276993 p276996 q276995 g331141 g333614 q276994 o333719 F333694 (0 : Int32) 243 F335214 := kt210_335219 243 F335214 (fun R c1 c2 => c1 F335214 g335213 bg335213 hT335215 hs335216 x335217 x335218 r335232)
                                      refine G_iload 2 dr_cX17_graph_243 rfl ?_
                                      refine G_if_lt 265 dr_cX17_graph_245 (by decide +kernel) (fun hc => absurd (show False by have := gj_lt hc (show Int32.toInt 0 = 0 by decide); omega) not_false) (fun _ => ?_)
                                      refine G_iload 1 dr_cX17_graph_248 rfl ?_
                                      refine G_if_ne 265 dr_cX17_graph_250 (by decide +kernel) (fun _ => ?_) (fun hc => absurd hc (by decide))
                                      refine G_aload_n 8 dr_cX17_graph_265 rfl ?_
                                      have fq335234 : fR (F335214 q276994) 1 = (γ 9 1) := by rw [he335229]; rfl
                                      refine Gp_get 1 hm335230 he335229 dr_cX17_graph_266 (gk_X17 D I) (Nat.le_of_ble_eq_true rfl) wr_7_75 rfl ?_
                                      refine G_iload 3 dr_cX17_graph_269 rfl ?_
                                      have hm335235 : (γ 9 1) ∈ P276992 := RS_m hT335215 ht277021 (by decide)
                                      obtain ⟨f335237, he335236, hg335238⟩ := show rk_13 I γ (F335214 (γ 9 1)) from RS_o hT335215 ht277021
                                      obtain ⟨q335239, hx335241⟩ : ∃ x, x = γ 11 o333719.toInt.toNat := ⟨_, rfl⟩
                                      have ht335240 : rKd γ q335239 36 := by rw [hx335241]; exact (hg335238 _ (show o333719.toInt.toNat < 2000 by omega)).2.1
                                      refine Gp_aald 5 hm335235 he335236 dr_cX17_graph_271 rfl rfl (gB_in bo333719' (by decide) (by decide)) ?_
                                      rw [show f335237 o333719.toNatClampNeg = some q335239 from (hg335238 _ (show o333719.toInt.toNat < 2000 by omega)).1.trans (by rw [hx335241])]
                                      change G _ _ _ _ _ _ _ (.ref q335239 :: _) _ _ _
                                      refine G_iload 3 dr_cX17_graph_272 rfl ?_
                                      have hm335242 : q335239 ∈ P276992 := RS_m hT335215 ht335240 (by decide)
                                      obtain ⟨f335244, he335243, wf335244⟩ := show rk_36 I (F335214 q335239) from RS_o hT335215 ht335240
                                      refine Gw_callS (As := [.ref q335239, .int o333719]) (gV_ok D I) (cp_1880_SpillForgeModel_clear l hl0 D I P276992 F335214 q335239 o333719 f335244 hm335242 he335243 bo333719' wf335244) dr_cX17_graph_274 ⟨wr_10_185, wr_1_14, wr_10_187, by decide, rfl, (Nat.le_of_ble_eq_true rfl), (Nat.le_of_ble_eq_true rfl)⟩ wr_10_186 (show 0 + 0 ≤ 0 by first | omega | decide) (show 0 + 0 ≤ 0 by first | omega | decide) (Nat.le_of_ble_eq_true rfl) (fun r335248 w335249 dc335245 ds335246 hp335247 => ?_) (fun _ _ _ _ _ z => z.elim)
                                      obtain ⟨F335253, f335250, rfl, rfl, hfr335255, he335256, hdc, hds, x335251, ht335252⟩ := hp335247
                                      have he335257 : F335253 q276995 = .inr (18, [.ref q331154, .ref q331155, .int p331156, .int p331157]) := (hfr335255 q276995 hm331152 (nm_c (rn_oa he335221 he335243) nm_n)).trans he335221
                                      have he335258 : F335253 q331154 = .inr (4, [.int p331801, .ref q331803, .int p331802]) := (hfr335255 q331154 hm331799 (nm_c (rn_oa he335222 he335243) nm_n)).trans he335222
                                      have he335259 : F335253 q331803 = .inl (I (.object "java/lang/Object"), n331817, .inr (.inr (.inr (.inr f331818)))) := (hfr335255 q331803 hm331819 (nm_c (rn_ref_long he335223 he335243) nm_n)).trans he335223
                                      have he335260 : F335253 q331820 = .inr (17, [.ref q331830, .ref q331831, .int p331832, .int p331833]) := (hfr335255 q331820 hm331828 (nm_c (rn_oa he335224 he335243) nm_n)).trans he335224
                                      have he335261 : F335253 q331830 = .inr (4, [.int p333640, .ref q333642, .int p333641]) := (hfr335255 q331830 hm333638 (nm_c (rn_oa he335225 he335243) nm_n)).trans he335225
                                      have he335262 : F335253 q333642 = .inl (I (.object "java/lang/Object"), n333656, .inr (.inr (.inr (.inr f333657)))) := (hfr335255 q333642 hm333658 (nm_c (rn_ref_long he335226 he335243) nm_n)).trans he335226
                                      have he335263 : F335253 q333659 = .inr (20, [.int p333674, .int p333675, .int p333676, .int p333677, .int p333678, .int p333679, .int p333680]) := (hfr335255 q333659 hm333672 (nm_c (rn_oa he335227 he335243) nm_n)).trans he335227
                                      have he335264 : F335253 q276994 = .inr (22, [.ref (γ 9 0), .ref (γ 9 1), .ref (γ 9 2), .ref (γ 9 3), .ref (γ 9 4), .ref (γ 9 5), .ref (γ 9 6), .ref (γ 9 7), .ref (γ 9 8), .int p277003, .int p277004, .int p277005, .int p277006, .int p277007, .int p277008, .ref (γ 9 15), .ref (γ 9 16), .ref (γ 9 17), .ref (γ 9 18), .ref (γ 9 19), .ref (γ 9 20), .ref (γ 9 21), .ref (γ 9 22), .int p277009, .int p277010, .int p277011, .int p277012, .int p277013, .ref q277001, .ref (γ 9 29), .int p277014, .ref (γ 9 31), .int p277015, .int p277016, .int p277017, .ref q277002]) := (hfr335255 q276994 hm335230 (nm_c (rn_oa he335229 he335243) nm_n)).trans he335229
                                      have he335265 : F335253 (γ 9 1) = .inl (I (.array .long), 2000, .inr (.inr (.inr (.inr f335237)))) := (hfr335255 (γ 9 1) hm335235 (nm_c (rn_ref_long he335236 he335243) nm_n)).trans he335236
                                      have hfr335266 : rFr [q335239] P276992 F335214 F335253 := rFr_call (rSub_rf (P := P276992)) (rFr_rf (W := []) (P := P276992) (F := F335214)) hfr335255 (fun b hb hn => ⟨nm_n, (nm_c (fun e => hn (e ▸ List.mem_cons_self)) nm_n)⟩)
                                      change G _ _ _ _ _ _ _ _ _ _ _
                                      refine G_widen (cs' := 0) (sl' := 0) (by omega) (by omega) ?_
                                      have hT335267 : RS D I P276992 F335253 γ el := RS_fr hT335215 hfr335266 ht335240 (by decide) ⟨f335250, he335256, x335251⟩
                                      have hs335268 : rStr γ [] F276993 F335253 := rStr_fr hT335215 hs335216 hfr335266 ht335240 (by decide)
                                      have kp335269 : F335253 q276994 = F276993 q276994 := (hfr335266 q276994 (RS_m hT335215 htq276994 (by decide)) (nm_c (rn_ty htq276994 ht335240 (by decide)) nm_n)).trans x335218
                                      have kp335270 : F335253 (γ 9 3) = F335214 (γ 9 3) := hfr335266 (γ 9 3) (RS_m hT335215 ht277023 (by decide)) (nm_c (rn_ty ht277023 ht335240 (by decide)) nm_n)
                                      refine G_aload_n 8 dr_cX17_graph_277 rfl ?_
                                      refine G_aload 4 dr_cX17_graph_278 rfl ?_
                                      refine G_iload_n 10 dr_cX17_graph_280 rfl ?_
                                      refine Gw_callV (As := [.ref q333659, .int p276996]) (gV_ok D I) (ct_283829_SpillForgeModel_back l hl0 D I γ el P276992 F335253 q276994 q333659 p276996 hT335267 htq276994 ht333662 (gB_w bp276996' (by decide) (by decide))) dr_cX17_graph_281 ⟨wr_10_174, wr_1_14, wr_10_177, by decide, rfl, (Nat.le_of_ble_eq_true rfl), (Nat.le_of_ble_eq_true rfl)⟩ wr_10_176 wr_p_96 hm335230 he335264 rfl (show 0 + 0 ≤ 0 by first | omega | decide) (show 0 + 0 ≤ 0 by first | omega | decide) (Nat.le_of_ble_eq_true rfl) (fun r335274 w335275 dc335271 ds335272 hp335273 => ?_) (fun _ _ _ _ _ z => z.elim)
                                      obtain ⟨F335279, rfl, rfl, hT335280, hs335281, hdc, hds, x335276, x335277, ht335278⟩ := hp335273
                                      have he335282 : F335279 q276995 = .inr (18, [.ref q331154, .ref q331155, .int p331156, .int p331157]) := (hs335281 q276995 (rT0 htq276995 (by decide)) (rT1 htq276995 (by decide)) (rT2 htq276995 (by decide))).trans he335257
                                      have he335283 : F335279 q331154 = .inr (4, [.int p331801, .ref q331803, .int p331802]) := (hs335281 q331154 (rT0 ht331158 (by decide)) (rT1 ht331158 (by decide)) (rT2 ht331158 (by decide))).trans he335258
                                      have he335284 : F335279 q331803 = .inl (I (.object "java/lang/Object"), n331817, .inr (.inr (.inr (.inr f331818)))) := (hs335281 q331803 (rT0 r331809 (by decide)) (rT1 r331809 (by decide)) (rT2 r331809 (by decide))).trans he335259
                                      have he335285 : F335279 q331820 = .inr (17, [.ref q331830, .ref q331831, .int p331832, .int p331833]) := (hs335281 q331820 (rT0 ht331826 (by decide)) (rT1 ht331826 (by decide)) (rT2 ht331826 (by decide))).trans he335260
                                      have he335286 : F335279 q331830 = .inr (4, [.int p333640, .ref q333642, .int p333641]) := (hs335281 q331830 (rT0 ht331834 (by decide)) (rT1 ht331834 (by decide)) (rT2 ht331834 (by decide))).trans he335261
                                      have he335287 : F335279 q333642 = .inl (I (.object "java/lang/Object"), n333656, .inr (.inr (.inr (.inr f333657)))) := (hs335281 q333642 (rT0 r333648 (by decide)) (rT1 r333648 (by decide)) (rT2 r333648 (by decide))).trans he335262
                                      have he335288 : F335279 q333659 = .inr (20, [.int p333674, .int p333675, .int p333676, .int p333677, .int p333678, .int p333679, .int p333680]) := (hs335281 q333659 (rT0 ht333662 (by decide)) (rT1 ht333662 (by decide)) (rT2 ht333662 (by decide))).trans he335263
                                      have hs335289 : rStr γ [] F276993 F335279 := rStr_tr hs335268 hs335281
                                      have kp335290 : F335279 q276994 = F276993 q276994 := (x335276).trans kp335269
                                      have kp335291 : F335279 (γ 9 3) = F335214 (γ 9 3) := (x335277).trans kp335270
                                      have he335292 : F335279 q276994 = .inr (22, [.ref (γ 9 0), .ref (γ 9 1), .ref (γ 9 2), .ref (γ 9 3), .ref (γ 9 4), .ref (γ 9 5), .ref (γ 9 6), .ref (γ 9 7), .ref (γ 9 8), .int p277003, .int p277004, .int p277005, .int p277006, .int p277007, .int p277008, .ref (γ 9 15), .ref (γ 9 16), .ref (γ 9 17), .ref (γ 9 18), .ref (γ 9 19), .ref (γ 9 20), .ref (γ 9 21), .ref (γ 9 22), .int p277009, .int p277010, .int p277011, .int p277012, .int p277013, .ref q277001, .ref (γ 9 29), .int p277014, .ref (γ 9 31), .int p277015, .int p277016, .int p277017, .ref q277002]) := (x335276).trans he335264
                                      change G _ _ _ _ _ _ _ _ _ _ _
                                      refine G_widen (cs' := 0) (sl' := 0) (by omega) (by omega) ?_
                                      obtain ⟨z335293, hz335293⟩ : ∃ z : Int32, z = g333614 + Int32.ofInt (-1) := ⟨_, rfl⟩
                                      have ez335293 : z335293.toInt = g333614.toInt + (-1) := gI_inc hz335293 (by decide) bg333614' (by decide) (by decide)
                                      have bz335293 : gB z335293 (-1) 999998 := ⟨by omega, by omega⟩
                                      refine G_iinc (L' := [(5, .int z335293), (10, .int g335213), (9, .int 1), (8, .int p333676), (7, .int o333719), (6, .ref q333659), (4, .ref q331820), (3, .int g331141), (0, .ref q276994), (1, .ref q276995), (2, .int p276996)]) z335293 5 dr_cX17_graph_284 rfl hz335293.symm (Nat.le_of_ble_eq_true rfl) rfl ?_
                                      refine G_goto 109 dr_cX17_graph_287 (by decide +kernel) ?_
                                      refine G_lv (L' := [(5, .int z335293), (4, .ref q331820), (3, .int g331141), (0, .ref q276994), (1, .ref q276995), (2, .int p276996)]) [0, 6, 7, 8, 9, 10] rfl ?_
                                      exact ih109_333620 F335279 z335293 (gB_w bz335293 (by decide) (by decide)) hT335280 hs335289 (by omega) (fun h0 => by have z := x335217 h0; rw [← kp335291] at z; rw [show ((g333614.toInt : Int).toNat : Nat) = (z335293.toInt + 1 : Int).toNat by omega] at z; exact z) kp335290 (fun k e1 ht => kt109_333621 k e1 (fun R c1 c2 c3 c4 c5 c6 c7 c8 c9 c10 c11 => c11 F333615 g333614 q331830 q333659 p333641 F333694 p333674 p333675 p333678 o333719 p333679 p333676 q334776 f334781 F335214 q335239 f335244 f335250 F335253 F335279 z335293 k e1 bg333614 hT333616 hs333617 x333618 x333619 x333620 r333635 fq333636 hx333660 fq333664 ht333670 hT333695 hs333696 x333691 x333692 ht333693 fq333711 fq333712 fq333713 bo333719 ht333720 r333982 r334244 fq334245 r334507 fq334508 r334534 r334770 fq334771 hx334778 he334780 r334800 hx335233 fq335234 hx335241 he335243 ht335252 hfr335266 he335256 hT335267 hT335280 hs335281 x335276 x335277 ht335278 ez335293 (ht R c1 c2 c3 c4 c5 c6 c7 c8 c9 c10 c11))) (mz_dn ez335293 (Int.le_trans (by decide) bg333614'.1) hm109_333620)
                                    · have r335294 : g335213.toInt < 32 := gj_nleL hc335231 (show Int32.toInt 32 = 32 by decide)
                                      have bg335213' : gB g335213 0 31 := ⟨by omega, by omega⟩
                                      refine G_aload_n 8 dr_cX17_graph_217 rfl ?_
                                      have fq335295 : fR (F335214 q276994) 1 = (γ 9 1) := by rw [he335229]; rfl
                                      refine Gp_get 1 hm335230 he335229 dr_cX17_graph_218 (gk_X17 D I) (Nat.le_of_ble_eq_true rfl) wr_7_75 rfl ?_
                                      refine G_iload 3 dr_cX17_graph_221 rfl ?_
                                      have hm335296 : (γ 9 1) ∈ P276992 := RS_m hT335215 ht277021 (by decide)
                                      obtain ⟨f335298, he335297, hg335299⟩ := show rk_13 I γ (F335214 (γ 9 1)) from RS_o hT335215 ht277021
                                      obtain ⟨q335300, hx335302⟩ : ∃ x, x = γ 11 o333719.toInt.toNat := ⟨_, rfl⟩
                                      have ht335301 : rKd γ q335300 36 := by rw [hx335302]; exact (hg335299 _ (show o333719.toInt.toNat < 2000 by omega)).2.1
                                      refine Gp_aald 5 hm335296 he335297 dr_cX17_graph_223 rfl rfl (gB_in bo333719' (by decide) (by decide)) ?_
                                      rw [show f335298 o333719.toNatClampNeg = some q335300 from (hg335299 _ (show o333719.toInt.toNat < 2000 by omega)).1.trans (by rw [hx335302])]
                                      change G _ _ _ _ _ _ _ (.ref q335300 :: _) _ _ _
                                      refine G_iload 0 dr_cX17_graph_224 rfl ?_
                                      refine G_dup2_11 dr_cX17_graph_226 rfl rfl ?_
                                      have hm335303 : q335300 ∈ P276992 := RS_m hT335215 ht335301 (by decide)
                                      obtain ⟨f335305, he335304, wf335305⟩ := show rk_36 I (F335214 q335300) from RS_o hT335215 ht335301
                                      refine Gp_lald 2 hm335303 he335304 dr_cX17_graph_227 rfl (gB_in bg335213' (by decide) (by decide)) (G_namL fun u335306 hu335306 => ?_)
                                      have qu335306 : lb_Q u335306 (2000 - 64 * g335213.toInt) := lb_Wld hu335306 wf335305 (by omega) (by omega) (lb_Mod0 (by omega) (by omega))
                                      refine G_aload_n 8 dr_cX17_graph_228 rfl ?_
                                      have fq335307 : fR (F335214 q276994) 2 = (γ 9 2) := by rw [he335229]; rfl
                                      refine Gp_get 2 hm335230 he335229 dr_cX17_graph_229 (gk_X17 D I) (Nat.le_of_ble_eq_true rfl) wr_7_76 rfl ?_
                                      refine G_iload 0 dr_cX17_graph_232 rfl ?_
                                      have hm335308 : (γ 9 2) ∈ P276992 := RS_m hT335215 ht277022 (by decide)
                                      obtain ⟨f335310, he335309, wf335310⟩ := show rk_35 I (F335214 (γ 9 2)) from RS_o hT335215 ht277022
                                      refine Gp_lald 2 hm335308 he335309 dr_cX17_graph_234 rfl (gB_in bg335213' (by decide) (by decide)) (G_namL fun u335311 hu335311 => ?_)
                                      have qu335311 : lb_Q u335311 (2000 - 64 * g335213.toInt) := lb_Wld hu335311 wf335310 (by omega) (by omega) (lb_Mod0 (by omega) (by omega))
                                      refine G_lor dr_cX17_graph_235 (G_namL fun u335312 hu335312 => ?_)
                                      have qu335312 : lb_Q u335312 (2000 - 64 * g335213.toInt) := lb_Qor hu335312 qu335306 qu335311
                                      refine Gp_last 2 hm335303 he335304 dr_cX17_graph_236 rfl (gB_in bg335213' (by decide) (by decide)) (fun F335313 e335314 n335315 => ?_)
                                      obtain ⟨f335316, hf335316⟩ : ∃ z, z = vp_updL f335305 g335213.toNatClampNeg u335312 := ⟨_, rfl⟩
                                      rw [← hf335316] at e335314
                                      have he335317 : F335313 q276995 = .inr (18, [.ref q331154, .ref q331155, .int p331156, .int p331157]) := (n335315 q276995 (rn_oa he335221 he335304)).trans he335221
                                      have he335318 : F335313 q331154 = .inr (4, [.int p331801, .ref q331803, .int p331802]) := (n335315 q331154 (rn_oa he335222 he335304)).trans he335222
                                      have he335319 : F335313 q331803 = .inl (I (.object "java/lang/Object"), n331817, .inr (.inr (.inr (.inr f331818)))) := (n335315 q331803 (rn_ref_long he335223 he335304)).trans he335223
                                      have he335320 : F335313 q331820 = .inr (17, [.ref q331830, .ref q331831, .int p331832, .int p331833]) := (n335315 q331820 (rn_oa he335224 he335304)).trans he335224
                                      have he335321 : F335313 q331830 = .inr (4, [.int p333640, .ref q333642, .int p333641]) := (n335315 q331830 (rn_oa he335225 he335304)).trans he335225
                                      have he335322 : F335313 q333642 = .inl (I (.object "java/lang/Object"), n333656, .inr (.inr (.inr (.inr f333657)))) := (n335315 q333642 (rn_ref_long he335226 he335304)).trans he335226
                                      have he335323 : F335313 q333659 = .inr (20, [.int p333674, .int p333675, .int p333676, .int p333677, .int p333678, .int p333679, .int p333680]) := (n335315 q333659 (rn_oa he335227 he335304)).trans he335227
                                      have he335324 : F335313 q276994 = .inr (22, [.ref (γ 9 0), .ref (γ 9 1), .ref (γ 9 2), .ref (γ 9 3), .ref (γ 9 4), .ref (γ 9 5), .ref (γ 9 6), .ref (γ 9 7), .ref (γ 9 8), .int p277003, .int p277004, .int p277005, .int p277006, .int p277007, .int p277008, .ref (γ 9 15), .ref (γ 9 16), .ref (γ 9 17), .ref (γ 9 18), .ref (γ 9 19), .ref (γ 9 20), .ref (γ 9 21), .ref (γ 9 22), .int p277009, .int p277010, .int p277011, .int p277012, .int p277013, .ref q277001, .ref (γ 9 29), .int p277014, .ref (γ 9 31), .int p277015, .int p277016, .int p277017, .ref q277002]) := (n335315 q276994 (rn_oa he335229 he335304)).trans he335229
                                      have he335325 : F335313 (γ 9 1) = .inl (I (.array .long), 2000, .inr (.inr (.inr (.inr f335298)))) := (n335315 (γ 9 1) (rn_ref_long he335297 he335304)).trans he335297
                                      have he335326 : F335313 (γ 9 2) = .inl (I .long, 32, .inr (.inl f335310)) := (n335315 (γ 9 2) (rn_ty ht277022 ht335301 (by decide))).trans he335309
                                      have he335327 : F335313 q335300 = .inl (I .long, 32, .inr (.inl f335316)) := e335314
                                      have hs335328 : rStr γ [] F276993 F335313 := rStr_put hs335216 n335315 ht335301 (by decide)
                                      have kp335329 : F335313 q276994 = F276993 q276994 := (n335315 q276994 (rn_ty htq276994 ht335301 (by decide))).trans x335218
                                      have kp335330 : F335313 (γ 9 3) = F335214 (γ 9 3) := n335315 (γ 9 3) (rn_ty ht277023 ht335301 (by decide))
                                      have wf335316 : lb_W f335316 (32) (32) (2000) := lb_Wst hf335316 wf335305 (by omega) (lb_Mod0 (by omega) (by omega)) qu335312
                                      obtain ⟨z335331, hz335331⟩ : ∃ z : Int32, z = g335213 + Int32.ofInt 1 := ⟨_, rfl⟩
                                      have ez335331 : z335331.toInt = g335213.toInt + 1 := gI_inc hz335331 (by decide) bg335213' (by decide) (by decide)
                                      have bz335331 : gB z335331 1 32 := ⟨by omega, by omega⟩
                                      refine G_iinc (L' := [(10, .int z335331), (9, .int 1), (8, .int p333676), (7, .int o333719), (6, .ref q333659), (5, .int g333614), (4, .ref q331820), (3, .int g331141), (0, .ref q276994), (1, .ref q276995), (2, .int p276996)]) z335331 0 dr_cX17_graph_237 rfl hz335331.symm (Nat.le_of_ble_eq_true rfl) rfl ?_
                                      refine G_goto 210 dr_cX17_graph_240 (by decide +kernel) ?_
                                      have hT335332 : RS D I P276992 F335313 γ el := RS_set hT335215 n335315 ht335301 (by decide) ⟨f335316, he335327, wf335316⟩
                                      exact ih210_335218 F335313 z335331 (gB_w bz335331 (by decide) (by decide)) hT335332 hs335328 (by rw [kp335330]; exact x335217) kp335329 (fun k e1 ht => kt210_335219 k e1 (fun R c1 c2 => c2 F335214 g335213 q335300 f335305 u335306 f335310 u335311 u335312 f335316 F335313 z335331 k e1 bg335213 hT335215 hs335216 x335217 x335218 r335294 fq335295 hx335302 he335304 hu335306 fq335307 he335309 hu335311 hu335312 hf335316 n335315 he335327 ez335331 (ht R c1 c2))) (mz_up ez335331 (Int.le_trans bg335213'.2 (by decide)) hm210_335218)
                                exact hlp210_335218 (((33 : Int) - 0).toNat + 1) F333694 0 (gB_w (gBl (show Int32.toInt 0 = 0 by decide)) (by decide) (by decide)) hT333695 hs333704 gr333710 kp333705 (fun k e1 ht => ht) (Nat.lt_succ_self _)
              exact hlp109_333620 (((z331932.toInt : Int) - (-2)).toNat + 1) F331902 z331932 bz331932 hT331903 hs331909 (by omega) (fun h0 => by have z := gr331892 h0; rw [← kp331911] at z; rw [show (γ 2 q331830 : Nat) = (z331932.toInt + 1 : Int).toNat by omega] at z; exact z) kp331910 (fun k e1 ht => ht) (Nat.lt_succ_self _)
        exact hlp56_331146 (((1000001 : Int) - 0).toNat + 1) F326988 0 (gB_w (gBl (show Int32.toInt 0 = 0 by decide)) (by decide) (by decide)) hT326989 hs326990 (fun _ => gq_0 (fun m hm => x326991 m (by omega))) x326992 (fun k e1 ht => ht) (Nat.lt_succ_self _)
      · have r335333 : g326987.toInt < 2000 := gj_nleL hc326998 (show Int32.toInt 2000 = 2000 by decide)
        have bg326987' : gB g326987 0 1999 := ⟨by omega, by omega⟩
        refine G_aload_n 1 dr_cX17_graph_15 rfl ?_
        have fq335334 : fR (F326988 q276994) 3 = (γ 9 3) := by rw [he326996]; rfl
        refine Gp_get 3 hm326997 he326996 dr_cX17_graph_16 (gk_X17 D I) (Nat.le_of_ble_eq_true rfl) wr_7_77 rfl ?_
        refine G_iload_n 0 dr_cX17_graph_19 rfl ?_
        refine G_iconst 0 dr_cX17_graph_20 (by decide +kernel) ?_
        have hm335335 : (γ 9 3) ∈ P276992 := RS_m hT326989 ht277023 (by decide)
        obtain ⟨f335337, he335336, bf335337⟩ := show rk_14 I (F326988 (γ 9 3)) from RS_o hT326989 ht277023
        refine Gp_zast 3 hm335335 he335336 dr_cX17_graph_21 rfl (gB_in bg326987' (by decide) (by decide)) (fun F335338 e335339 n335340 => ?_)
        obtain ⟨f335341, hf335341⟩ : ∃ z, z = upd f335337 g326987.toNatClampNeg (vp_nar .boolean 0) := ⟨_, rfl⟩
        rw [← hf335341] at e335339
        have he335342 : F335338 q276994 = .inr (22, [.ref (γ 9 0), .ref (γ 9 1), .ref (γ 9 2), .ref (γ 9 3), .ref (γ 9 4), .ref (γ 9 5), .ref (γ 9 6), .ref (γ 9 7), .ref (γ 9 8), .int p277003, .int p277004, .int p277005, .int p277006, .int p277007, .int p277008, .ref (γ 9 15), .ref (γ 9 16), .ref (γ 9 17), .ref (γ 9 18), .ref (γ 9 19), .ref (γ 9 20), .ref (γ 9 21), .ref (γ 9 22), .int p277009, .int p277010, .int p277011, .int p277012, .int p277013, .ref q277001, .ref (γ 9 29), .int p277014, .ref (γ 9 31), .int p277015, .int p277016, .int p277017, .ref q277002]) := (n335340 q276994 (rn_oa he326996 he335336)).trans he326996
        have he335343 : F335338 (γ 9 3) = .inl (I .boolean, 2000, .inl f335341) := e335339
        have hs335344 : rStr γ [] F276993 F335338 := rStr_put hs326990 n335340 ht277023 (by decide)
        have kp335345 : F335338 q276994 = F276993 q276994 := (n335340 q276994 (rn_ty htq276994 ht277023 (by decide))).trans x326992
        have bf335341 : gF f335341 0 1 := gF_upd hf335341 bf335337 (gB_w (gBl (show Int32.toInt 0 = 0 by decide)) (by decide) (by decide))
        refine G_iconst 0 dr_cX17_graph_22 (by decide +kernel) ?_
        refine G_istore (L' := [(4, .int 0), (3, .int g326987), (0, .ref q276994), (1, .ref q276995), (2, .int p276996)]) dr_cX17_graph_23 (Nat.le_of_ble_eq_true rfl) rfl ?_
        have hT335346 : RS D I P276992 F335338 γ el := RS_set hT326989 n335340 ht277023 (by decide) ⟨f335341, he335343, bf335341⟩
        have hlp25_335386 : ∀ (n25_335386 : Nat) (F335382 : Nat → va_E) (g335381 : Int32), gB g335381 0 32 → RS D I P276992 F335382 γ el → rStr γ [] F276993 F335382 → (∀ n : Nat, (n : Int) < g326987.toInt + 1 → ¬ rSd (cB (F335382 (γ 9 3))) n) → (F335382 q276994 = F276993 q276994) → (∀ (k : Nat) (e1 : Nat → va_E), tl_RModel_graph_25 D I γ el P276992 F276993 g326987 q276994 F335382 g335381 k e1 → tl_RModel_graph_25 D I γ el P276992 F276993 g326987 q276994 F335338 (0 : Int32) k e1) → ((33 : Int) - g335381.toInt).toNat < n25_335386 → G (gV D I) l (gRm 5 111 0 0) (gMA (gV D I) (pt_276998_SpillForgeModel_graph D I γ el P276992 F276993 q276994 q276995 p276996) gNA 0 0) ky_276998_SpillForgeModel_graph 25 [(4, .int g335381), (3, .int g326987), (0, .ref q276994), (1, .ref q276995), (2, .int p276996)] [] (va_pl P276992 F335382) 0 0 := by
          intro n25_335386
          induction n25_335386 with
          | zero => intro F335382 g335381 bg335381 hT335383 hs335384 x335385 x335386 kt25_335387 hm25_335386; exact absurd hm25_335386 (Nat.not_lt_zero _)
          | succ n25_335386 ih25_335386 =>
            intro F335382 g335381 bg335381 hT335383 hs335384 x335385 x335386 kt25_335387 hm25_335386
            have hs335388 : rStr γ [] F335338 F335382 := fun b h0 hb hw => (hs335384 b h0 hb hw).trans (hs335344 b h0 hb hw).symm
            have hs335389 : rStr γ [] F276993 F335382 := rStr_tr hs335344 hs335388
            have he335390 : F335382 q276994 = .inr (22, [.ref (γ 9 0), .ref (γ 9 1), .ref (γ 9 2), .ref (γ 9 3), .ref (γ 9 4), .ref (γ 9 5), .ref (γ 9 6), .ref (γ 9 7), .ref (γ 9 8), .int p277003, .int p277004, .int p277005, .int p277006, .int p277007, .int p277008, .ref (γ 9 15), .ref (γ 9 16), .ref (γ 9 17), .ref (γ 9 18), .ref (γ 9 19), .ref (γ 9 20), .ref (γ 9 21), .ref (γ 9 22), .int p277009, .int p277010, .int p277011, .int p277012, .int p277013, .ref q277001, .ref (γ 9 29), .int p277014, .ref (γ 9 31), .int p277015, .int p277016, .int p277017, .ref q277002]) := x335386.trans he277000
            have hm335391 : q276994 ∈ P276992 := RS_m hT335383 htq276994 (by decide)
            refine G_iload 0 dr_cX17_graph_25 rfl ?_
            refine G_bipush 32 dr_cX17_graph_27 (by decide +kernel) ?_
            refine G_icmp_ge 48 dr_cX17_graph_29 (by decide +kernel) (fun hc335392 => ?_) (fun hc335392 => ?_)
            · have r335393 : 32 ≤ g335381.toInt := gj_leL hc335392 (show Int32.toInt 32 = 32 by decide)
              have bg335381' : gB g335381 32 32 := ⟨by omega, by omega⟩
              have hx335394 : tl_RModel_graph_25 D I γ el P276992 F276993 g326987 q276994 F335338 (0 : Int32) 48 F335382 := kt25_335387 48 F335382 (fun R c1 c2 => c1 F335382 g335381 bg335381 hT335383 hs335384 x335385 x335386 r335393)
              obtain ⟨z335395, hz335395⟩ : ∃ z : Int32, z = g326987 + Int32.ofInt 1 := ⟨_, rfl⟩
              have ez335395 : z335395.toInt = g326987.toInt + 1 := gI_inc hz335395 (by decide) bg326987' (by decide) (by decide)
              have bz335395 : gB z335395 1 2000 := ⟨by omega, by omega⟩
              refine G_iinc (L' := [(3, .int z335395), (4, .int g335381), (0, .ref q276994), (1, .ref q276995), (2, .int p276996)]) z335395 1 dr_cX17_graph_48 rfl hz335395.symm (Nat.le_of_ble_eq_true rfl) rfl ?_
              refine G_goto 8 dr_cX17_graph_51 (by decide +kernel) ?_
              refine G_lv (L' := [(3, .int z335395), (0, .ref q276994), (1, .ref q276995), (2, .int p276996)]) [0, 2, 3, 4] rfl ?_
              exact ih8_326992 F335382 z335395 (gB_w bz335395 (by decide) (by decide)) hT335383 hs335384 (by rw [ez335395]; exact x335385) x335386 (fun k e1 ht => kt8_326993 k e1 (fun R c1 c2 => c2 F326988 g326987 f335337 f335341 F335338 F335382 z335395 k e1 bg326987 hT326989 hs326990 x326991 x326992 r335333 fq335334 he335336 hf335341 n335340 he335343 hx335394 ez335395 (ht R c1 c2))) (mz_up ez335395 (Int.le_trans bg326987'.2 (by decide)) hm8_326992)
            · have r335396 : g335381.toInt < 32 := gj_nleL hc335392 (show Int32.toInt 32 = 32 by decide)
              have bg335381' : gB g335381 0 31 := ⟨by omega, by omega⟩
              refine G_aload_n 2 dr_cX17_graph_32 rfl ?_
              have fq335397 : fR (F335382 q276994) 1 = (γ 9 1) := by rw [he335390]; rfl
              refine Gp_get 1 hm335391 he335390 dr_cX17_graph_33 (gk_X17 D I) (Nat.le_of_ble_eq_true rfl) wr_7_75 rfl ?_
              refine G_iload_n 1 dr_cX17_graph_36 rfl ?_
              have hm335398 : (γ 9 1) ∈ P276992 := RS_m hT335383 ht277021 (by decide)
              obtain ⟨f335400, he335399, hg335401⟩ := show rk_13 I γ (F335382 (γ 9 1)) from RS_o hT335383 ht277021
              obtain ⟨q335402, hx335404⟩ : ∃ x, x = γ 11 g326987.toInt.toNat := ⟨_, rfl⟩
              have ht335403 : rKd γ q335402 36 := by rw [hx335404]; exact (hg335401 _ (show g326987.toInt.toNat < 2000 by omega)).2.1
              refine Gp_aald 5 hm335398 he335399 dr_cX17_graph_37 rfl rfl (gB_in bg326987' (by decide) (by decide)) ?_
              rw [show f335400 g326987.toNatClampNeg = some q335402 from (hg335401 _ (show g326987.toInt.toNat < 2000 by omega)).1.trans (by rw [hx335404])]
              change G _ _ _ _ _ _ _ (.ref q335402 :: _) _ _ _
              refine G_iload 0 dr_cX17_graph_38 rfl ?_
              refine G_lconst 0 dr_cX17_graph_40 rfl ?_
              have hm335405 : q335402 ∈ P276992 := RS_m hT335383 ht335403 (by decide)
              obtain ⟨f335407, he335406, wf335407⟩ := show rk_36 I (F335382 q335402) from RS_o hT335383 ht335403
              refine Gp_last 2 hm335405 he335406 dr_cX17_graph_41 rfl (gB_in bg335381' (by decide) (by decide)) (fun F335408 e335409 n335410 => ?_)
              obtain ⟨f335411, hf335411⟩ : ∃ z, z = vp_updL f335407 g335381.toNatClampNeg 0 := ⟨_, rfl⟩
              rw [← hf335411] at e335409
              have he335412 : F335408 q276994 = .inr (22, [.ref (γ 9 0), .ref (γ 9 1), .ref (γ 9 2), .ref (γ 9 3), .ref (γ 9 4), .ref (γ 9 5), .ref (γ 9 6), .ref (γ 9 7), .ref (γ 9 8), .int p277003, .int p277004, .int p277005, .int p277006, .int p277007, .int p277008, .ref (γ 9 15), .ref (γ 9 16), .ref (γ 9 17), .ref (γ 9 18), .ref (γ 9 19), .ref (γ 9 20), .ref (γ 9 21), .ref (γ 9 22), .int p277009, .int p277010, .int p277011, .int p277012, .int p277013, .ref q277001, .ref (γ 9 29), .int p277014, .ref (γ 9 31), .int p277015, .int p277016, .int p277017, .ref q277002]) := (n335410 q276994 (rn_oa he335390 he335406)).trans he335390
              have he335413 : F335408 (γ 9 1) = .inl (I (.array .long), 2000, .inr (.inr (.inr (.inr f335400)))) := (n335410 (γ 9 1) (rn_ref_long he335399 he335406)).trans he335399
              have he335414 : F335408 q335402 = .inl (I .long, 32, .inr (.inl f335411)) := e335409
              have hs335415 : rStr γ [] F276993 F335408 := rStr_put hs335384 n335410 ht335403 (by decide)
              have kp335416 : F335408 q276994 = F276993 q276994 := (n335410 q276994 (rn_ty htq276994 ht335403 (by decide))).trans x335386
              have kp335417 : F335408 (γ 9 3) = F335382 (γ 9 3) := n335410 (γ 9 3) (rn_ty ht277023 ht335403 (by decide))
              have wf335411 : lb_W f335411 (32) (32) (2000) := lb_Wst hf335411 wf335407 (by omega) (lb_Mod0 (by omega) (by omega)) lb_Q0
              obtain ⟨z335418, hz335418⟩ : ∃ z : Int32, z = g335381 + Int32.ofInt 1 := ⟨_, rfl⟩
              have ez335418 : z335418.toInt = g335381.toInt + 1 := gI_inc hz335418 (by decide) bg335381' (by decide) (by decide)
              have bz335418 : gB z335418 1 32 := ⟨by omega, by omega⟩
              refine G_iinc (L' := [(4, .int z335418), (3, .int g326987), (0, .ref q276994), (1, .ref q276995), (2, .int p276996)]) z335418 0 dr_cX17_graph_42 rfl hz335418.symm (Nat.le_of_ble_eq_true rfl) rfl ?_
              refine G_goto 25 dr_cX17_graph_45 (by decide +kernel) ?_
              have hT335419 : RS D I P276992 F335408 γ el := RS_set hT335383 n335410 ht335403 (by decide) ⟨f335411, he335414, wf335411⟩
              exact ih25_335386 F335408 z335418 (gB_w bz335418 (by decide) (by decide)) hT335419 hs335415 (by rw [kp335417]; exact x335385) kp335416 (fun k e1 ht => kt25_335387 k e1 (fun R c1 c2 => c2 F335382 g335381 q335402 f335407 f335411 F335408 z335418 k e1 bg335381 hT335383 hs335384 x335385 x335386 r335396 fq335397 hx335404 he335406 hf335411 n335410 he335414 ez335418 (ht R c1 c2))) (mz_up ez335418 (Int.le_trans bg335381'.2 (by decide)) hm25_335386)
        exact hlp25_335386 (((33 : Int) - 0).toNat + 1) F335338 0 (gB_w (gBl (show Int32.toInt 0 = 0 by decide)) (by decide) (by decide)) hT335346 hs335344 (by rw [cB_of he335343]; exact sd_z hf335341 (by omega) (by have q := x326991; rw [cB_of he335336] at q; exact q)) kp335345 (fun k e1 ht => ht) (Nat.lt_succ_self _)
  exact hlp8_326992 (((2001 : Int) - 0).toNat + 1) F277053 0 (gB_w (gBl (show Int32.toInt 0 = 0 by decide)) (by decide) (by decide)) hT277054 hs277056 (fun n hn => absurd hn (by have qa : Int32.toInt 0 = 0 := (by decide); omega)) kp277057 (fun k e1 ht => ht) (Nat.lt_succ_self _)
