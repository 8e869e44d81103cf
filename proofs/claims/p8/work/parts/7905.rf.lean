theorem dr_cX17_graph_0 : decode cX17_graph 0 = .ok (.aload_n 0, 1) := by decide +kernel
theorem dr_cX17_graph_1 : decode cX17_graph 1 = .ok (.aload_n 1, 1) := by decide +kernel
theorem dr_cX17_graph_2 : decode cX17_graph 2 = .ok (.iload_n 2, 1) := by decide +kernel
theorem dr_cX17_graph_3 : decode cX17_graph 3 = .ok (.invokevirtual 127, 3) := by decide +kernel
theorem wr_10_156 : (Jvm.Cond.methodLink "SpillForgeModel" (127 : Nat) ({ cls := "SpillForgeModel", name := "findLive", desc := "(LSpillForgeModel$Code;Z)V" } : Jvm.MethodName)) ∈ gw := gw_10 156 rfl rfl
theorem wr_10_159 : (Jvm.Cond.code ({ cls := "SpillForgeModel", name := "findLive", desc := "(LSpillForgeModel$Code;Z)V" } : Jvm.MethodName) prog_14_method_9_code (7 : Nat) (Option.none : Option Jvm.ClassFile.FieldType)) ∈ gw := gw_10 159 rfl rfl
theorem wr_10_158 : (Jvm.Cond.instanceMethod ({ cls := "SpillForgeModel", name := "findLive", desc := "(LSpillForgeModel$Code;Z)V" } : Jvm.MethodName)) ∈ gw := gw_10 158 rfl rfl
theorem wr_p_94 : Cond.selects "SpillForgeModel" ⟨"SpillForgeModel", "findLive", "(LSpillForgeModel$Code;Z)V"⟩ ⟨"SpillForgeModel", "findLive", "(LSpillForgeModel$Code;Z)V"⟩ ∈ gw := gw_p _ 94 rfl rfl rfl
theorem dr_cX17_graph_6 : decode cX17_graph 6 = .ok (.iconst 0, 1) := by decide +kernel
theorem dr_cX17_graph_7 : decode cX17_graph 7 = .ok (.istore_n 3, 1) := by decide +kernel
theorem dr_cX17_graph_8 : decode cX17_graph 8 = .ok (.iload_n 3, 1) := by decide +kernel
theorem dr_cX17_graph_9 : decode cX17_graph 9 = .ok (.sipush 2000, 3) := by decide +kernel
theorem dr_cX17_graph_12 : decode cX17_graph 12 = .ok (.if_icmp .ge 42, 3) := by decide +kernel
theorem dr_cX17_graph_54 : decode cX17_graph 54 = .ok (.iconst 0, 1) := by decide +kernel
theorem dr_cX17_graph_55 : decode cX17_graph 55 = .ok (.istore_n 3, 1) := by decide +kernel
theorem dr_cX17_graph_56 : decode cX17_graph 56 = .ok (.iload_n 3, 1) := by decide +kernel
theorem dr_cX17_graph_57 : decode cX17_graph 57 = .ok (.aload_n 1, 1) := by decide +kernel
theorem dr_cX17_graph_58 : decode cX17_graph 58 = .ok (.invokevirtual 96, 3) := by decide +kernel
theorem dr_cX17_graph_61 : decode cX17_graph 61 = .ok (.if_icmp .ge 235, 3) := by decide +kernel
theorem dr_cX17_graph_296 : decode cX17_graph 296 = .ok (.iconst 0, 1) := by decide +kernel
theorem dr_cX17_graph_297 : decode cX17_graph 297 = .ok (.istore_n 3, 1) := by decide +kernel
theorem dr_cX17_graph_298 : decode cX17_graph 298 = .ok (.iload_n 3, 1) := by decide +kernel
theorem dr_cX17_graph_299 : decode cX17_graph 299 = .ok (.sipush 2000, 3) := by decide +kernel
theorem dr_cX17_graph_302 : decode cX17_graph 302 = .ok (.if_icmp .ge 87, 3) := by decide +kernel
theorem dr_cX17_graph_389 : decode cX17_graph 389 = .ok (.return_, 1) := by decide +kernel
theorem dr_cX17_graph_305 : decode cX17_graph 305 = .ok (.aload_n 0, 1) := by decide +kernel
theorem dr_cX17_graph_306 : decode cX17_graph 306 = .ok (.getfield 131, 3) := by decide +kernel
theorem dr_cX17_graph_309 : decode cX17_graph 309 = .ok (.iload_n 3, 1) := by decide +kernel
theorem dr_cX17_graph_310 : decode cX17_graph 310 = .ok (.baload, 1) := by decide +kernel
theorem dr_cX17_graph_311 : decode cX17_graph 311 = .ok (.ifCond .ne 6, 3) := by decide +kernel
theorem dr_cX17_graph_317 : decode cX17_graph 317 = .ok (.iconst 0, 1) := by decide +kernel
theorem dr_cX17_graph_318 : decode cX17_graph 318 = .ok (.istore 4, 2) := by decide +kernel
theorem dr_cX17_graph_320 : decode cX17_graph 320 = .ok (.iload 4, 2) := by decide +kernel
theorem dr_cX17_graph_322 : decode cX17_graph 322 = .ok (.bipush 32, 2) := by decide +kernel
theorem dr_cX17_graph_324 : decode cX17_graph 324 = .ok (.if_icmp .ge 59, 3) := by decide +kernel
theorem dr_cX17_graph_383 : decode cX17_graph 383 = .ok (.iinc 3 1, 3) := by decide +kernel
theorem dr_cX17_graph_386 : decode cX17_graph 386 = .ok (.goto (-88), 3) := by decide +kernel
theorem dr_cX17_graph_327 : decode cX17_graph 327 = .ok (.aload_n 0, 1) := by decide +kernel
theorem dr_cX17_graph_328 : decode cX17_graph 328 = .ok (.getfield 135, 3) := by decide +kernel
theorem dr_cX17_graph_331 : decode cX17_graph 331 = .ok (.iload_n 3, 1) := by decide +kernel
theorem dr_cX17_graph_332 : decode cX17_graph 332 = .ok (.aaload, 1) := by decide +kernel
theorem dr_cX17_graph_333 : decode cX17_graph 333 = .ok (.iload 4, 2) := by decide +kernel
theorem dr_cX17_graph_335 : decode cX17_graph 335 = .ok (.laload, 1) := by decide +kernel
theorem dr_cX17_graph_336 : decode cX17_graph 336 = .ok (.lstore 5, 2) := by decide +kernel
theorem dr_cX17_graph_338 : decode cX17_graph 338 = .ok (.lload 5, 2) := by decide +kernel
theorem dr_cX17_graph_340 : decode cX17_graph 340 = .ok (.lconst 0, 1) := by decide +kernel
theorem dr_cX17_graph_341 : decode cX17_graph 341 = .ok (.lcmp, 1) := by decide +kernel
theorem dr_cX17_graph_342 : decode cX17_graph 342 = .ok (.ifCond .eq 35, 3) := by decide +kernel
theorem dr_cX17_graph_377 : decode cX17_graph 377 = .ok (.iinc 4 1, 3) := by decide +kernel
theorem dr_cX17_graph_380 : decode cX17_graph 380 = .ok (.goto (-60), 3) := by decide +kernel
theorem dr_cX17_graph_345 : decode cX17_graph 345 = .ok (.aload_n 0, 1) := by decide +kernel
theorem dr_cX17_graph_346 : decode cX17_graph 346 = .ok (.getfield 135, 3) := by decide +kernel
theorem dr_cX17_graph_349 : decode cX17_graph 349 = .ok (.bipush 64, 2) := by decide +kernel
theorem dr_cX17_graph_351 : decode cX17_graph 351 = .ok (.iload 4, 2) := by decide +kernel
theorem dr_cX17_graph_353 : decode cX17_graph 353 = .ok (.imul, 1) := by decide +kernel
theorem dr_cX17_graph_354 : decode cX17_graph 354 = .ok (.lload 5, 2) := by decide +kernel
theorem dr_cX17_graph_356 : decode cX17_graph 356 = .ok (.invokestatic 149, 3) := by decide +kernel
theorem wr_11_1 : (Jvm.Cond.methodLink "SpillForgeModel" (149 : Nat) ({ cls := "java/lang/Long", name := "numberOfTrailingZeros", desc := "(J)I" } : Jvm.MethodName)) ∈ gw := gw_11 1 rfl rfl
theorem wr_11_3 : (Jvm.Cond.code ({ cls := "java/lang/Long", name := "numberOfTrailingZeros", desc := "(J)I" } : Jvm.MethodName) prog_31_method_49_code (3 : Nat) (Option.some Jvm.ClassFile.FieldType.int)) ∈ gw := gw_11 3 rfl rfl
theorem wr_11_2 : (Jvm.Cond.static ({ cls := "java/lang/Long", name := "numberOfTrailingZeros", desc := "(J)I" } : Jvm.MethodName)) ∈ gw := gw_11 2 rfl rfl
theorem dr_cX17_graph_359 : decode cX17_graph 359 = .ok (.iadd, 1) := by decide +kernel
theorem dr_cX17_graph_360 : decode cX17_graph 360 = .ok (.aaload, 1) := by decide +kernel
theorem dr_cX17_graph_361 : decode cX17_graph 361 = .ok (.iload_n 3, 1) := by decide +kernel
theorem dr_cX17_graph_362 : decode cX17_graph 362 = .ok (.invokestatic 67, 3) := by decide +kernel
theorem dr_cX17_graph_365 : decode cX17_graph 365 = .ok (.lload 5, 2) := by decide +kernel
theorem dr_cX17_graph_367 : decode cX17_graph 367 = .ok (.lload 5, 2) := by decide +kernel
theorem dr_cX17_graph_369 : decode cX17_graph 369 = .ok (.lconst 1, 1) := by decide +kernel
theorem dr_cX17_graph_370 : decode cX17_graph 370 = .ok (.lsub, 1) := by decide +kernel
theorem dr_cX17_graph_371 : decode cX17_graph 371 = .ok (.land, 1) := by decide +kernel
theorem dr_cX17_graph_372 : decode cX17_graph 372 = .ok (.lstore 5, 2) := by decide +kernel
theorem dr_cX17_graph_374 : decode cX17_graph 374 = .ok (.goto (-36), 3) := by decide +kernel
theorem dr_cX17_graph_314 : decode cX17_graph 314 = .ok (.goto 69, 3) := by decide +kernel
theorem dr_cX17_graph_64 : decode cX17_graph 64 = .ok (.aload_n 1, 1) := by decide +kernel
theorem dr_cX17_graph_65 : decode cX17_graph 65 = .ok (.iload_n 3, 1) := by decide +kernel
theorem dr_cX17_graph_66 : decode cX17_graph 66 = .ok (.invokevirtual 101, 3) := by decide +kernel
theorem dr_cX17_graph_69 : decode cX17_graph 69 = .ok (.astore 4, 2) := by decide +kernel
theorem dr_cX17_graph_71 : decode cX17_graph 71 = .ok (.aload_n 0, 1) := by decide +kernel
theorem dr_cX17_graph_72 : decode cX17_graph 72 = .ok (.aload 4, 2) := by decide +kernel
theorem dr_cX17_graph_74 : decode cX17_graph 74 = .ok (.invokevirtual 105, 3) := by decide +kernel
theorem dr_cX17_graph_77 : decode cX17_graph 77 = .ok (.aload_n 0, 1) := by decide +kernel
theorem dr_cX17_graph_78 : decode cX17_graph 78 = .ok (.aload 4, 2) := by decide +kernel
theorem dr_cX17_graph_80 : decode cX17_graph 80 = .ok (.getfield 109, 3) := by decide +kernel
theorem dr_cX17_graph_83 : decode cX17_graph 83 = .ok (.iload_n 2, 1) := by decide +kernel
theorem dr_cX17_graph_84 : decode cX17_graph 84 = .ok (.invokevirtual 138, 3) := by decide +kernel
theorem wr_10_237 : (Jvm.Cond.methodLink "SpillForgeModel" (138 : Nat) ({ cls := "SpillForgeModel", name := "stand", desc := "(LSpillForgeModel$Row;Z)V" } : Jvm.MethodName)) ∈ gw := gw_10 237 rfl rfl
theorem wr_11_0 : (Jvm.Cond.code ({ cls := "SpillForgeModel", name := "stand", desc := "(LSpillForgeModel$Row;Z)V" } : Jvm.MethodName) prog_14_method_11_code (4 : Nat) (Option.none : Option Jvm.ClassFile.FieldType)) ∈ gw := gw_11 0 rfl rfl
theorem wr_10_239 : (Jvm.Cond.instanceMethod ({ cls := "SpillForgeModel", name := "stand", desc := "(LSpillForgeModel$Row;Z)V" } : Jvm.MethodName)) ∈ gw := gw_10 239 rfl rfl
theorem wr_p_100 : Cond.selects "SpillForgeModel" ⟨"SpillForgeModel", "stand", "(LSpillForgeModel$Row;Z)V"⟩ ⟨"SpillForgeModel", "stand", "(LSpillForgeModel$Row;Z)V"⟩ ∈ gw := gw_p _ 100 rfl rfl rfl
theorem dr_cX17_graph_87 : decode cX17_graph 87 = .ok (.aload_n 0, 1) := by decide +kernel
theorem dr_cX17_graph_88 : decode cX17_graph 88 = .ok (.aload 4, 2) := by decide +kernel
theorem dr_cX17_graph_90 : decode cX17_graph 90 = .ok (.getfield 109, 3) := by decide +kernel
theorem dr_cX17_graph_93 : decode cX17_graph 93 = .ok (.iload_n 2, 1) := by decide +kernel
theorem dr_cX17_graph_94 : decode cX17_graph 94 = .ok (.invokevirtual 113, 3) := by decide +kernel
theorem dr_cX17_graph_97 : decode cX17_graph 97 = .ok (.aload 4, 2) := by decide +kernel
theorem dr_cX17_graph_99 : decode cX17_graph 99 = .ok (.getfield 117, 3) := by decide +kernel
theorem dr_cX17_graph_102 : decode cX17_graph 102 = .ok (.invokevirtual 121, 3) := by decide +kernel
theorem dr_cX17_graph_105 : decode cX17_graph 105 = .ok (.iconst 1, 1) := by decide +kernel
theorem dr_cX17_graph_106 : decode cX17_graph 106 = .ok (.isub, 1) := by decide +kernel
theorem dr_cX17_graph_107 : decode cX17_graph 107 = .ok (.istore 5, 2) := by decide +kernel
theorem dr_cX17_graph_109 : decode cX17_graph 109 = .ok (.iload 5, 2) := by decide +kernel
theorem dr_cX17_graph_111 : decode cX17_graph 111 = .ok (.ifCond .lt 179, 3) := by decide +kernel
theorem dr_cX17_graph_290 : decode cX17_graph 290 = .ok (.iinc 3 1, 3) := by decide +kernel
theorem dr_cX17_graph_293 : decode cX17_graph 293 = .ok (.goto (-237), 3) := by decide +kernel
theorem dr_cX17_graph_114 : decode cX17_graph 114 = .ok (.aload 4, 2) := by decide +kernel
theorem dr_cX17_graph_116 : decode cX17_graph 116 = .ok (.getfield 117, 3) := by decide +kernel
theorem dr_cX17_graph_119 : decode cX17_graph 119 = .ok (.iload 5, 2) := by decide +kernel
theorem dr_cX17_graph_121 : decode cX17_graph 121 = .ok (.invokevirtual 124, 3) := by decide +kernel
theorem dr_cX17_graph_124 : decode cX17_graph 124 = .ok (.checkcast 40, 3) := by decide +kernel
theorem dr_cX17_graph_127 : decode cX17_graph 127 = .ok (.astore 6, 2) := by decide +kernel
theorem dr_cX17_graph_129 : decode cX17_graph 129 = .ok (.aload_n 0, 1) := by decide +kernel
theorem dr_cX17_graph_130 : decode cX17_graph 130 = .ok (.aload 6, 2) := by decide +kernel
theorem dr_cX17_graph_132 : decode cX17_graph 132 = .ok (.iload_n 2, 1) := by decide +kernel
theorem dr_cX17_graph_133 : decode cX17_graph 133 = .ok (.invokevirtual 138, 3) := by decide +kernel
theorem dr_cX17_graph_136 : decode cX17_graph 136 = .ok (.aload 6, 2) := by decide +kernel
theorem dr_cX17_graph_138 : decode cX17_graph 138 = .ok (.iload_n 2, 1) := by decide +kernel
theorem dr_cX17_graph_139 : decode cX17_graph 139 = .ok (.invokestatic 55, 3) := by decide +kernel
theorem dr_cX17_graph_142 : decode cX17_graph 142 = .ok (.istore 7, 2) := by decide +kernel
theorem dr_cX17_graph_144 : decode cX17_graph 144 = .ok (.iload_n 2, 1) := by decide +kernel
theorem dr_cX17_graph_145 : decode cX17_graph 145 = .ok (.ifCond .ne 27, 3) := by decide +kernel
theorem dr_cX17_graph_172 : decode cX17_graph 172 = .ok (.iconst (-1), 1) := by decide +kernel
theorem dr_cX17_graph_173 : decode cX17_graph 173 = .ok (.istore 8, 2) := by decide +kernel
theorem dr_cX17_graph_175 : decode cX17_graph 175 = .ok (.iload 7, 2) := by decide +kernel
theorem dr_cX17_graph_177 : decode cX17_graph 177 = .ok (.ifCond .lt 100, 3) := by decide +kernel
theorem dr_cX17_graph_277 : decode cX17_graph 277 = .ok (.aload_n 0, 1) := by decide +kernel
theorem dr_cX17_graph_278 : decode cX17_graph 278 = .ok (.aload 6, 2) := by decide +kernel
theorem dr_cX17_graph_280 : decode cX17_graph 280 = .ok (.iload_n 2, 1) := by decide +kernel
theorem dr_cX17_graph_281 : decode cX17_graph 281 = .ok (.invokevirtual 113, 3) := by decide +kernel
theorem dr_cX17_graph_284 : decode cX17_graph 284 = .ok (.iinc 5 (-1), 3) := by decide +kernel
theorem dr_cX17_graph_287 : decode cX17_graph 287 = .ok (.goto (-178), 3) := by decide +kernel
theorem dr_cX17_graph_180 : decode cX17_graph 180 = .ok (.iload 8, 2) := by decide +kernel
theorem dr_cX17_graph_182 : decode cX17_graph 182 = .ok (.ifCond .lt 22, 3) := by decide +kernel
theorem dr_cX17_graph_204 : decode cX17_graph 204 = .ok (.iconst 0, 1) := by decide +kernel
theorem dr_cX17_graph_205 : decode cX17_graph 205 = .ok (.istore 9, 2) := by decide +kernel
theorem dr_cX17_graph_207 : decode cX17_graph 207 = .ok (.iconst 0, 1) := by decide +kernel
theorem dr_cX17_graph_208 : decode cX17_graph 208 = .ok (.istore 10, 2) := by decide +kernel
theorem dr_cX17_graph_210 : decode cX17_graph 210 = .ok (.iload 10, 2) := by decide +kernel
theorem dr_cX17_graph_212 : decode cX17_graph 212 = .ok (.bipush 32, 2) := by decide +kernel
theorem dr_cX17_graph_214 : decode cX17_graph 214 = .ok (.if_icmp .ge 29, 3) := by decide +kernel
theorem dr_cX17_graph_243 : decode cX17_graph 243 = .ok (.iload 8, 2) := by decide +kernel
theorem dr_cX17_graph_245 : decode cX17_graph 245 = .ok (.ifCond .lt 20, 3) := by decide +kernel
theorem dr_cX17_graph_265 : decode cX17_graph 265 = .ok (.aload_n 0, 1) := by decide +kernel
theorem dr_cX17_graph_266 : decode cX17_graph 266 = .ok (.getfield 135, 3) := by decide +kernel
theorem dr_cX17_graph_269 : decode cX17_graph 269 = .ok (.iload 7, 2) := by decide +kernel
theorem dr_cX17_graph_271 : decode cX17_graph 271 = .ok (.aaload, 1) := by decide +kernel
theorem dr_cX17_graph_272 : decode cX17_graph 272 = .ok (.iload 7, 2) := by decide +kernel
theorem dr_cX17_graph_274 : decode cX17_graph 274 = .ok (.invokestatic 63, 3) := by decide +kernel
theorem dr_cX17_graph_217 : decode cX17_graph 217 = .ok (.aload_n 0, 1) := by decide +kernel
theorem dr_cX17_graph_218 : decode cX17_graph 218 = .ok (.getfield 135, 3) := by decide +kernel
theorem dr_cX17_graph_221 : decode cX17_graph 221 = .ok (.iload 7, 2) := by decide +kernel
theorem dr_cX17_graph_223 : decode cX17_graph 223 = .ok (.aaload, 1) := by decide +kernel
theorem dr_cX17_graph_224 : decode cX17_graph 224 = .ok (.iload 10, 2) := by decide +kernel
theorem dr_cX17_graph_226 : decode cX17_graph 226 = .ok (.dup2, 1) := by decide +kernel
theorem dr_cX17_graph_227 : decode cX17_graph 227 = .ok (.laload, 1) := by decide +kernel
theorem dr_cX17_graph_228 : decode cX17_graph 228 = .ok (.aload_n 0, 1) := by decide +kernel
theorem dr_cX17_graph_229 : decode cX17_graph 229 = .ok (.getfield 59, 3) := by decide +kernel
theorem dr_cX17_graph_232 : decode cX17_graph 232 = .ok (.iload 10, 2) := by decide +kernel
theorem dr_cX17_graph_234 : decode cX17_graph 234 = .ok (.laload, 1) := by decide +kernel
theorem dr_cX17_graph_235 : decode cX17_graph 235 = .ok (.lor, 1) := by decide +kernel
theorem dr_cX17_graph_236 : decode cX17_graph 236 = .ok (.lastore, 1) := by decide +kernel
theorem dr_cX17_graph_237 : decode cX17_graph 237 = .ok (.iinc 10 1, 3) := by decide +kernel
theorem dr_cX17_graph_240 : decode cX17_graph 240 = .ok (.goto (-30), 3) := by decide +kernel
theorem dr_cX17_graph_148 : decode cX17_graph 148 = .ok (.aload 6, 2) := by decide +kernel
theorem dr_cX17_graph_150 : decode cX17_graph 150 = .ok (.getfield 39, 3) := by decide +kernel
theorem dr_cX17_graph_153 : decode cX17_graph 153 = .ok (.ifCond .ne 19, 3) := by decide +kernel
theorem dr_cX17_graph_156 : decode cX17_graph 156 = .ok (.aload 6, 2) := by decide +kernel
theorem dr_cX17_graph_158 : decode cX17_graph 158 = .ok (.getfield 141, 3) := by decide +kernel
theorem dr_cX17_graph_161 : decode cX17_graph 161 = .ok (.ifCond .eq 11, 3) := by decide +kernel
theorem dr_cX17_graph_164 : decode cX17_graph 164 = .ok (.aload 6, 2) := by decide +kernel
theorem dr_cX17_graph_166 : decode cX17_graph 166 = .ok (.getfield 73, 3) := by decide +kernel
theorem dr_cX17_graph_169 : decode cX17_graph 169 = .ok (.goto 4, 3) := by decide +kernel
theorem dr_cX17_graph_185 : decode cX17_graph 185 = .ok (.aload_n 0, 1) := by decide +kernel
theorem dr_cX17_graph_186 : decode cX17_graph 186 = .ok (.getfield 135, 3) := by decide +kernel
theorem dr_cX17_graph_189 : decode cX17_graph 189 = .ok (.iload 7, 2) := by decide +kernel
theorem dr_cX17_graph_191 : decode cX17_graph 191 = .ok (.aaload, 1) := by decide +kernel
theorem dr_cX17_graph_192 : decode cX17_graph 192 = .ok (.iload 8, 2) := by decide +kernel
theorem dr_cX17_graph_194 : decode cX17_graph 194 = .ok (.invokestatic 145, 3) := by decide +kernel
theorem dr_cX17_graph_197 : decode cX17_graph 197 = .ok (.ifCond .eq 7, 3) := by decide +kernel
theorem dr_cX17_graph_248 : decode cX17_graph 248 = .ok (.iload 9, 2) := by decide +kernel
theorem dr_cX17_graph_250 : decode cX17_graph 250 = .ok (.ifCond .ne 15, 3) := by decide +kernel
theorem dr_cX17_graph_253 : decode cX17_graph 253 = .ok (.aload_n 0, 1) := by decide +kernel
theorem dr_cX17_graph_254 : decode cX17_graph 254 = .ok (.getfield 135, 3) := by decide +kernel
theorem dr_cX17_graph_257 : decode cX17_graph 257 = .ok (.iload 7, 2) := by decide +kernel
theorem dr_cX17_graph_259 : decode cX17_graph 259 = .ok (.aaload, 1) := by decide +kernel
theorem dr_cX17_graph_260 : decode cX17_graph 260 = .ok (.iload 8, 2) := by decide +kernel
theorem dr_cX17_graph_262 : decode cX17_graph 262 = .ok (.invokestatic 63, 3) := by decide +kernel
theorem dr_cX17_graph_200 : decode cX17_graph 200 = .ok (.iconst 1, 1) := by decide +kernel
theorem dr_cX17_graph_201 : decode cX17_graph 201 = .ok (.goto 4, 3) := by decide +kernel
theorem dr_cX17_graph_15 : decode cX17_graph 15 = .ok (.aload_n 0, 1) := by decide +kernel
theorem dr_cX17_graph_16 : decode cX17_graph 16 = .ok (.getfield 131, 3) := by decide +kernel
theorem dr_cX17_graph_19 : decode cX17_graph 19 = .ok (.iload_n 3, 1) := by decide +kernel
theorem dr_cX17_graph_20 : decode cX17_graph 20 = .ok (.iconst 0, 1) := by decide +kernel
theorem dr_cX17_graph_21 : decode cX17_graph 21 = .ok (.bastore, 1) := by decide +kernel
theorem dr_cX17_graph_22 : decode cX17_graph 22 = .ok (.iconst 0, 1) := by decide +kernel
theorem dr_cX17_graph_23 : decode cX17_graph 23 = .ok (.istore 4, 2) := by decide +kernel
theorem dr_cX17_graph_25 : decode cX17_graph 25 = .ok (.iload 4, 2) := by decide +kernel
theorem dr_cX17_graph_27 : decode cX17_graph 27 = .ok (.bipush 32, 2) := by decide +kernel
theorem dr_cX17_graph_29 : decode cX17_graph 29 = .ok (.if_icmp .ge 19, 3) := by decide +kernel
theorem dr_cX17_graph_48 : decode cX17_graph 48 = .ok (.iinc 3 1, 3) := by decide +kernel
theorem dr_cX17_graph_51 : decode cX17_graph 51 = .ok (.goto (-43), 3) := by decide +kernel
theorem dr_cX17_graph_32 : decode cX17_graph 32 = .ok (.aload_n 0, 1) := by decide +kernel
theorem dr_cX17_graph_33 : decode cX17_graph 33 = .ok (.getfield 135, 3) := by decide +kernel
theorem dr_cX17_graph_36 : decode cX17_graph 36 = .ok (.iload_n 3, 1) := by decide +kernel
theorem dr_cX17_graph_37 : decode cX17_graph 37 = .ok (.aaload, 1) := by decide +kernel
theorem dr_cX17_graph_38 : decode cX17_graph 38 = .ok (.iload 4, 2) := by decide +kernel
theorem dr_cX17_graph_40 : decode cX17_graph 40 = .ok (.lconst 0, 1) := by decide +kernel
theorem dr_cX17_graph_41 : decode cX17_graph 41 = .ok (.lastore, 1) := by decide +kernel
theorem dr_cX17_graph_42 : decode cX17_graph 42 = .ok (.iinc 4 1, 3) := by decide +kernel
theorem dr_cX17_graph_45 : decode cX17_graph 45 = .ok (.goto (-20), 3) := by decide +kernel
abbrev ky_276669_SpillForgeModel_graph : gKey := (cX17_graph, 11, "SpillForgeModel", none, [], "graph", fun _ _ => True)
def pt_276669_SpillForgeModel_graph (D : va_G) (I : FieldType → ClassId) (γ el : Nat → Nat → Nat) (P276663 : List Nat) (F276664 : Nat → va_E) (q276665 : Nat) (q276666 : Nat) (p276667 : Int32) : Option Value → va_W → Nat → Nat → Prop := fun r w dc ds => ∃ (F335091 : Nat → va_E), r = none ∧ w = va_pl P276663 F335091 ∧ RS D I P276663 F335091 γ el ∧ rStr γ [] F276664 F335091 ∧ dc ≤ 0 ∧ ds ≤ 0 ∧ (gIp (p276667.toInt = 0) (rGr γ el F276664 q276666 (γ 6 (γ 1 q276666)) (cB (F335091 (γ 9 3))) (vA (γ 6 (γ 1 q276666))))) ∧ (F335091 q276665 = F276664 q276665) ∧ tr_RModel_graph D I γ el P276663 F276664 q276665 q276666 p276667 F335091
set_option maxRecDepth 100000 in
set_option maxHeartbeats 4000000 in
theorem ct_276669_SpillForgeModel_graph (l : Launch) (hl0 : l.stackTraces = false) (D : va_G) (I : FieldType → ClassId) (γ el : Nat → Nat → Nat) (P276663 : List Nat) (F276664 : Nat → va_E) (q276665 : Nat) (q276666 : Nat) (p276667 : Int32) (hT : RS D I P276663 F276664 γ el) (htq276665 : rKd γ q276665 10) (htq276666 : rKd γ q276666 9) (bp276667 : gB p276667 0 1) (x276668 : 0 < γ 6 (γ 1 q276666)) : CtA (gV D I) l yX17_graph cX17_graph 11 none 5 111 0 0 [.ref q276665, .ref q276666, .int p276667] (va_pl P276663 F276664) (pt_276669_SpillForgeModel_graph D I γ el P276663 F276664 q276665 q276666 p276667) gNA := by
  refine CtA_of hl0 (by decide) (Nat.le_of_ble_eq_true rfl) ?_
  have hm276670 : q276665 ∈ P276663 := RS_m hT htq276665 (by decide)
  refine rk10_e (show rk_10 γ (F276664 q276665) from RS_o hT htq276665) (fun q276672 q276673 p276674 p276675 p276676 p276677 p276678 p276679 p276680 p276681 p276682 p276683 p276684 p276685 p276686 p276687 p276688 he276671 hB276715 ht276689 ht276690 ht276691 ht276692 ht276693 ht276694 ht276695 ht276696 ht276697 ht276698 ht276699 ht276700 ht276701 ht276702 ht276703 ht276704 ht276705 ht276706 ht276707 ht276708 ht276709 ht276710 ht276711 ht276712 hB276716 => ?_)
  refine G_aload_n 0 dr_cX17_graph_0 rfl ?_
  refine G_aload_n 1 dr_cX17_graph_1 rfl ?_
  refine G_iload_n 2 dr_cX17_graph_2 rfl ?_
  refine Gw_callV (As := [.ref q276666, .int p276667]) (gV_ok D I) (ct_225065_SpillForgeModel_findLive l hl0 D I γ el P276663 F276664 q276665 q276666 p276667 hT htq276665 htq276666 bp276667 (by omega)) dr_cX17_graph_3 ⟨wr_10_156, wr_1_14, wr_10_159, by decide, rfl, (Nat.le_of_ble_eq_true rfl), (Nat.le_of_ble_eq_true rfl)⟩ wr_10_158 wr_p_94 hm276670 he276671 rfl (show 0 + 0 ≤ 0 by first | omega | decide) (show 0 + 0 ≤ 0 by first | omega | decide) (Nat.le_of_ble_eq_true rfl) (fun r276720 w276721 dc276717 ds276718 hp276719 => ?_) (fun _ _ _ _ _ z => z.elim)
  obtain ⟨F276724, rfl, rfl, hT276725, hs276726, hdc, hds, x276722, ht276723⟩ := hp276719
  have hs276727 : rStr γ [] F276664 F276724 := rStr_tr (rStr_rf (γ := γ) (W := []) (F := F276664)) hs276726
  have kp276728 : F276724 q276665 = F276664 q276665 := x276722
  have he276729 : F276724 q276665 = .inr (22, [.ref (γ 9 0), .ref (γ 9 1), .ref (γ 9 2), .ref (γ 9 3), .ref (γ 9 4), .ref (γ 9 5), .ref (γ 9 6), .ref (γ 9 7), .ref (γ 9 8), .int p276674, .int p276675, .int p276676, .int p276677, .int p276678, .int p276679, .ref (γ 9 15), .ref (γ 9 16), .ref (γ 9 17), .ref (γ 9 18), .ref (γ 9 19), .ref (γ 9 20), .ref (γ 9 21), .ref (γ 9 22), .int p276680, .int p276681, .int p276682, .int p276683, .int p276684, .ref q276672, .ref (γ 9 29), .int p276685, .ref (γ 9 31), .int p276686, .int p276687, .int p276688, .ref q276673]) := (x276722).trans he276671
  change G _ _ _ _ _ _ _ _ _ _ _
  refine G_widen (cs' := 0) (sl' := 0) (by omega) (by omega) ?_
  refine G_iconst 0 dr_cX17_graph_6 (by decide +kernel) ?_
  refine G_istore_n (L' := [(3, .int 0), (0, .ref q276665), (1, .ref q276666), (2, .int p276667)]) dr_cX17_graph_7 (Nat.le_of_ble_eq_true rfl) rfl ?_
  have hlp8_326663 : ∀ (n8_326663 : Nat) (F326659 : Nat → va_E) (g326658 : Int32), gB g326658 0 2000 → RS D I P276663 F326659 γ el → rStr γ [] F276664 F326659 → (∀ n : Nat, (n : Int) < g326658.toInt → ¬ rSd (cB (F326659 (γ 9 3))) n) → (F326659 q276665 = F276664 q276665) → (∀ (k : Nat) (e1 : Nat → va_E), tl_RModel_graph_8 D I γ el P276663 F276664 q276665 F326659 g326658 k e1 → tl_RModel_graph_8 D I γ el P276663 F276664 q276665 F276724 (0 : Int32) k e1) → ((2001 : Int) - g326658.toInt).toNat < n8_326663 → G (gV D I) l (gRm 5 111 0 0) (gMA (gV D I) (pt_276669_SpillForgeModel_graph D I γ el P276663 F276664 q276665 q276666 p276667) gNA 0 0) ky_276669_SpillForgeModel_graph 8 [(3, .int g326658), (0, .ref q276665), (1, .ref q276666), (2, .int p276667)] [] (va_pl P276663 F326659) 0 0 := by
    intro n8_326663
    induction n8_326663 with
    | zero => intro F326659 g326658 bg326658 hT326660 hs326661 x326662 x326663 kt8_326664 hm8_326663; exact absurd hm8_326663 (Nat.not_lt_zero _)
    | succ n8_326663 ih8_326663 =>
      intro F326659 g326658 bg326658 hT326660 hs326661 x326662 x326663 kt8_326664 hm8_326663
      have hs326665 : rStr γ [] F276724 F326659 := fun b h0 hb hw => (hs326661 b h0 hb hw).trans (hs276727 b h0 hb hw).symm
      have hs326666 : rStr γ [] F276664 F326659 := rStr_tr hs276727 hs326665
      have he326667 : F326659 q276665 = .inr (22, [.ref (γ 9 0), .ref (γ 9 1), .ref (γ 9 2), .ref (γ 9 3), .ref (γ 9 4), .ref (γ 9 5), .ref (γ 9 6), .ref (γ 9 7), .ref (γ 9 8), .int p276674, .int p276675, .int p276676, .int p276677, .int p276678, .int p276679, .ref (γ 9 15), .ref (γ 9 16), .ref (γ 9 17), .ref (γ 9 18), .ref (γ 9 19), .ref (γ 9 20), .ref (γ 9 21), .ref (γ 9 22), .int p276680, .int p276681, .int p276682, .int p276683, .int p276684, .ref q276672, .ref (γ 9 29), .int p276685, .ref (γ 9 31), .int p276686, .int p276687, .int p276688, .ref q276673]) := x326663.trans he276671
      have hm326668 : q276665 ∈ P276663 := RS_m hT326660 htq276665 (by decide)
      refine G_iload_n 0 dr_cX17_graph_8 rfl ?_
      refine G_sipush 2000 dr_cX17_graph_9 (by decide +kernel) ?_
      refine G_icmp_ge 54 dr_cX17_graph_12 (by decide +kernel) (fun hc326669 => ?_) (fun hc326669 => ?_)
      · have r326670 : 2000 ≤ g326658.toInt := gj_leL hc326669 (show Int32.toInt 2000 = 2000 by decide)
        have bg326658' : gB g326658 2000 2000 := ⟨by omega, by omega⟩
        have hx326671 : tl_RModel_graph_8 D I γ el P276663 F276664 q276665 F276724 (0 : Int32) 54 F326659 := kt8_326664 54 F326659 (fun R c1 c2 => c1 F326659 g326658 bg326658 hT326660 hs326661 x326662 x326663 r326670)
        refine G_iconst 0 dr_cX17_graph_54 (by decide +kernel) ?_
        refine G_istore_n (L' := [(3, .int 0), (0, .ref q276665), (1, .ref q276666), (2, .int p276667)]) dr_cX17_graph_55 (Nat.le_of_ble_eq_true rfl) rfl ?_
        have hlp56_330817 : ∀ (n56_330817 : Nat) (F330813 : Nat → va_E) (g330812 : Int32), gB g330812 0 1000000 → RS D I P276663 F330813 γ el → rStr γ [] F276664 F330813 → (gIp (p276667.toInt = 0) (rGr γ el F276664 q276666 (γ 6 (γ 1 q276666)) (cB (F330813 (γ 9 3))) (vA (g330812.toInt : Int).toNat))) → (F330813 q276665 = F276664 q276665) → (∀ (k : Nat) (e1 : Nat → va_E), tl_RModel_graph_56 D I γ el P276663 F276664 p276667 q276666 q276665 F330813 g330812 k e1 → tl_RModel_graph_56 D I γ el P276663 F276664 p276667 q276666 q276665 F326659 (0 : Int32) k e1) → ((1000001 : Int) - g330812.toInt).toNat < n56_330817 → G (gV D I) l (gRm 5 111 0 0) (gMA (gV D I) (pt_276669_SpillForgeModel_graph D I γ el P276663 F276664 q276665 q276666 p276667) gNA 0 0) ky_276669_SpillForgeModel_graph 56 [(3, .int g330812), (0, .ref q276665), (1, .ref q276666), (2, .int p276667)] [] (va_pl P276663 F330813) 0 0 := by
          intro n56_330817
          induction n56_330817 with
          | zero => intro F330813 g330812 bg330812 hT330814 hs330815 x330816 x330817 kt56_330818 hm56_330817; exact absurd hm56_330817 (Nat.not_lt_zero _)
          | succ n56_330817 ih56_330817 =>
            intro F330813 g330812 bg330812 hT330814 hs330815 x330816 x330817 kt56_330818 hm56_330817
            have hs330819 : rStr γ [] F326659 F330813 := fun b h0 hb hw => (hs330815 b h0 hb hw).trans (hs326661 b h0 hb hw).symm
            have hs330820 : rStr γ [] F276664 F330813 := rStr_tr hs326661 hs330819
            have he330821 : F330813 q276665 = .inr (22, [.ref (γ 9 0), .ref (γ 9 1), .ref (γ 9 2), .ref (γ 9 3), .ref (γ 9 4), .ref (γ 9 5), .ref (γ 9 6), .ref (γ 9 7), .ref (γ 9 8), .int p276674, .int p276675, .int p276676, .int p276677, .int p276678, .int p276679, .ref (γ 9 15), .ref (γ 9 16), .ref (γ 9 17), .ref (γ 9 18), .ref (γ 9 19), .ref (γ 9 20), .ref (γ 9 21), .ref (γ 9 22), .int p276680, .int p276681, .int p276682, .int p276683, .int p276684, .ref q276672, .ref (γ 9 29), .int p276685, .ref (γ 9 31), .int p276686, .int p276687, .int p276688, .ref q276673]) := x330817.trans he276671
            have hm330822 : q276665 ∈ P276663 := RS_m hT330814 htq276665 (by decide)
            refine G_iload_n 0 dr_cX17_graph_56 rfl ?_
            refine G_aload_n 2 dr_cX17_graph_57 rfl ?_
            have hm330823 : q276666 ∈ P276663 := RS_m hT330814 htq276666 (by decide)
            obtain ⟨q330825, q330826, p330827, p330828, he330824, ht330844, ht330829, ht330830, ht330831, ht330832, r330833, r330834, r330835, r330836, r330837, r330838, r330839, r330840, r330841, r330842, r330843⟩ := show rk_9 γ el q276666 (F330813 q276666) from RS_o hT330814 htq276666
            have bp330827 : gB p330827 0 1000000 := ⟨by omega, by omega⟩
            have bp330828 : gB p330828 0 1000000 := ⟨by omega, by omega⟩
            have fq330845 : fI (F330813 q276666) 3 = p330828 := by rw [he330824]; rfl
            refine Gw_callV (As := []) (gV_ok D I) (cp_12780_Code_size l hl0 D I P276663 F330813 q276666 q330825 q330826 p330827 p330828 hm330823 he330824) dr_cX17_graph_58 ⟨wr_10_160, wr_1_15, wr_9_131, by decide, rfl, (Nat.le_of_ble_eq_true rfl), (Nat.le_of_ble_eq_true rfl)⟩ wr_9_129 wr_9_130 hm330823 he330824 rfl (show 0 + 0 ≤ 0 by first | omega | decide) (show 0 + 0 ≤ 0 by first | omega | decide) (Nat.le_of_ble_eq_true rfl) (fun r330849 w330850 dc330846 ds330847 hp330848 => ?_) (fun _ _ _ _ _ z => z.elim)
            obtain ⟨rfl, rfl, hdc, hds⟩ := hp330848
            change G _ _ _ _ _ _ _ (.int p330828 :: _) _ _ _
            refine G_widen (cs' := 0) (sl' := 0) (by omega) (by omega) ?_
            refine G_icmp_ge 296 dr_cX17_graph_61 (by decide +kernel) (fun hc330851 => ?_) (fun hc330851 => ?_)
            · have r330852 : p330828.toInt ≤ g330812.toInt := gC_le hc330851
              have hx330853 : tl_RModel_graph_56 D I γ el P276663 F276664 p276667 q276666 q276665 F326659 (0 : Int32) 296 F330813 := kt56_330818 296 F330813 (fun R c1 c2 => c1 F330813 g330812 p330828 bg330812 hT330814 hs330815 x330816 x330817 fq330845 r330852)
              refine G_iconst 0 dr_cX17_graph_296 (by decide +kernel) ?_
              refine G_istore_n (L' := [(3, .int 0), (0, .ref q276665), (1, .ref q276666), (2, .int p276667)]) dr_cX17_graph_297 (Nat.le_of_ble_eq_true rfl) rfl ?_
              have hlp298_331162 : ∀ (n298_331162 : Nat) (F331158 : Nat → va_E) (g331157 : Int32), gB g331157 0 2000 → RS D I P276663 F331158 γ el → rStr γ [] F276664 F331158 → (gIp (p276667.toInt = 0) (rGr γ el F276664 q276666 (γ 6 (γ 1 q276666)) (cB (F331158 (γ 9 3))) (vA (γ 6 (γ 1 q276666))))) → (F331158 q276665 = F276664 q276665) → (∀ (k : Nat) (e1 : Nat → va_E), tl_RModel_graph_298 D I γ el P276663 F276664 p276667 q276666 q276665 F331158 g331157 k e1 → tl_RModel_graph_298 D I γ el P276663 F276664 p276667 q276666 q276665 F330813 (0 : Int32) k e1) → ((2001 : Int) - g331157.toInt).toNat < n298_331162 → G (gV D I) l (gRm 5 111 0 0) (gMA (gV D I) (pt_276669_SpillForgeModel_graph D I γ el P276663 F276664 q276665 q276666 p276667) gNA 0 0) ky_276669_SpillForgeModel_graph 298 [(3, .int g331157), (0, .ref q276665), (1, .ref q276666), (2, .int p276667)] [] (va_pl P276663 F331158) 0 0 := by
                intro n298_331162
                induction n298_331162 with
                | zero => intro F331158 g331157 bg331157 hT331159 hs331160 x331161 x331162 kt298_331163 hm298_331162; exact absurd hm298_331162 (Nat.not_lt_zero _)
                | succ n298_331162 ih298_331162 =>
                  intro F331158 g331157 bg331157 hT331159 hs331160 x331161 x331162 kt298_331163 hm298_331162
                  have hs331164 : rStr γ [] F330813 F331158 := fun b h0 hb hw => (hs331160 b h0 hb hw).trans (hs330815 b h0 hb hw).symm
                  have he331165 : F331158 q276666 = .inr (18, [.ref q330825, .ref q330826, .int p330827, .int p330828]) := (hs331164 q276666 (rT0 htq276666 (by decide)) (rT1 htq276666 (by decide)) (rT2 htq276666 (by decide))).trans he330824
                  have hs331166 : rStr γ [] F276664 F331158 := rStr_tr hs330815 hs331164
                  have he331167 : F331158 q276665 = .inr (22, [.ref (γ 9 0), .ref (γ 9 1), .ref (γ 9 2), .ref (γ 9 3), .ref (γ 9 4), .ref (γ 9 5), .ref (γ 9 6), .ref (γ 9 7), .ref (γ 9 8), .int p276674, .int p276675, .int p276676, .int p276677, .int p276678, .int p276679, .ref (γ 9 15), .ref (γ 9 16), .ref (γ 9 17), .ref (γ 9 18), .ref (γ 9 19), .ref (γ 9 20), .ref (γ 9 21), .ref (γ 9 22), .int p276680, .int p276681, .int p276682, .int p276683, .int p276684, .ref q276672, .ref (γ 9 29), .int p276685, .ref (γ 9 31), .int p276686, .int p276687, .int p276688, .ref q276673]) := x331162.trans he276671
                  have hm331168 : q276665 ∈ P276663 := RS_m hT331159 htq276665 (by decide)
                  refine G_iload_n 0 dr_cX17_graph_298 rfl ?_
                  refine G_sipush 2000 dr_cX17_graph_299 (by decide +kernel) ?_
                  refine G_icmp_ge 389 dr_cX17_graph_302 (by decide +kernel) (fun hc331169 => ?_) (fun hc331169 => ?_)
                  · have r331170 : 2000 ≤ g331157.toInt := gj_leL hc331169 (show Int32.toInt 2000 = 2000 by decide)
                    have bg331157' : gB g331157 2000 2000 := ⟨by omega, by omega⟩
                    have hx331171 : tl_RModel_graph_298 D I γ el P276663 F276664 p276667 q276666 q276665 F330813 (0 : Int32) 389 F331158 := kt298_331163 389 F331158 (fun R c1 c2 c3 => c1 F331158 g331157 bg331157 hT331159 hs331160 x331161 x331162 r331170)
                    exact G_vretA dr_cX17_graph_389 rfl (Nat.le_of_ble_eq_true rfl) (Nat.le_of_ble_eq_true rfl) ⟨F331158, rfl, rfl, hT331159, hs331160, (Nat.le_of_ble_eq_true rfl), (Nat.le_of_ble_eq_true rfl), x331161, x331162, (fun R c1 => c1 F276724 F326659 F330813 F331158 hT276725 hs276726 x276722 ht276723 hx326671 hx330853 hx331171)⟩
                  · have r331172 : g331157.toInt < 2000 := gj_nleL hc331169 (show Int32.toInt 2000 = 2000 by decide)
                    have bg331157' : gB g331157 0 1999 := ⟨by omega, by omega⟩
                    refine G_aload_n 1 dr_cX17_graph_305 rfl ?_
                    have fq331173 : fR (F331158 q276665) 3 = (γ 9 3) := by rw [he331167]; rfl
                    refine Gp_get 3 hm331168 he331167 dr_cX17_graph_306 (gk_X17 D I) (Nat.le_of_ble_eq_true rfl) wr_7_77 rfl ?_
                    refine G_iload_n 0 dr_cX17_graph_309 rfl ?_
                    have hm331174 : (γ 9 3) ∈ P276663 := RS_m hT331159 ht276694 (by decide)
                    obtain ⟨f331176, he331175, bf331176⟩ := show rk_14 I (F331158 (γ 9 3)) from RS_o hT331159 ht276694
                    refine Gp_zald 3 hm331174 he331175 dr_cX17_graph_310 rfl (gB_in bg331157' (by decide) (by decide)) (G_nam fun z331177 hz331177 => ?_)
                    have bz331177 : gB z331177 0 1 := by rw [hz331177]; exact bf331176 _
                    refine G_if_ne 317 dr_cX17_graph_311 (by decide +kernel) (fun hc331178 => ?_) (fun hc331178 => ?_)
                    · have r331179 : z331177.toInt ≠ 0 := gj_neq hc331178 (show Int32.toInt 0 = 0 by decide)
                      have bz331177' : gB z331177 1 1 := gB_t1 bz331177 r331179
                      refine G_iconst 0 dr_cX17_graph_317 (by decide +kernel) ?_
                      refine G_istore (L' := [(4, .int 0), (3, .int g331157), (0, .ref q276665), (1, .ref q276666), (2, .int p276667)]) dr_cX17_graph_318 (Nat.le_of_ble_eq_true rfl) rfl ?_
                      have hlp320_331325 : ∀ (n320_331325 : Nat) (F331321 : Nat → va_E) (g331320 : Int32), gB g331320 0 32 → RS D I P276663 F331321 γ el → rStr γ [] F276664 F331321 → (gIp (p276667.toInt = 0) (rGr γ el F276664 q276666 (γ 6 (γ 1 q276666)) (cB (F331321 (γ 9 3))) (vA (γ 6 (γ 1 q276666))))) → (F331321 q276665 = F276664 q276665) → (∀ (k : Nat) (e1 : Nat → va_E), tl_RModel_graph_320 D I γ el P276663 F276664 p276667 q276666 q276665 g331157 F331321 g331320 k e1 → tl_RModel_graph_320 D I γ el P276663 F276664 p276667 q276666 q276665 g331157 F331158 (0 : Int32) k e1) → ((33 : Int) - g331320.toInt).toNat < n320_331325 → G (gV D I) l (gRm 5 111 0 0) (gMA (gV D I) (pt_276669_SpillForgeModel_graph D I γ el P276663 F276664 q276665 q276666 p276667) gNA 0 0) ky_276669_SpillForgeModel_graph 320 [(4, .int g331320), (3, .int g331157), (0, .ref q276665), (1, .ref q276666), (2, .int p276667)] [] (va_pl P276663 F331321) 0 0 := by
                        intro n320_331325
                        induction n320_331325 with
                        | zero => intro F331321 g331320 bg331320 hT331322 hs331323 x331324 x331325 kt320_331326 hm320_331325; exact absurd hm320_331325 (Nat.not_lt_zero _)
                        | succ n320_331325 ih320_331325 =>
                          intro F331321 g331320 bg331320 hT331322 hs331323 x331324 x331325 kt320_331326 hm320_331325
                          have hs331327 : rStr γ [] F331158 F331321 := fun b h0 hb hw => (hs331323 b h0 hb hw).trans (hs331160 b h0 hb hw).symm
                          have he331328 : F331321 q276666 = .inr (18, [.ref q330825, .ref q330826, .int p330827, .int p330828]) := (hs331327 q276666 (rT0 htq276666 (by decide)) (rT1 htq276666 (by decide)) (rT2 htq276666 (by decide))).trans he331165
                          have hs331329 : rStr γ [] F276664 F331321 := rStr_tr hs331160 hs331327
                          have he331330 : F331321 q276665 = .inr (22, [.ref (γ 9 0), .ref (γ 9 1), .ref (γ 9 2), .ref (γ 9 3), .ref (γ 9 4), .ref (γ 9 5), .ref (γ 9 6), .ref (γ 9 7), .ref (γ 9 8), .int p276674, .int p276675, .int p276676, .int p276677, .int p276678, .int p276679, .ref (γ 9 15), .ref (γ 9 16), .ref (γ 9 17), .ref (γ 9 18), .ref (γ 9 19), .ref (γ 9 20), .ref (γ 9 21), .ref (γ 9 22), .int p276680, .int p276681, .int p276682, .int p276683, .int p276684, .ref q276672, .ref (γ 9 29), .int p276685, .ref (γ 9 31), .int p276686, .int p276687, .int p276688, .ref q276673]) := x331325.trans he276671
                          have hm331331 : q276665 ∈ P276663 := RS_m hT331322 htq276665 (by decide)
                          refine G_iload 0 dr_cX17_graph_320 rfl ?_
                          refine G_bipush 32 dr_cX17_graph_322 (by decide +kernel) ?_
                          refine G_icmp_ge 383 dr_cX17_graph_324 (by decide +kernel) (fun hc331332 => ?_) (fun hc331332 => ?_)
                          · have r331333 : 32 ≤ g331320.toInt := gj_leL hc331332 (show Int32.toInt 32 = 32 by decide)
                            have bg331320' : gB g331320 32 32 := ⟨by omega, by omega⟩
                            have hx331334 : tl_RModel_graph_320 D I γ el P276663 F276664 p276667 q276666 q276665 g331157 F331158 (0 : Int32) 383 F331321 := kt320_331326 383 F331321 (fun R c1 c2 => c1 F331321 g331320 bg331320 hT331322 hs331323 x331324 x331325 r331333)
                            obtain ⟨z331335, hz331335⟩ : ∃ z : Int32, z = g331157 + Int32.ofInt 1 := ⟨_, rfl⟩
                            have ez331335 : z331335.toInt = g331157.toInt + 1 := gI_inc hz331335 (by decide) bg331157' (by decide) (by decide)
                            have bz331335 : gB z331335 1 2000 := ⟨by omega, by omega⟩
                            refine G_iinc (L' := [(3, .int z331335), (4, .int g331320), (0, .ref q276665), (1, .ref q276666), (2, .int p276667)]) z331335 1 dr_cX17_graph_383 rfl hz331335.symm (Nat.le_of_ble_eq_true rfl) rfl ?_
                            refine G_goto 298 dr_cX17_graph_386 (by decide +kernel) ?_
                            refine G_lv (L' := [(3, .int z331335), (0, .ref q276665), (1, .ref q276666), (2, .int p276667)]) [0, 2, 3, 4] rfl ?_
                            exact ih298_331162 F331321 z331335 (gB_w bz331335 (by decide) (by decide)) hT331322 hs331323 x331324 x331325 (fun k e1 ht => kt298_331163 k e1 (fun R c1 c2 c3 => c2 F331158 g331157 f331176 z331177 F331321 z331335 k e1 bg331157 hT331159 hs331160 x331161 x331162 r331172 fq331173 he331175 hz331177 bz331177 r331179 hx331334 ez331335 (ht R c1 c2 c3))) (mz_up ez331335 (Int.le_trans bg331157'.2 (by decide)) hm298_331162)
                          · have r331336 : g331320.toInt < 32 := gj_nleL hc331332 (show Int32.toInt 32 = 32 by decide)
                            have bg331320' : gB g331320 0 31 := ⟨by omega, by omega⟩
                            refine G_aload_n 2 dr_cX17_graph_327 rfl ?_
                            have fq331337 : fR (F331321 q276665) 1 = (γ 9 1) := by rw [he331330]; rfl
                            refine Gp_get 1 hm331331 he331330 dr_cX17_graph_328 (gk_X17 D I) (Nat.le_of_ble_eq_true rfl) wr_7_75 rfl ?_
                            refine G_iload_n 1 dr_cX17_graph_331 rfl ?_
                            have hm331338 : (γ 9 1) ∈ P276663 := RS_m hT331322 ht276692 (by decide)
                            obtain ⟨f331340, he331339, hg331341⟩ := show rk_13 I γ (F331321 (γ 9 1)) from RS_o hT331322 ht276692
                            obtain ⟨q331342, hx331344⟩ : ∃ x, x = γ 11 g331157.toInt.toNat := ⟨_, rfl⟩
                            have ht331343 : rKd γ q331342 36 := by rw [hx331344]; exact (hg331341 _ (show g331157.toInt.toNat < 2000 by omega)).2.1
                            refine Gp_aald 5 hm331338 he331339 dr_cX17_graph_332 rfl rfl (gB_in bg331157' (by decide) (by decide)) ?_
                            rw [show f331340 g331157.toNatClampNeg = some q331342 from (hg331341 _ (show g331157.toInt.toNat < 2000 by omega)).1.trans (by rw [hx331344])]
                            change G _ _ _ _ _ _ _ (.ref q331342 :: _) _ _ _
                            refine G_iload 0 dr_cX17_graph_333 rfl ?_
                            have hm331345 : q331342 ∈ P276663 := RS_m hT331322 ht331343 (by decide)
                            obtain ⟨f331347, he331346, wf331347⟩ := show rk_36 I (F331321 q331342) from RS_o hT331322 ht331343
                            refine Gp_lald 2 hm331345 he331346 dr_cX17_graph_335 rfl (gB_in bg331320' (by decide) (by decide)) (G_namL fun u331348 hu331348 => ?_)
                            have qu331348 : lb_Q u331348 (2000 - 64 * g331320.toInt) := lb_Wld hu331348 wf331347 (by omega) (by omega) (lb_Mod0 (by omega) (by omega))
                            refine G_lstore (L' := [(5, .long u331348), (4, .int g331320), (3, .int g331157), (0, .ref q276665), (1, .ref q276666), (2, .int p276667)]) dr_cX17_graph_336 (Nat.le_of_ble_eq_true rfl) rfl ?_
                            have hlp338_331411 : ∀ (n338_331411 : Nat) (F331406 : Nat → va_E) (gl331405 : Int64), RS D I P276663 F331406 γ el → rStr γ [] F276664 F331406 → (lb_Q gl331405 (2000 - 64 * g331320.toInt)) → (gIp (p276667.toInt = 0) (rGr γ el F276664 q276666 (γ 6 (γ 1 q276666)) (cB (F331406 (γ 9 3))) (vA (γ 6 (γ 1 q276666))))) → (F331406 q276665 = F276664 q276665) → (∀ (k : Nat) (e1 : Nat → va_E), tl_RModel_graph_338 D I γ el P276663 F276664 g331320 p276667 q276666 q276665 g331157 F331406 gl331405 k e1 → tl_RModel_graph_338 D I γ el P276663 F276664 g331320 p276667 q276666 q276665 g331157 F331321 u331348 k e1) → (rpop gl331405) < n338_331411 → G (gV D I) l (gRm 5 111 0 0) (gMA (gV D I) (pt_276669_SpillForgeModel_graph D I γ el P276663 F276664 q276665 q276666 p276667) gNA 0 0) ky_276669_SpillForgeModel_graph 338 [(5, .long gl331405), (4, .int g331320), (3, .int g331157), (0, .ref q276665), (1, .ref q276666), (2, .int p276667)] [] (va_pl P276663 F331406) 0 0 := by
                              intro n338_331411
                              induction n338_331411 with
                              | zero => intro F331406 gl331405 hT331407 hs331408 x331409 x331410 x331411 kt338_331412 hm338_331411; exact absurd hm338_331411 (Nat.not_lt_zero _)
                              | succ n338_331411 ih338_331411 =>
                                intro F331406 gl331405 hT331407 hs331408 x331409 x331410 x331411 kt338_331412 hm338_331411
                                have hs331413 : rStr γ [] F331321 F331406 := fun b h0 hb hw => (hs331408 b h0 hb hw).trans (hs331323 b h0 hb hw).symm
                                have he331414 : F331406 q276666 = .inr (18, [.ref q330825, .ref q330826, .int p330827, .int p330828]) := (hs331413 q276666 (rT0 htq276666 (by decide)) (rT1 htq276666 (by decide)) (rT2 htq276666 (by decide))).trans he331328
                                have hs331415 : rStr γ [] F276664 F331406 := rStr_tr hs331323 hs331413
                                have he331416 : F331406 q276665 = .inr (22, [.ref (γ 9 0), .ref (γ 9 1), .ref (γ 9 2), .ref (γ 9 3), .ref (γ 9 4), .ref (γ 9 5), .ref (γ 9 6), .ref (γ 9 7), .ref (γ 9 8), .int p276674, .int p276675, .int p276676, .int p276677, .int p276678, .int p276679, .ref (γ 9 15), .ref (γ 9 16), .ref (γ 9 17), .ref (γ 9 18), .ref (γ 9 19), .ref (γ 9 20), .ref (γ 9 21), .ref (γ 9 22), .int p276680, .int p276681, .int p276682, .int p276683, .int p276684, .ref q276672, .ref (γ 9 29), .int p276685, .ref (γ 9 31), .int p276686, .int p276687, .int p276688, .ref q276673]) := x331411.trans he276671
                                have hm331417 : q276665 ∈ P276663 := RS_m hT331407 htq276665 (by decide)
                                refine G_lload 0 dr_cX17_graph_338 rfl ?_
                                refine G_lconst 0 dr_cX17_graph_340 rfl ?_
                                refine G_lcmp dr_cX17_graph_341 (G_nam fun z331418 hz331418 => ?_)
                                have bz331418 : gB z331418 (-1) 1 := gB_cmp hz331418
                                refine G_if_eq 377 dr_cX17_graph_342 (by decide +kernel) (fun hc331419 => ?_) (fun hc331419 => ?_)
                                · have r331420 : z331418.toInt = 0 := gj_eq hc331419 (show Int32.toInt 0 = 0 by decide)
                                  have bz331418' : gB z331418 0 0 := ⟨by omega, by omega⟩
                                  have lhc331419 := gC_cmpE hz331418 hc331419
                                  have hx331421 : tl_RModel_graph_338 D I γ el P276663 F276664 g331320 p276667 q276666 q276665 g331157 F331321 u331348 377 F331406 := kt338_331412 377 F331406 (fun R c1 c2 => c1 F331406 gl331405 hT331407 hs331408 x331409 x331410 x331411 lhc331419)
                                  obtain ⟨z331422, hz331422⟩ : ∃ z : Int32, z = g331320 + Int32.ofInt 1 := ⟨_, rfl⟩
                                  have ez331422 : z331422.toInt = g331320.toInt + 1 := gI_inc hz331422 (by decide) bg331320' (by decide) (by decide)
                                  have bz331422 : gB z331422 1 32 := ⟨by omega, by omega⟩
                                  refine G_iinc (L' := [(4, .int z331422), (5, .long gl331405), (3, .int g331157), (0, .ref q276665), (1, .ref q276666), (2, .int p276667)]) z331422 1 dr_cX17_graph_377 rfl hz331422.symm (Nat.le_of_ble_eq_true rfl) rfl ?_
                                  refine G_goto 320 dr_cX17_graph_380 (by decide +kernel) ?_
                                  refine G_lv (L' := [(4, .int z331422), (3, .int g331157), (0, .ref q276665), (1, .ref q276666), (2, .int p276667)]) [0, 2, 3, 4, 5] rfl ?_
                                  exact ih320_331325 F331406 z331422 (gB_w bz331422 (by decide) (by decide)) hT331407 hs331408 x331410 x331411 (fun k e1 ht => kt320_331326 k e1 (fun R c1 c2 => c2 F331321 g331320 q331342 f331347 u331348 F331406 z331422 k e1 bg331320 hT331322 hs331323 x331324 x331325 r331336 fq331337 hx331344 he331346 hu331348 hx331421 ez331422 (ht R c1 c2))) (mz_up ez331422 (Int.le_trans bg331320'.2 (by decide)) hm320_331325)
                                · have r331423 : z331418.toInt ≠ 0 := gj_neq hc331419 (show Int32.toInt 0 = 0 by decide)
                                  have lhc331419 := gC_cmpN hz331418 hc331419
                                  refine G_aload_n 3 dr_cX17_graph_345 rfl ?_
                                  have fq331424 : fR (F331406 q276665) 1 = (γ 9 1) := by rw [he331416]; rfl
                                  refine Gp_get 1 hm331417 he331416 dr_cX17_graph_346 (gk_X17 D I) (Nat.le_of_ble_eq_true rfl) wr_7_75 rfl ?_
                                  refine G_bipush 64 dr_cX17_graph_349 (by decide +kernel) ?_
                                  refine G_iload 1 dr_cX17_graph_351 rfl ?_
                                  refine G_imul dr_cX17_graph_353 (G_nam fun z331425 hz331425 => ?_)
                                  have ez331425 : z331425.toInt = 64 * g331320.toInt := by rw [gI_mul hz331425 (gBl (show Int32.toInt 64 = 64 by decide)) bg331320' (by decide) (by decide) (by decide), show Int32.toInt 64 = 64 from by decide]
                                  have bz331425 : gB z331425 0 1984 := gB_mul hz331425 (gBl (show Int32.toInt 64 = 64 by decide)) bg331320' (by decide) (by decide) (by decide) (by decide)
                                  refine G_lload 0 dr_cX17_graph_354 rfl ?_
                                  refine Gw_callS (As := [.long gl331405]) (gV_ok D I) (nzc_Long_numberOfTrailingZeros l hl0 D I P276663 F331406 gl331405) dr_cX17_graph_356 ⟨wr_11_1, wr_1_31, wr_11_3, by decide, rfl, (Nat.le_of_ble_eq_true rfl), (Nat.le_of_ble_eq_true rfl)⟩ wr_11_2 (show 0 + 0 ≤ 0 by first | omega | decide) (show 0 + 0 ≤ 0 by first | omega | decide) (Nat.le_of_ble_eq_true rfl) (fun r331429 w331430 dc331426 ds331427 hp331428 => ?_) (fun _ _ _ _ _ z => z.elim)
                                  obtain ⟨o331433, rfl, rfl, hdc, hds, hO331431⟩ := hp331428
                                  have hO331431 := hO331431 lhc331419
                                  have bo331433 : gB o331433 0 63 := ⟨hO331431.1, hO331431.2.1⟩
                                  have r331432 : o331433.toInt < 2000 - 64 * g331320.toInt := lb_Qlt x331409 hO331431.1 hO331431.2.2.1
                                  change G _ _ _ _ _ _ _ (.int o331433 :: _) _ _ _
                                  refine G_widen (cs' := 0) (sl' := 0) (by omega) (by omega) ?_
                                  refine G_iadd dr_cX17_graph_359 (G_nam fun z331434 hz331434 => ?_)
                                  have ez331434 : z331434.toInt = z331425.toInt + o331433.toInt := by rw [gI_add hz331434 bz331425 bo331433 (by decide) (by decide)]
                                  have bz331434 : gB z331434 0 2047 := gB_add (gI_add hz331434 bz331425 bo331433 (by decide) (by decide)) bz331425 bo331433 (by decide) (by decide)
                                  have hm331435 : (γ 9 1) ∈ P276663 := RS_m hT331407 ht276692 (by decide)
                                  obtain ⟨f331437, he331436, hg331438⟩ := show rk_13 I γ (F331406 (γ 9 1)) from RS_o hT331407 ht276692
                                  obtain ⟨q331439, hx331441⟩ : ∃ x, x = γ 11 z331434.toInt.toNat := ⟨_, rfl⟩
                                  have ht331440 : rKd γ q331439 36 := by rw [hx331441]; exact (hg331438 _ (show z331434.toInt.toNat < 2000 by omega)).2.1
                                  refine Gp_aald 5 hm331435 he331436 dr_cX17_graph_360 rfl rfl (gB_inr (by omega) (by omega)) ?_
                                  rw [show f331437 z331434.toNatClampNeg = some q331439 from (hg331438 _ (show z331434.toInt.toNat < 2000 by omega)).1.trans (by rw [hx331441])]
                                  change G _ _ _ _ _ _ _ (.ref q331439 :: _) _ _ _
                                  refine G_iload_n 2 dr_cX17_graph_361 rfl ?_
                                  have hm331442 : q331439 ∈ P276663 := RS_m hT331407 ht331440 (by decide)
                                  obtain ⟨f331444, he331443, wf331444⟩ := show rk_36 I (F331406 q331439) from RS_o hT331407 ht331440
                                  refine Gw_callS (As := [.ref q331439, .int g331157]) (gV_ok D I) (cp_1860_SpillForgeModel_set l hl0 D I P276663 F331406 q331439 g331157 f331444 hm331442 he331443 bg331157' wf331444) dr_cX17_graph_362 ⟨wr_10_189, wr_1_14, wr_10_191, by decide, rfl, (Nat.le_of_ble_eq_true rfl), (Nat.le_of_ble_eq_true rfl)⟩ wr_10_190 (show 0 + 0 ≤ 0 by first | omega | decide) (show 0 + 0 ≤ 0 by first | omega | decide) (Nat.le_of_ble_eq_true rfl) (fun r331448 w331449 dc331445 ds331446 hp331447 => ?_) (fun _ _ _ _ _ z => z.elim)
                                  obtain ⟨F331453, f331450, rfl, rfl, hfr331455, he331456, hdc, hds, x331451, ht331452⟩ := hp331447
                                  have he331457 : F331453 q276666 = .inr (18, [.ref q330825, .ref q330826, .int p330827, .int p330828]) := (hfr331455 q276666 hm330823 (nm_c (rn_oa he331414 he331443) nm_n)).trans he331414
                                  have he331458 : F331453 q276665 = .inr (22, [.ref (γ 9 0), .ref (γ 9 1), .ref (γ 9 2), .ref (γ 9 3), .ref (γ 9 4), .ref (γ 9 5), .ref (γ 9 6), .ref (γ 9 7), .ref (γ 9 8), .int p276674, .int p276675, .int p276676, .int p276677, .int p276678, .int p276679, .ref (γ 9 15), .ref (γ 9 16), .ref (γ 9 17), .ref (γ 9 18), .ref (γ 9 19), .ref (γ 9 20), .ref (γ 9 21), .ref (γ 9 22), .int p276680, .int p276681, .int p276682, .int p276683, .int p276684, .ref q276672, .ref (γ 9 29), .int p276685, .ref (γ 9 31), .int p276686, .int p276687, .int p276688, .ref q276673]) := (hfr331455 q276665 hm331417 (nm_c (rn_oa he331416 he331443) nm_n)).trans he331416
                                  have he331459 : F331453 (γ 9 1) = .inl (I (.array .long), 2000, .inr (.inr (.inr (.inr f331437)))) := (hfr331455 (γ 9 1) hm331435 (nm_c (rn_ref_long he331436 he331443) nm_n)).trans he331436
                                  have hfr331460 : rFr [q331439] P276663 F331406 F331453 := rFr_call (rSub_rf (P := P276663)) (rFr_rf (W := []) (P := P276663) (F := F331406)) hfr331455 (fun b hb hn => ⟨nm_n, (nm_c (fun e => hn (e ▸ List.mem_cons_self)) nm_n)⟩)
                                  change G _ _ _ _ _ _ _ _ _ _ _
                                  refine G_widen (cs' := 0) (sl' := 0) (by omega) (by omega) ?_
                                  have hT331461 : RS D I P276663 F331453 γ el := RS_fr hT331407 hfr331460 ht331440 (by decide) ⟨f331450, he331456, x331451⟩
                                  have hs331462 : rStr γ [] F276664 F331453 := rStr_fr hT331407 hs331408 hfr331460 ht331440 (by decide)
                                  have kp331463 : F331453 q276665 = F276664 q276665 := (hfr331460 q276665 (RS_m hT331407 htq276665 (by decide)) (nm_c (rn_ty htq276665 ht331440 (by decide)) nm_n)).trans x331411
                                  have kp331464 : F331453 (γ 9 3) = F331406 (γ 9 3) := hfr331460 (γ 9 3) (RS_m hT331407 ht276694 (by decide)) (nm_c (rn_ty ht276694 ht331440 (by decide)) nm_n)
                                  refine G_lload 0 dr_cX17_graph_365 rfl ?_
                                  refine G_lload 0 dr_cX17_graph_367 rfl ?_
                                  refine G_lconst 1 dr_cX17_graph_369 rfl ?_
                                  refine G_lsub dr_cX17_graph_370 (G_namL fun u331465 hu331465 => ?_)
                                  refine G_land dr_cX17_graph_371 (G_namL fun u331466 hu331466 => ?_)
                                  refine G_lstore (L' := [(5, .long u331466), (4, .int g331320), (3, .int g331157), (0, .ref q276665), (1, .ref q276666), (2, .int p276667)]) dr_cX17_graph_372 (Nat.le_of_ble_eq_true rfl) rfl ?_
                                  refine G_goto 338 dr_cX17_graph_374 (by decide +kernel) ?_
                                  exact ih338_331411 F331453 u331466 hT331461 hs331462 (lb_QandL hu331466 x331409) (by rw [kp331464]; exact x331410) kp331463 (fun k e1 ht => kt338_331412 k e1 (fun R c1 c2 => c2 F331406 gl331405 z331425 o331433 z331434 q331439 f331444 f331450 F331453 u331465 u331466 k e1 hT331407 hs331408 x331409 x331410 x331411 lhc331419 fq331424 ez331425 hO331431 ez331434 hx331441 he331443 ht331452 hfr331460 he331456 hT331461 hu331465 hu331466 (ht R c1 c2))) (by have q := rpop_low lhc331419 hu331465 hu331466; omega)
                            exact hlp338_331411 ((rpop u331348) + 1) F331321 u331348 hT331322 hs331323 qu331348 x331324 x331325 (fun k e1 ht => ht) (Nat.lt_succ_self _)
                      exact hlp320_331325 (((33 : Int) - 0).toNat + 1) F331158 0 (gB_w (gBl (show Int32.toInt 0 = 0 by decide)) (by decide) (by decide)) hT331159 hs331160 x331161 x331162 (fun k e1 ht => ht) (Nat.lt_succ_self _)
                    · have r331467 : z331177.toInt = 0 := gj_eq hc331178 (show Int32.toInt 0 = 0 by decide)
                      have bz331177' : gB z331177 0 0 := gB_t0 r331467
                      refine G_goto 383 dr_cX17_graph_314 (by decide +kernel) ?_
                      obtain ⟨z331468, hz331468⟩ : ∃ z : Int32, z = g331157 + Int32.ofInt 1 := ⟨_, rfl⟩
                      have ez331468 : z331468.toInt = g331157.toInt + 1 := gI_inc hz331468 (by decide) bg331157' (by decide) (by decide)
                      have bz331468 : gB z331468 1 2000 := ⟨by omega, by omega⟩
                      refine G_iinc (L' := [(3, .int z331468), (0, .ref q276665), (1, .ref q276666), (2, .int p276667)]) z331468 0 dr_cX17_graph_383 rfl hz331468.symm (Nat.le_of_ble_eq_true rfl) rfl ?_
                      refine G_goto 298 dr_cX17_graph_386 (by decide +kernel) ?_
                      exact ih298_331162 F331158 z331468 (gB_w bz331468 (by decide) (by decide)) hT331159 hs331160 x331161 x331162 (fun k e1 ht => kt298_331163 k e1 (fun R c1 c2 c3 => c3 F331158 g331157 f331176 z331177 z331468 k e1 bg331157 hT331159 hs331160 x331161 x331162 r331172 fq331173 he331175 hz331177 bz331177 r331467 ez331468 (ht R c1 c2 c3))) (mz_up ez331468 (Int.le_trans bg331157'.2 (by decide)) hm298_331162)
              exact hlp298_331162 (((2001 : Int) - 0).toNat + 1) F330813 0 (gB_w (gBl (show Int32.toInt 0 = 0 by decide)) (by decide) (by decide)) hT330814 hs330815 (fun h0 => by have z := x330816 h0; exact gq_al z (by omega)) x330817 (fun k e1 ht => ht) (Nat.lt_succ_self _)
            · have r331469 : g330812.toInt < p330828.toInt := gC_nle hc330851
              have bg330812' : gB g330812 0 999999 := ⟨by omega, by omega⟩
              have bp330828' : gB p330828 1 1000000 := ⟨by omega, by omega⟩
              refine G_aload_n 2 dr_cX17_graph_64 rfl ?_
              refine G_iload_n 0 dr_cX17_graph_65 rfl ?_
              have hm331470 : q330825 ∈ P276663 := RS_m hT330814 ht330829 (by decide)
              obtain ⟨⟨p331472, p331473, q331474, he331471, r331475, r331476, r331477, r331479⟩, r331478⟩ := show rk_4 D I γ el F330813 q330825 from RS_o hT330814 ht330829
              have bp331472 := gB_any p331472
              have bp331473 : gB p331473 0 1000000 := ⟨by omega, by omega⟩
              obtain ⟨r331480, r331481, n331488, f331489, r331482, r331483, r331484, r331485, r331486, r331487⟩ := rLC_n r331477 (by omega)
              have hm331490 : q331474 ∈ P276663 := RS_m hT330814 r331480 (by decide)
              obtain ⟨q331491, hx331492⟩ : ∃ x, x = el q330825 g330812.toInt.toNat := ⟨_, rfl⟩
              have fq331496 : fR (F330813 q276666) 0 = q330825 := by rw [he330824]; rfl
              have hx331493 : f331489 g330812.toNatClampNeg = some q331491 := (r331486 _ (show g330812.toInt.toNat < γ 2 q330825 by omega)).trans (by rw [hx331492])
              have ht331497 : rKd γ q331491 2 := by rw [hx331492]; exact (r330840 _ (by omega)).resolve_right (fun z => absurd z.1 (by omega))
              have ht331498 : rFm γ q331491 q330825 := by rw [hx331492]; exact (r331478 _ (show g330812.toInt.toNat < γ 2 q330825 by omega)).2.1
              have hm331499 : q331491 ∈ P276663 := RS_m hT330814 ht331497 (by decide)
              obtain ⟨q331501, q331502, p331503, p331504, he331500, ht331511, ht331505, ht331506, ht331507, ht331508, ht331509, bp331503, bp331504, r331510, r331512, r331513⟩ := show rk_2 γ q331491 (F330813 q331491) from RS_o hT330814 ht331497
              have fq331514 : fI (F330813 q330825) 2 = p331473 := by rw [he331471]; rfl
              refine Gw_callV (As := [.int g330812]) (gV_ok D I) (cp_7901_Code_get l hl0 D I P276663 F330813 q276666 q330825 q331474 g330812 q330826 p330827 p330828 p331472 p331473 f331489 n331488 q331491 q331501 q331502 p331503 p331504 hm330823 hm331470 hm331490 hm331499 he330824 he331471 r331482 he331500 (gB_w bg330812' (by decide) (by decide)) (gB_w bp331473 (by decide) (by decide)) (by omega) (by omega) (by assumption) (by omega)) dr_cX17_graph_66 ⟨wr_10_161, wr_1_15, wr_10_141, by decide, rfl, (Nat.le_of_ble_eq_true rfl), (Nat.le_of_ble_eq_true rfl)⟩ wr_10_139 wr_10_140 hm330823 he330824 rfl (show 0 + 0 ≤ 0 by first | omega | decide) (show 0 + 0 ≤ 0 by first | omega | decide) (Nat.le_of_ble_eq_true rfl) (fun r331518 w331519 dc331515 ds331516 hp331517 => ?_) (fun _ _ _ _ _ z => z.elim)
              obtain ⟨rfl, rfl, hdc, hds, ht331520⟩ := hp331517
              change G _ _ _ _ _ _ _ (.ref q331491 :: _) _ _ _
              refine G_widen (cs' := 0) (sl' := 0) (by omega) (by omega) ?_
              have hb331521 : el (γ 14 q276666) (g330812.toInt : Int).toNat = q331491 := by rw [ht330844.1, hx331492]
              refine G_astore (L' := [(4, .ref q331491), (3, .int g330812), (0, .ref q276665), (1, .ref q276666), (2, .int p276667)]) dr_cX17_graph_69 (Nat.le_of_ble_eq_true rfl) rfl ?_
              refine G_aload_n 2 dr_cX17_graph_71 rfl ?_
              refine G_aload 0 dr_cX17_graph_72 rfl ?_
              refine Gw_callV (As := [.ref q331491]) (gV_ok D I) (ct_280448_SpillForgeModel_behind l hl0 D I γ el P276663 F330813 q276665 q331491 hT330814 htq276665 ht331497) dr_cX17_graph_74 ⟨wr_10_162, wr_1_14, wr_10_165, by decide, rfl, (Nat.le_of_ble_eq_true rfl), (Nat.le_of_ble_eq_true rfl)⟩ wr_10_164 wr_p_95 hm330822 he330821 rfl (show 0 + 0 ≤ 0 by first | omega | decide) (show 0 + 0 ≤ 0 by first | omega | decide) (Nat.le_of_ble_eq_true rfl) (fun r331525 w331526 dc331522 ds331523 hp331524 => ?_) (fun _ _ _ _ _ z => z.elim)
              obtain ⟨F331530, rfl, rfl, hT331531, hs331532, hdc, hds, x331527, x331528, ht331529⟩ := hp331524
              have he331533 : F331530 q276666 = .inr (18, [.ref q330825, .ref q330826, .int p330827, .int p330828]) := (hs331532 q276666 (rT0 htq276666 (by decide)) (rT1 htq276666 (by decide)) (rT2 htq276666 (by decide))).trans he330824
              have he331534 : F331530 q330825 = .inr (4, [.int p331472, .ref q331474, .int p331473]) := (hs331532 q330825 (rT0 ht330829 (by decide)) (rT1 ht330829 (by decide)) (rT2 ht330829 (by decide))).trans he331471
              have he331535 : F331530 q331474 = .inl (I (.object "java/lang/Object"), n331488, .inr (.inr (.inr (.inr f331489)))) := (hs331532 q331474 (rT0 r331480 (by decide)) (rT1 r331480 (by decide)) (rT2 r331480 (by decide))).trans r331482
              have he331536 : F331530 q331491 = .inr (17, [.ref q331501, .ref q331502, .int p331503, .int p331504]) := (hs331532 q331491 (rT0 ht331497 (by decide)) (rT1 ht331497 (by decide)) (rT2 ht331497 (by decide))).trans he331500
              have hs331537 : rStr γ [] F276664 F331530 := rStr_tr hs330815 hs331532
              have kp331538 : F331530 q276665 = F276664 q276665 := (x331527).trans x330817
              have kp331539 : F331530 (γ 9 3) = F330813 (γ 9 3) := x331528
              have he331540 : F331530 q276665 = .inr (22, [.ref (γ 9 0), .ref (γ 9 1), .ref (γ 9 2), .ref (γ 9 3), .ref (γ 9 4), .ref (γ 9 5), .ref (γ 9 6), .ref (γ 9 7), .ref (γ 9 8), .int p276674, .int p276675, .int p276676, .int p276677, .int p276678, .int p276679, .ref (γ 9 15), .ref (γ 9 16), .ref (γ 9 17), .ref (γ 9 18), .ref (γ 9 19), .ref (γ 9 20), .ref (γ 9 21), .ref (γ 9 22), .int p276680, .int p276681, .int p276682, .int p276683, .int p276684, .ref q276672, .ref (γ 9 29), .int p276685, .ref (γ 9 31), .int p276686, .int p276687, .int p276688, .ref q276673]) := (x331527).trans he330821
              change G _ _ _ _ _ _ _ _ _ _ _
              refine G_widen (cs' := 0) (sl' := 0) (by omega) (by omega) ?_
              refine G_aload_n 2 dr_cX17_graph_77 rfl ?_
              refine G_aload 0 dr_cX17_graph_78 rfl ?_
              have fq331541 : fR (F331530 q331491) 1 = q331502 := by rw [he331536]; rfl
              refine Gp_get 1 hm331499 he331536 dr_cX17_graph_80 (gk_X12 D I) (Nat.le_of_ble_eq_true rfl) wr_9_223 rfl ?_
              refine G_iload_n 4 dr_cX17_graph_83 rfl ?_
              refine Gw_callV (As := [.ref q331502, .int p276667]) (gV_ok D I) (ct_283197_SpillForgeModel_stand l hl0 D I γ el P276663 F331530 q276665 q331502 p276667 hT331531 htq276665 ht331507 bp276667) dr_cX17_graph_84 ⟨wr_10_237, wr_1_14, wr_11_0, by decide, rfl, (Nat.le_of_ble_eq_true rfl), (Nat.le_of_ble_eq_true rfl)⟩ wr_10_239 wr_p_100 hm330822 he331540 rfl (show 0 + 0 ≤ 0 by first | omega | decide) (show 0 + 0 ≤ 0 by first | omega | decide) (Nat.le_of_ble_eq_true rfl) (fun r331545 w331546 dc331542 ds331543 hp331544 => ?_) (fun _ _ _ _ _ z => z.elim)
              obtain ⟨F331550, rfl, rfl, hT331551, hs331552, hdc, hds, x331547, x331548, ht331549⟩ := hp331544
              have he331553 : F331550 q276666 = .inr (18, [.ref q330825, .ref q330826, .int p330827, .int p330828]) := (hs331552 q276666 (rT0 htq276666 (by decide)) (rT1 htq276666 (by decide)) (rT2 htq276666 (by decide))).trans he331533
              have he331554 : F331550 q330825 = .inr (4, [.int p331472, .ref q331474, .int p331473]) := (hs331552 q330825 (rT0 ht330829 (by decide)) (rT1 ht330829 (by decide)) (rT2 ht330829 (by decide))).trans he331534
              have he331555 : F331550 q331474 = .inl (I (.object "java/lang/Object"), n331488, .inr (.inr (.inr (.inr f331489)))) := (hs331552 q331474 (rT0 r331480 (by decide)) (rT1 r331480 (by decide)) (rT2 r331480 (by decide))).trans he331535
              have he331556 : F331550 q331491 = .inr (17, [.ref q331501, .ref q331502, .int p331503, .int p331504]) := (hs331552 q331491 (rT0 ht331497 (by decide)) (rT1 ht331497 (by decide)) (rT2 ht331497 (by decide))).trans he331536
              have hs331557 : rStr γ [] F276664 F331550 := rStr_tr hs331537 hs331552
              have kp331558 : F331550 q276665 = F276664 q276665 := (x331548).trans kp331538
              have he331559 : F331550 q276665 = .inr (22, [.ref (γ 9 0), .ref (γ 9 1), .ref (γ 9 2), .ref (γ 9 3), .ref (γ 9 4), .ref (γ 9 5), .ref (γ 9 6), .ref (γ 9 7), .ref (γ 9 8), .int p276674, .int p276675, .int p276676, .int p276677, .int p276678, .int p276679, .ref (γ 9 15), .ref (γ 9 16), .ref (γ 9 17), .ref (γ 9 18), .ref (γ 9 19), .ref (γ 9 20), .ref (γ 9 21), .ref (γ 9 22), .int p276680, .int p276681, .int p276682, .int p276683, .int p276684, .ref q276672, .ref (γ 9 29), .int p276685, .ref (γ 9 31), .int p276686, .int p276687, .int p276688, .ref q276673]) := (x331548).trans he331540
              change G _ _ _ _ _ _ _ _ _ _ _
              refine G_widen (cs' := 0) (sl' := 0) (by omega) (by omega) ?_
              have hb331560 : el (γ 14 q276666) (g330812.toInt : Int).toNat = q331491 := hb331521
              have hL331561 : rwL γ el q276666 (g330812.toInt : Int).toNat = q331501 := by unfold rwL; rw [hb331560]; exact ht331511.1
              have hs331562 : F331530 q331502 = F276664 q331502 := hs331537 q331502 (rT0 ht331507 (by decide)) (rT1 ht331507 (by decide)) (rT2 ht331507 (by decide))
              have gr331563 : gIp (p276667.toInt = 0) (rGr γ el F276664 q276666 (γ 6 (γ 1 q276666)) (cB (F331550 (γ 9 3))) (vB (g330812.toInt : Int).toNat (γ 2 q331501))) := fun h0 => gq_end (x330816 h0) (fun m => by have z := x331547 h0 m; rw [kp331539, hs331562] at z; exact z) ((rAt_e hb331560 ht331511.1 (Nat.le_refl _)).trans ht331511.2.1) (show (g330812.toInt : Int).toNat < γ 6 (γ 1 q276666) by omega) (by rw [hL331561])
              refine G_aload_n 2 dr_cX17_graph_87 rfl ?_
              refine G_aload 0 dr_cX17_graph_88 rfl ?_
              have fq331564 : fR (F331550 q331491) 1 = q331502 := by rw [he331556]; rfl
              refine Gp_get 1 hm331499 he331556 dr_cX17_graph_90 (gk_X12 D I) (Nat.le_of_ble_eq_true rfl) wr_9_223 rfl ?_
              refine G_iload_n 4 dr_cX17_graph_93 rfl ?_
              refine Gw_callV (As := [.ref q331502, .int p276667]) (gV_ok D I) (ct_283500_SpillForgeModel_back l hl0 D I γ el P276663 F331550 q276665 q331502 p276667 hT331551 htq276665 ht331507 bp276667) dr_cX17_graph_94 ⟨wr_10_174, wr_1_14, wr_10_177, by decide, rfl, (Nat.le_of_ble_eq_true rfl), (Nat.le_of_ble_eq_true rfl)⟩ wr_10_176 wr_p_96 hm330822 he331559 rfl (show 0 + 0 ≤ 0 by first | omega | decide) (show 0 + 0 ≤ 0 by first | omega | decide) (Nat.le_of_ble_eq_true rfl) (fun r331568 w331569 dc331565 ds331566 hp331567 => ?_) (fun _ _ _ _ _ z => z.elim)
              obtain ⟨F331573, rfl, rfl, hT331574, hs331575, hdc, hds, x331570, x331571, ht331572⟩ := hp331567
              have he331576 : F331573 q276666 = .inr (18, [.ref q330825, .ref q330826, .int p330827, .int p330828]) := (hs331575 q276666 (rT0 htq276666 (by decide)) (rT1 htq276666 (by decide)) (rT2 htq276666 (by decide))).trans he331553
              have he331577 : F331573 q330825 = .inr (4, [.int p331472, .ref q331474, .int p331473]) := (hs331575 q330825 (rT0 ht330829 (by decide)) (rT1 ht330829 (by decide)) (rT2 ht330829 (by decide))).trans he331554
              have he331578 : F331573 q331474 = .inl (I (.object "java/lang/Object"), n331488, .inr (.inr (.inr (.inr f331489)))) := (hs331575 q331474 (rT0 r331480 (by decide)) (rT1 r331480 (by decide)) (rT2 r331480 (by decide))).trans he331555
              have he331579 : F331573 q331491 = .inr (17, [.ref q331501, .ref q331502, .int p331503, .int p331504]) := (hs331575 q331491 (rT0 ht331497 (by decide)) (rT1 ht331497 (by decide)) (rT2 ht331497 (by decide))).trans he331556
              have hs331580 : rStr γ [] F276664 F331573 := rStr_tr hs331557 hs331575
              have kp331581 : F331573 q276665 = F276664 q276665 := (x331570).trans kp331558
              have kp331582 : F331573 (γ 9 3) = F331550 (γ 9 3) := x331571
              have he331583 : F331573 q276665 = .inr (22, [.ref (γ 9 0), .ref (γ 9 1), .ref (γ 9 2), .ref (γ 9 3), .ref (γ 9 4), .ref (γ 9 5), .ref (γ 9 6), .ref (γ 9 7), .ref (γ 9 8), .int p276674, .int p276675, .int p276676, .int p276677, .int p276678, .int p276679, .ref (γ 9 15), .ref (γ 9 16), .ref (γ 9 17), .ref (γ 9 18), .ref (γ 9 19), .ref (γ 9 20), .ref (γ 9 21), .ref (γ 9 22), .int p276680, .int p276681, .int p276682, .int p276683, .int p276684, .ref q276672, .ref (γ 9 29), .int p276685, .ref (γ 9 31), .int p276686, .int p276687, .int p276688, .ref q276673]) := (x331570).trans he331559
              change G _ _ _ _ _ _ _ _ _ _ _
              refine G_widen (cs' := 0) (sl' := 0) (by omega) (by omega) ?_
              refine G_aload 0 dr_cX17_graph_97 rfl ?_
              have fq331584 : fR (F331573 q331491) 0 = q331501 := by rw [he331579]; rfl
              refine Gp_get 0 hm331499 he331579 dr_cX17_graph_99 (gk_X12 D I) (Nat.le_of_ble_eq_true rfl) wr_9_220 rfl ?_
              have fl331585 : γ 2 (γ 14 q331491) = γ 2 q331501 := by rw [ht331511.1]
              have hm331586 : q331501 ∈ P276663 := RS_m hT331574 ht331505 (by decide)
              obtain ⟨⟨p331588, p331589, q331590, he331587, r331591, r331592, r331593, r331595⟩, r331594⟩ := show rk_3 D I γ el F331573 q331501 from RS_o hT331574 ht331505
              have bp331588 := gB_any p331588
              have bp331589 : gB p331589 0 1000000 := ⟨by omega, by omega⟩
              have fq331596 : p331589.toInt = (γ 2 q331501 : Int) := by omega
              have fq331597 : fI (F331573 q331501) 2 = p331589 := by rw [he331587]; rfl
              refine Gw_callV (As := []) (gV_ok D I) (cp_7_ArrayList_size l hl0 D I P276663 F331573 q331501 p331588 q331590 p331589 hm331586 he331587 (gB_w bp331589 (by decide) (by decide))) dr_cX17_graph_102 ⟨wr_10_200, wr_1_18, wr_9_160, by decide, rfl, (Nat.le_of_ble_eq_true rfl), (Nat.le_of_ble_eq_true rfl)⟩ wr_9_158 wr_9_159 hm331586 he331587 rfl (show 0 + 0 ≤ 0 by first | omega | decide) (show 0 + 0 ≤ 0 by first | omega | decide) (Nat.le_of_ble_eq_true rfl) (fun r331601 w331602 dc331598 ds331599 hp331600 => ?_) (fun _ _ _ _ _ z => z.elim)
              obtain ⟨rfl, rfl, hdc, hds⟩ := hp331600
              change G _ _ _ _ _ _ _ (.int p331589 :: _) _ _ _
              refine G_widen (cs' := 0) (sl' := 0) (by omega) (by omega) ?_
              refine G_iconst 1 dr_cX17_graph_105 (by decide +kernel) ?_
              refine G_isub dr_cX17_graph_106 (G_nam fun z331603 hz331603 => ?_)
              have ez331603 : z331603.toInt = p331589.toInt - 1 := by rw [gI_sub hz331603 bp331589 (gBl (show Int32.toInt 1 = 1 by decide)) (by decide) (by decide), show Int32.toInt 1 = 1 from by decide]
              have bz331603 : gB z331603 (-1) 999999 := gB_sub (gI_sub hz331603 bp331589 (gBl (show Int32.toInt 1 = 1 by decide)) (by decide) (by decide)) bp331589 (gBl (show Int32.toInt 1 = 1 by decide)) (by decide) (by decide)
              refine G_istore (L' := [(5, .int z331603), (4, .ref q331491), (3, .int g330812), (0, .ref q276665), (1, .ref q276666), (2, .int p276667)]) dr_cX17_graph_107 (Nat.le_of_ble_eq_true rfl) rfl ?_
              have hlp109_333291 : ∀ (n109_333291 : Nat) (F333286 : Nat → va_E) (g333285 : Int32), gB g333285 (-1) 999999 → RS D I P276663 F333286 γ el → rStr γ [] F276664 F333286 → ((g333285.toInt : Int) < γ 2 (γ 14 q331491)) → (gIp (p276667.toInt = 0) (rGr γ el F276664 q276666 (γ 6 (γ 1 q276666)) (cB (F333286 (γ 9 3))) (vB (g330812.toInt : Int).toNat (g333285.toInt + 1 : Int).toNat))) → (F333286 q276665 = F276664 q276665) → (∀ (k : Nat) (e1 : Nat → va_E), tl_RModel_graph_109 D I γ el P276663 F276664 q331491 p276667 q276666 g330812 q276665 F333286 g333285 k e1 → tl_RModel_graph_109 D I γ el P276663 F276664 q331491 p276667 q276666 g330812 q276665 F331573 z331603 k e1) → ((g333285.toInt : Int) - (-2)).toNat < n109_333291 → G (gV D I) l (gRm 5 111 0 0) (gMA (gV D I) (pt_276669_SpillForgeModel_graph D I γ el P276663 F276664 q276665 q276666 p276667) gNA 0 0) ky_276669_SpillForgeModel_graph 109 [(5, .int g333285), (4, .ref q331491), (3, .int g330812), (0, .ref q276665), (1, .ref q276666), (2, .int p276667)] [] (va_pl P276663 F333286) 0 0 := by
                intro n109_333291
                induction n109_333291 with
                | zero => intro F333286 g333285 bg333285 hT333287 hs333288 x333289 x333290 x333291 kt109_333292 hm109_333291; exact absurd hm109_333291 (Nat.not_lt_zero _)
                | succ n109_333291 ih109_333291 =>
                  intro F333286 g333285 bg333285 hT333287 hs333288 x333289 x333290 x333291 kt109_333292 hm109_333291
                  have hs333293 : rStr γ [] F331573 F333286 := fun b h0 hb hw => (hs333288 b h0 hb hw).trans (hs331580 b h0 hb hw).symm
                  have he333294 : F333286 q276666 = .inr (18, [.ref q330825, .ref q330826, .int p330827, .int p330828]) := (hs333293 q276666 (rT0 htq276666 (by decide)) (rT1 htq276666 (by decide)) (rT2 htq276666 (by decide))).trans he331576
                  have he333295 : F333286 q330825 = .inr (4, [.int p331472, .ref q331474, .int p331473]) := (hs333293 q330825 (rT0 ht330829 (by decide)) (rT1 ht330829 (by decide)) (rT2 ht330829 (by decide))).trans he331577
                  have he333296 : F333286 q331474 = .inl (I (.object "java/lang/Object"), n331488, .inr (.inr (.inr (.inr f331489)))) := (hs333293 q331474 (rT0 r331480 (by decide)) (rT1 r331480 (by decide)) (rT2 r331480 (by decide))).trans he331578
                  have he333297 : F333286 q331491 = .inr (17, [.ref q331501, .ref q331502, .int p331503, .int p331504]) := (hs333293 q331491 (rT0 ht331497 (by decide)) (rT1 ht331497 (by decide)) (rT2 ht331497 (by decide))).trans he331579
                  have he333298 : F333286 q331501 = .inr (4, [.int p331588, .ref q331590, .int p331589]) := (hs333293 q331501 (rT0 ht331505 (by decide)) (rT1 ht331505 (by decide)) (rT2 ht331505 (by decide))).trans he331587
                  have hs333299 : rStr γ [] F276664 F333286 := rStr_tr hs331580 hs333293
                  have he333300 : F333286 q276665 = .inr (22, [.ref (γ 9 0), .ref (γ 9 1), .ref (γ 9 2), .ref (γ 9 3), .ref (γ 9 4), .ref (γ 9 5), .ref (γ 9 6), .ref (γ 9 7), .ref (γ 9 8), .int p276674, .int p276675, .int p276676, .int p276677, .int p276678, .int p276679, .ref (γ 9 15), .ref (γ 9 16), .ref (γ 9 17), .ref (γ 9 18), .ref (γ 9 19), .ref (γ 9 20), .ref (γ 9 21), .ref (γ 9 22), .int p276680, .int p276681, .int p276682, .int p276683, .int p276684, .ref q276672, .ref (γ 9 29), .int p276685, .ref (γ 9 31), .int p276686, .int p276687, .int p276688, .ref q276673]) := x333291.trans he276671
                  have hm333301 : q276665 ∈ P276663 := RS_m hT333287 htq276665 (by decide)
                  refine G_iload 0 dr_cX17_graph_109 rfl ?_
                  refine G_if_lt 290 dr_cX17_graph_111 (by decide +kernel) (fun hc333302 => ?_) (fun hc333302 => ?_)
                  · have r333303 : g333285.toInt < 0 := gj_lt hc333302 (show Int32.toInt 0 = 0 by decide)
                    have bg333285' : gB g333285 (-1) (-1) := ⟨by omega, by omega⟩
                    have hx333304 : tl_RModel_graph_109 D I γ el P276663 F276664 q331491 p276667 q276666 g330812 q276665 F331573 z331603 290 F333286 := kt109_333292 290 F333286 (fun R c1 c2 c3 c4 c5 c6 c7 c8 c9 c10 c11 => c1 F333286 g333285 bg333285 hT333287 hs333288 x333289 x333290 x333291 r333303)
                    obtain ⟨z333305, hz333305⟩ : ∃ z : Int32, z = g330812 + Int32.ofInt 1 := ⟨_, rfl⟩
                    have ez333305 : z333305.toInt = g330812.toInt + 1 := gI_inc hz333305 (by decide) bg330812' (by decide) (by decide)
                    have bz333305 : gB z333305 1 1000000 := ⟨by omega, by omega⟩
                    refine G_iinc (L' := [(3, .int z333305), (5, .int g333285), (4, .ref q331491), (0, .ref q276665), (1, .ref q276666), (2, .int p276667)]) z333305 2 dr_cX17_graph_290 rfl hz333305.symm (Nat.le_of_ble_eq_true rfl) rfl ?_
                    refine G_goto 56 dr_cX17_graph_293 (by decide +kernel) ?_
                    refine G_lv (L' := [(3, .int z333305), (0, .ref q276665), (1, .ref q276666), (2, .int p276667)]) [0, 3, 4, 5] rfl ?_
                    exact ih56_330817 F333286 z333305 (gB_w bz333305 (by decide) (by decide)) hT333287 hs333288 (fun h0 => by have z := x333290 h0; exact gq_nx z (by omega) (by rw [ez333305]; omega)) x333291 (fun k e1 ht => kt56_330818 k e1 (fun R c1 c2 => c2 F330813 g330812 p330828 q330825 q331491 p331473 F331530 q331502 F331550 F331573 q331501 p331589 z331603 F333286 z333305 k e1 bg330812 hT330814 hs330815 x330816 x330817 fq330845 r331469 fq331496 hx331492 fq331514 ht331520 hT331531 hs331532 x331527 x331528 ht331529 fq331541 hT331551 hs331552 x331547 x331548 ht331549 fq331564 hT331574 hs331575 x331570 x331571 ht331572 fq331584 fq331596 fq331597 ez331603 hx333304 ez333305 (ht R c1 c2))) (mz_up ez333305 (Int.le_trans bg330812'.2 (by decide)) hm56_330817)
                  · have r333306 : 0 ≤ g333285.toInt := gj_nlt hc333302 (show Int32.toInt 0 = 0 by decide)
                    have bg333285' : gB g333285 0 999999 := ⟨by omega, by omega⟩
                    refine G_aload 1 dr_cX17_graph_114 rfl ?_
                    have fq333307 : fR (F333286 q331491) 0 = q331501 := by rw [he333297]; rfl
                    refine Gp_get 0 hm331499 he333297 dr_cX17_graph_116 (gk_X12 D I) (Nat.le_of_ble_eq_true rfl) wr_9_220 rfl ?_
                    refine G_iload 0 dr_cX17_graph_119 rfl ?_
                    have fl333308 : γ 2 (γ 14 q331491) = γ 2 q331501 := by rw [ht331511.1]
                    have hm333309 : q331501 ∈ P276663 := RS_m hT333287 ht331505 (by decide)
                    obtain ⟨⟨p333311, p333312, q333313, he333310, r333314, r333315, r333316, r333318⟩, r333317⟩ := show rk_3 D I γ el F333286 q331501 from RS_o hT333287 ht331505
                    have bp333311 := gB_any p333311
                    have bp333312 : gB p333312 0 1000000 := ⟨by omega, by omega⟩
                    obtain ⟨r333319, r333320, n333327, f333328, r333321, r333322, r333323, r333324, r333325, r333326⟩ := rLC_n r333316 (by omega)
                    have hm333329 : q333313 ∈ P276663 := RS_m hT333287 r333319 (by decide)
                    obtain ⟨q333330, hx333331⟩ : ∃ x, x = el q331501 g333285.toInt.toNat := ⟨_, rfl⟩
                    have hx333332 : f333328 g333285.toNatClampNeg = some q333330 := (r333325 _ (show g333285.toInt.toNat < γ 2 q331501 by omega)).trans (by rw [hx333331])
                    have ht333333 : rKd γ q333330 1 := by rw [hx333331]; exact (r333317 _ (show g333285.toInt.toNat < γ 2 q331501 by omega)).1
                    have ht333334 : rFm γ q333330 q331501 := by rw [hx333331]; exact (r333317 _ (show g333285.toInt.toNat < γ 2 q331501 by omega)).2.1
                    have fq333335 : fI (F333286 q331501) 2 = p333312 := by rw [he333310]; rfl
                    refine Gw_callV (As := [.int g333285]) (gV_ok D I) (cp_22_ArrayList_get l hl0 D I P276663 F333286 q331501 q333313 g333285 p333311 p333312 f333328 n333327 q333330 hm333309 hm333329 he333310 r333321 (gB_w bg333285' (by decide) (by decide)) (gB_w bp333312 (by decide) (by decide)) (by omega) (by omega) (by assumption) (by omega)) dr_cX17_graph_121 ⟨wr_10_201, wr_1_18, wr_10_65, by decide, rfl, (Nat.le_of_ble_eq_true rfl), (Nat.le_of_ble_eq_true rfl)⟩ wr_10_63 wr_10_64 hm333309 he333310 rfl (show 0 + 0 ≤ 0 by first | omega | decide) (show 0 + 0 ≤ 0 by first | omega | decide) (Nat.le_of_ble_eq_true rfl) (fun r333339 w333340 dc333336 ds333337 hp333338 => ?_) (fun _ _ _ _ _ z => z.elim)
                    obtain ⟨rfl, rfl, hdc, hds, ht333341⟩ := hp333338
                    change G _ _ _ _ _ _ _ (.ref q333330 :: _) _ _ _
                    refine G_widen (cs' := 0) (sl' := 0) (by omega) (by omega) ?_
                    have hr333342 : el q331501 (g333285.toInt : Int).toNat = q333330 := by rw [hx333331]
                    have hm333343 : q333330 ∈ P276663 := RS_m hT333287 ht333333 (by decide)
                    obtain ⟨p333345, p333346, p333347, p333348, p333349, p333350, p333351, he333344, bp333345, bp333346, bp333349, bp333350, bp333351, r333352, r333353, r333354, r333355, r333356⟩ := show rk_1 γ q333330 (F333286 q333330) from RS_o hT333287 ht333333
                    have bp333347 := gB_any p333347
                    have bp333348 := gB_any p333348
                    refine Gp_cast hm333343 he333344 rfl dr_cX17_graph_124 wr_10_202 (gr_cast 1 rfl) ?_
                    refine G_astore (L' := [(6, .ref q333330), (5, .int g333285), (4, .ref q331491), (3, .int g330812), (0, .ref q276665), (1, .ref q276666), (2, .int p276667)]) dr_cX17_graph_127 (Nat.le_of_ble_eq_true rfl) rfl ?_
                    refine G_aload_n 4 dr_cX17_graph_129 rfl ?_
                    refine G_aload 0 dr_cX17_graph_130 rfl ?_
                    refine G_iload_n 6 dr_cX17_graph_132 rfl ?_
                    refine Gw_callV (As := [.ref q333330, .int p276667]) (gV_ok D I) (ct_283197_SpillForgeModel_stand l hl0 D I γ el P276663 F333286 q276665 q333330 p276667 hT333287 htq276665 ht333333 bp276667) dr_cX17_graph_133 ⟨wr_10_237, wr_1_14, wr_11_0, by decide, rfl, (Nat.le_of_ble_eq_true rfl), (Nat.le_of_ble_eq_true rfl)⟩ wr_10_239 wr_p_100 hm333301 he333300 rfl (show 0 + 0 ≤ 0 by first | omega | decide) (show 0 + 0 ≤ 0 by first | omega | decide) (Nat.le_of_ble_eq_true rfl) (fun r333360 w333361 dc333357 ds333358 hp333359 => ?_) (fun _ _ _ _ _ z => z.elim)
                    obtain ⟨F333365, rfl, rfl, hT333366, hs333367, hdc, hds, x333362, x333363, ht333364⟩ := hp333359
                    have he333368 : F333365 q276666 = .inr (18, [.ref q330825, .ref q330826, .int p330827, .int p330828]) := (hs333367 q276666 (rT0 htq276666 (by decide)) (rT1 htq276666 (by decide)) (rT2 htq276666 (by decide))).trans he333294
                    have he333369 : F333365 q330825 = .inr (4, [.int p331472, .ref q331474, .int p331473]) := (hs333367 q330825 (rT0 ht330829 (by decide)) (rT1 ht330829 (by decide)) (rT2 ht330829 (by decide))).trans he333295
                    have he333370 : F333365 q331474 = .inl (I (.object "java/lang/Object"), n331488, .inr (.inr (.inr (.inr f331489)))) := (hs333367 q331474 (rT0 r331480 (by decide)) (rT1 r331480 (by decide)) (rT2 r331480 (by decide))).trans he333296
                    have he333371 : F333365 q331491 = .inr (17, [.ref q331501, .ref q331502, .int p331503, .int p331504]) := (hs333367 q331491 (rT0 ht331497 (by decide)) (rT1 ht331497 (by decide)) (rT2 ht331497 (by decide))).trans he333297
                    have he333372 : F333365 q331501 = .inr (4, [.int p333311, .ref q333313, .int p333312]) := (hs333367 q331501 (rT0 ht331505 (by decide)) (rT1 ht331505 (by decide)) (rT2 ht331505 (by decide))).trans he333310
                    have he333373 : F333365 q333313 = .inl (I (.object "java/lang/Object"), n333327, .inr (.inr (.inr (.inr f333328)))) := (hs333367 q333313 (rT0 r333319 (by decide)) (rT1 r333319 (by decide)) (rT2 r333319 (by decide))).trans r333321
                    have he333374 : F333365 q333330 = .inr (20, [.int p333345, .int p333346, .int p333347, .int p333348, .int p333349, .int p333350, .int p333351]) := (hs333367 q333330 (rT0 ht333333 (by decide)) (rT1 ht333333 (by decide)) (rT2 ht333333 (by decide))).trans he333344
                    have hs333375 : rStr γ [] F276664 F333365 := rStr_tr hs333288 hs333367
                    have kp333376 : F333365 q276665 = F276664 q276665 := (x333363).trans x333291
                    have he333377 : F333365 q276665 = .inr (22, [.ref (γ 9 0), .ref (γ 9 1), .ref (γ 9 2), .ref (γ 9 3), .ref (γ 9 4), .ref (γ 9 5), .ref (γ 9 6), .ref (γ 9 7), .ref (γ 9 8), .int p276674, .int p276675, .int p276676, .int p276677, .int p276678, .int p276679, .ref (γ 9 15), .ref (γ 9 16), .ref (γ 9 17), .ref (γ 9 18), .ref (γ 9 19), .ref (γ 9 20), .ref (γ 9 21), .ref (γ 9 22), .int p276680, .int p276681, .int p276682, .int p276683, .int p276684, .ref q276672, .ref (γ 9 29), .int p276685, .ref (γ 9 31), .int p276686, .int p276687, .int p276688, .ref q276673]) := (x333363).trans he333300
                    change G _ _ _ _ _ _ _ _ _ _ _
                    refine G_widen (cs' := 0) (sl' := 0) (by omega) (by omega) ?_
                    have hb333378 : el (γ 14 q276666) (g330812.toInt : Int).toNat = q331491 := hb331521
                    have hL333379 : rwL γ el q276666 (g330812.toInt : Int).toNat = q331501 := by unfold rwL; rw [hb333378]; exact ht331511.1
                    have hs333380 : F333286 q333330 = F276664 q333330 := hs333288 q333330 (rT0 ht333333 (by decide)) (rT1 ht333333 (by decide)) (rT2 ht333333 (by decide))
                    have gr333381 : gIp (p276667.toInt = 0) (rGr γ el F276664 q276666 (γ 6 (γ 1 q276666)) (cB (F333365 (γ 9 3))) (vB (g330812.toInt : Int).toNat (g333285.toInt : Int).toNat)) := fun h0 => gq_row (x333290 h0) (fun m => by have z := x333362 h0 m; rw [hs333380] at z; exact z) ((rAt_r hb333378 ht331511.1 (by omega)).trans hr333342) (show (g330812.toInt : Int).toNat < γ 6 (γ 1 q276666) by omega) (by rw [hL333379]; omega) (by omega)
                    refine G_aload 0 dr_cX17_graph_136 rfl ?_
                    refine G_iload_n 6 dr_cX17_graph_138 rfl ?_
                    have fq333382 : fI (F333365 q333330) 0 = p333345 := by rw [he333374]; rfl
                    have fq333383 : fI (F333365 q333330) 1 = p333346 := by rw [he333374]; rfl
                    have fq333384 : fI (F333365 q333330) 4 = p333349 := by rw [he333374]; rfl
                    refine Gw_callS (As := [.ref q333330, .int p276667]) (gV_ok D I) (cp_1784_SpillForgeModel_setOf l hl0 D I P276663 F333365 q333330 p276667 p333345 p333346 p333347 p333348 p333349 p333350 p333351 hm333343 he333374 bp276667 bp333345 bp333346 bp333349 bp333350 bp333351) dr_cX17_graph_139 ⟨wr_10_178, wr_1_14, wr_10_180, by decide, rfl, (Nat.le_of_ble_eq_true rfl), (Nat.le_of_ble_eq_true rfl)⟩ wr_10_179 (show 0 + 0 ≤ 0 by first | omega | decide) (show 0 + 0 ≤ 0 by first | omega | decide) (Nat.le_of_ble_eq_true rfl) (fun r333388 w333389 dc333385 ds333386 hp333387 => ?_) (fun _ _ _ _ _ z => z.elim)
                    obtain ⟨o333390, rfl, rfl, hdc, hds, bo333390, ht333391⟩ := hp333387
                    change G _ _ _ _ _ _ _ (.int o333390 :: _) _ _ _
                    refine G_widen (cs' := 0) (sl' := 0) (by omega) (by omega) ?_
                    refine G_istore (L' := [(7, .int o333390), (6, .ref q333330), (5, .int g333285), (4, .ref q331491), (3, .int g330812), (0, .ref q276665), (1, .ref q276666), (2, .int p276667)]) dr_cX17_graph_142 (Nat.le_of_ble_eq_true rfl) rfl ?_
                    refine G_iload_n 7 dr_cX17_graph_144 rfl ?_
                    refine G_if_ne 172 dr_cX17_graph_145 (by decide +kernel) (fun hc333392 => ?_) (fun hc333392 => ?_)
                    · have r333393 : p276667.toInt ≠ 0 := gj_neq hc333392 (show Int32.toInt 0 = 0 by decide)
                      have bp276667' : gB p276667 1 1 := gB_t1 bp276667 r333393
                      refine G_iconst (-1) dr_cX17_graph_172 (by decide +kernel) ?_
                      refine G_istore (L' := [(8, .int (-1)), (7, .int o333390), (6, .ref q333330), (5, .int g333285), (4, .ref q331491), (3, .int g330812), (0, .ref q276665), (1, .ref q276666), (2, .int p276667)]) dr_cX17_graph_173 (Nat.le_of_ble_eq_true rfl) rfl ?_
                      refine G_iload 1 dr_cX17_graph_175 rfl ?_
                      refine G_if_lt 277 dr_cX17_graph_177 (by decide +kernel) (fun hc333394 => ?_) (fun hc333394 => ?_)
                      · have r333395 : o333390.toInt < 0 := gj_lt hc333394 (show Int32.toInt 0 = 0 by decide)
                        have bo333390' : gB o333390 (-1) (-1) := ⟨by omega, by omega⟩
                        refine G_aload_n 6 dr_cX17_graph_277 rfl ?_
                        refine G_aload 2 dr_cX17_graph_278 rfl ?_
                        refine G_iload_n 8 dr_cX17_graph_280 rfl ?_
                        refine Gw_callV (As := [.ref q333330, .int p276667]) (gV_ok D I) (ct_283500_SpillForgeModel_back l hl0 D I γ el P276663 F333365 q276665 q333330 p276667 hT333366 htq276665 ht333333 (gB_w bp276667' (by decide) (by decide))) dr_cX17_graph_281 ⟨wr_10_174, wr_1_14, wr_10_177, by decide, rfl, (Nat.le_of_ble_eq_true rfl), (Nat.le_of_ble_eq_true rfl)⟩ wr_10_176 wr_p_96 hm333301 he333377 rfl (show 0 + 0 ≤ 0 by first | omega | decide) (show 0 + 0 ≤ 0 by first | omega | decide) (Nat.le_of_ble_eq_true rfl) (fun r333399 w333400 dc333396 ds333397 hp333398 => ?_) (fun _ _ _ _ _ z => z.elim)
                        obtain ⟨F333404, rfl, rfl, hT333405, hs333406, hdc, hds, x333401, x333402, ht333403⟩ := hp333398
                        have he333407 : F333404 q276666 = .inr (18, [.ref q330825, .ref q330826, .int p330827, .int p330828]) := (hs333406 q276666 (rT0 htq276666 (by decide)) (rT1 htq276666 (by decide)) (rT2 htq276666 (by decide))).trans he333368
                        have he333408 : F333404 q330825 = .inr (4, [.int p331472, .ref q331474, .int p331473]) := (hs333406 q330825 (rT0 ht330829 (by decide)) (rT1 ht330829 (by decide)) (rT2 ht330829 (by decide))).trans he333369
                        have he333409 : F333404 q331474 = .inl (I (.object "java/lang/Object"), n331488, .inr (.inr (.inr (.inr f331489)))) := (hs333406 q331474 (rT0 r331480 (by decide)) (rT1 r331480 (by decide)) (rT2 r331480 (by decide))).trans he333370
                        have he333410 : F333404 q331491 = .inr (17, [.ref q331501, .ref q331502, .int p331503, .int p331504]) := (hs333406 q331491 (rT0 ht331497 (by decide)) (rT1 ht331497 (by decide)) (rT2 ht331497 (by decide))).trans he333371
                        have he333411 : F333404 q331501 = .inr (4, [.int p333311, .ref q333313, .int p333312]) := (hs333406 q331501 (rT0 ht331505 (by decide)) (rT1 ht331505 (by decide)) (rT2 ht331505 (by decide))).trans he333372
                        have he333412 : F333404 q333313 = .inl (I (.object "java/lang/Object"), n333327, .inr (.inr (.inr (.inr f333328)))) := (hs333406 q333313 (rT0 r333319 (by decide)) (rT1 r333319 (by decide)) (rT2 r333319 (by decide))).trans he333373
                        have he333413 : F333404 q333330 = .inr (20, [.int p333345, .int p333346, .int p333347, .int p333348, .int p333349, .int p333350, .int p333351]) := (hs333406 q333330 (rT0 ht333333 (by decide)) (rT1 ht333333 (by decide)) (rT2 ht333333 (by decide))).trans he333374
                        have hs333414 : rStr γ [] F276664 F333404 := rStr_tr hs333375 hs333406
                        have kp333415 : F333404 q276665 = F276664 q276665 := (x333401).trans kp333376
                        have kp333416 : F333404 (γ 9 3) = F333365 (γ 9 3) := x333402
                        have he333417 : F333404 q276665 = .inr (22, [.ref (γ 9 0), .ref (γ 9 1), .ref (γ 9 2), .ref (γ 9 3), .ref (γ 9 4), .ref (γ 9 5), .ref (γ 9 6), .ref (γ 9 7), .ref (γ 9 8), .int p276674, .int p276675, .int p276676, .int p276677, .int p276678, .int p276679, .ref (γ 9 15), .ref (γ 9 16), .ref (γ 9 17), .ref (γ 9 18), .ref (γ 9 19), .ref (γ 9 20), .ref (γ 9 21), .ref (γ 9 22), .int p276680, .int p276681, .int p276682, .int p276683, .int p276684, .ref q276672, .ref (γ 9 29), .int p276685, .ref (γ 9 31), .int p276686, .int p276687, .int p276688, .ref q276673]) := (x333401).trans he333377
                        change G _ _ _ _ _ _ _ _ _ _ _
                        refine G_widen (cs' := 0) (sl' := 0) (by omega) (by omega) ?_
                        obtain ⟨z333418, hz333418⟩ : ∃ z : Int32, z = g333285 + Int32.ofInt (-1) := ⟨_, rfl⟩
                        have ez333418 : z333418.toInt = g333285.toInt + (-1) := gI_inc hz333418 (by decide) bg333285' (by decide) (by decide)
                        have bz333418 : gB z333418 (-1) 999998 := ⟨by omega, by omega⟩
                        refine G_iinc (L' := [(5, .int z333418), (8, .int (-1)), (7, .int o333390), (6, .ref q333330), (4, .ref q331491), (3, .int g330812), (0, .ref q276665), (1, .ref q276666), (2, .int p276667)]) z333418 3 dr_cX17_graph_284 rfl hz333418.symm (Nat.le_of_ble_eq_true rfl) rfl ?_
                        refine G_goto 109 dr_cX17_graph_287 (by decide +kernel) ?_
                        refine G_lv (L' := [(5, .int z333418), (4, .ref q331491), (3, .int g330812), (0, .ref q276665), (1, .ref q276666), (2, .int p276667)]) [0, 4, 5, 6, 7, 8] rfl ?_
                        exact ih109_333291 F333404 z333418 (gB_w bz333418 (by decide) (by decide)) hT333405 hs333414 (by omega) (fun h0 => by have z := gr333381 h0; rw [← kp333416] at z; rw [show ((g333285.toInt : Int).toNat : Nat) = (z333418.toInt + 1 : Int).toNat by omega] at z; exact z) kp333415 (fun k e1 ht => kt109_333292 k e1 (fun R c1 c2 c3 c4 c5 c6 c7 c8 c9 c10 c11 => c2 F333286 g333285 q331501 q333330 p333312 F333365 p333345 p333346 p333349 o333390 F333404 z333418 k e1 bg333285 hT333287 hs333288 x333289 x333290 x333291 r333306 fq333307 hx333331 fq333335 ht333341 hT333366 hs333367 x333362 x333363 ht333364 fq333382 fq333383 fq333384 bo333390 ht333391 r333393 r333395 hT333405 hs333406 x333401 x333402 ht333403 ez333418 (ht R c1 c2 c3 c4 c5 c6 c7 c8 c9 c10 c11))) (mz_dn ez333418 (Int.le_trans (by decide) bg333285'.1) hm109_333291)
                      · have r333419 : 0 ≤ o333390.toInt := gj_nlt hc333394 (show Int32.toInt 0 = 0 by decide)
                        have bo333390' : gB o333390 0 1999 := ⟨by omega, by omega⟩
                        refine G_iload 0 dr_cX17_graph_180 rfl ?_
                        refine G_if_lt 204 dr_cX17_graph_182 (by decide +kernel) (fun _ => ?_) (fun hc => absurd hc (by decide))
                        refine G_iconst 0 dr_cX17_graph_204 (by decide +kernel) ?_
                        refine G_istore (L' := [(9, .int 0), (8, .int (-1)), (7, .int o333390), (6, .ref q333330), (5, .int g333285), (4, .ref q331491), (3, .int g330812), (0, .ref q276665), (1, .ref q276666), (2, .int p276667)]) dr_cX17_graph_205 (Nat.le_of_ble_eq_true rfl) rfl ?_
                        refine G_iconst 0 dr_cX17_graph_207 (by decide +kernel) ?_
                        refine G_istore (L' := [(10, .int 0), (9, .int 0), (8, .int (-1)), (7, .int o333390), (6, .ref q333330), (5, .int g333285), (4, .ref q331491), (3, .int g330812), (0, .ref q276665), (1, .ref q276666), (2, .int p276667)]) dr_cX17_graph_208 (Nat.le_of_ble_eq_true rfl) rfl ?_
                        have hlp210_333538 : ∀ (n210_333538 : Nat) (F333534 : Nat → va_E) (g333533 : Int32), gB g333533 0 32 → RS D I P276663 F333534 γ el → rStr γ [] F276664 F333534 → (gIp (p276667.toInt = 0) (rGr γ el F276664 q276666 (γ 6 (γ 1 q276666)) (cB (F333534 (γ 9 3))) (vB (g330812.toInt : Int).toNat (g333285.toInt : Int).toNat))) → (F333534 q276665 = F276664 q276665) → (∀ (k : Nat) (e1 : Nat → va_E), tl_RModel_graph_210 D I γ el P276663 F276664 p276667 q276666 g330812 g333285 q276665 o333390 F333534 g333533 k e1 → tl_RModel_graph_210 D I γ el P276663 F276664 p276667 q276666 g330812 g333285 q276665 o333390 F333365 (0 : Int32) k e1) → ((33 : Int) - g333533.toInt).toNat < n210_333538 → G (gV D I) l (gRm 5 111 0 0) (gMA (gV D I) (pt_276669_SpillForgeModel_graph D I γ el P276663 F276664 q276665 q276666 p276667) gNA 0 0) ky_276669_SpillForgeModel_graph 210 [(10, .int g333533), (9, .int 0), (8, .int (-1)), (7, .int o333390), (6, .ref q333330), (5, .int g333285), (4, .ref q331491), (3, .int g330812), (0, .ref q276665), (1, .ref q276666), (2, .int p276667)] [] (va_pl P276663 F333534) 0 0 := by
                          intro n210_333538
                          induction n210_333538 with
                          | zero => intro F333534 g333533 bg333533 hT333535 hs333536 x333537 x333538 kt210_333539 hm210_333538; exact absurd hm210_333538 (Nat.not_lt_zero _)
                          | succ n210_333538 ih210_333538 =>
                            intro F333534 g333533 bg333533 hT333535 hs333536 x333537 x333538 kt210_333539 hm210_333538
                            have hs333540 : rStr γ [] F333365 F333534 := fun b h0 hb hw => (hs333536 b h0 hb hw).trans (hs333375 b h0 hb hw).symm
                            have he333541 : F333534 q276666 = .inr (18, [.ref q330825, .ref q330826, .int p330827, .int p330828]) := (hs333540 q276666 (rT0 htq276666 (by decide)) (rT1 htq276666 (by decide)) (rT2 htq276666 (by decide))).trans he333368
                            have he333542 : F333534 q330825 = .inr (4, [.int p331472, .ref q331474, .int p331473]) := (hs333540 q330825 (rT0 ht330829 (by decide)) (rT1 ht330829 (by decide)) (rT2 ht330829 (by decide))).trans he333369
                            have he333543 : F333534 q331474 = .inl (I (.object "java/lang/Object"), n331488, .inr (.inr (.inr (.inr f331489)))) := (hs333540 q331474 (rT0 r331480 (by decide)) (rT1 r331480 (by decide)) (rT2 r331480 (by decide))).trans he333370
                            have he333544 : F333534 q331491 = .inr (17, [.ref q331501, .ref q331502, .int p331503, .int p331504]) := (hs333540 q331491 (rT0 ht331497 (by decide)) (rT1 ht331497 (by decide)) (rT2 ht331497 (by decide))).trans he333371
                            have he333545 : F333534 q331501 = .inr (4, [.int p333311, .ref q333313, .int p333312]) := (hs333540 q331501 (rT0 ht331505 (by decide)) (rT1 ht331505 (by decide)) (rT2 ht331505 (by decide))).trans he333372
                            have he333546 : F333534 q333313 = .inl (I (.object "java/lang/Object"), n333327, .inr (.inr (.inr (.inr f333328)))) := (hs333540 q333313 (rT0 r333319 (by decide)) (rT1 r333319 (by decide)) (rT2 r333319 (by decide))).trans he333373
                            have he333547 : F333534 q333330 = .inr (20, [.int p333345, .int p333346, .int p333347, .int p333348, .int p333349, .int p333350, .int p333351]) := (hs333540 q333330 (rT0 ht333333 (by decide)) (rT1 ht333333 (by decide)) (rT2 ht333333 (by decide))).trans he333374
                            have hs333548 : rStr γ [] F276664 F333534 := rStr_tr hs333375 hs333540
                            have he333549 : F333534 q276665 = .inr (22, [.ref (γ 9 0), .ref (γ 9 1), .ref (γ 9 2), .ref (γ 9 3), .ref (γ 9 4), .ref (γ 9 5), .ref (γ 9 6), .ref (γ 9 7), .ref (γ 9 8), .int p276674, .int p276675, .int p276676, .int p276677, .int p276678, .int p276679, .ref (γ 9 15), .ref (γ 9 16), .ref (γ 9 17), .ref (γ 9 18), .ref (γ 9 19), .ref (γ 9 20), .ref (γ 9 21), .ref (γ 9 22), .int p276680, .int p276681, .int p276682, .int p276683, .int p276684, .ref q276672, .ref (γ 9 29), .int p276685, .ref (γ 9 31), .int p276686, .int p276687, .int p276688, .ref q276673]) := x333538.trans he276671
                            have hm333550 : q276665 ∈ P276663 := RS_m hT333535 htq276665 (by decide)
                            refine G_iload 0 dr_cX17_graph_210 rfl ?_
                            refine G_bipush 32 dr_cX17_graph_212 (by decide +kernel) ?_
                            refine G_icmp_ge 243 dr_cX17_graph_214 (by decide +kernel) (fun hc333551 => ?_) (fun hc333551 => ?_)
                            · have r333552 : 32 ≤ g333533.toInt := gj_leL hc333551 (show Int32.toInt 32 = 32 by decide)
                              have bg333533' : gB g333533 32 32 := ⟨by omega, by omega⟩
                              have hx333553 : tl_RModel_graph_210 D I γ el P276663 F276664 p276667 q276666 g330812 g333285 q276665 o333390 F333365 (0 : Int32) 243 F333534 := kt210_333539 243 F333534 (fun R c1 c2 => c1 F333534 g333533 bg333533 hT333535 hs333536 x333537 x333538 r333552)
                              refine G_iload 2 dr_cX17_graph_243 rfl ?_
                              refine G_if_lt 265 dr_cX17_graph_245 (by decide +kernel) (fun _ => ?_) (fun hc => absurd hc (by decide))
                              refine G_aload_n 8 dr_cX17_graph_265 rfl ?_
                              have fq333554 : fR (F333534 q276665) 1 = (γ 9 1) := by rw [he333549]; rfl
                              refine Gp_get 1 hm333550 he333549 dr_cX17_graph_266 (gk_X17 D I) (Nat.le_of_ble_eq_true rfl) wr_7_75 rfl ?_
                              refine G_iload 3 dr_cX17_graph_269 rfl ?_
                              have hm333555 : (γ 9 1) ∈ P276663 := RS_m hT333535 ht276692 (by decide)
                              obtain ⟨f333557, he333556, hg333558⟩ := show rk_13 I γ (F333534 (γ 9 1)) from RS_o hT333535 ht276692
                              obtain ⟨q333559, hx333561⟩ : ∃ x, x = γ 11 o333390.toInt.toNat := ⟨_, rfl⟩
                              have ht333560 : rKd γ q333559 36 := by rw [hx333561]; exact (hg333558 _ (show o333390.toInt.toNat < 2000 by omega)).2.1
                              refine Gp_aald 5 hm333555 he333556 dr_cX17_graph_271 rfl rfl (gB_in bo333390' (by decide) (by decide)) ?_
                              rw [show f333557 o333390.toNatClampNeg = some q333559 from (hg333558 _ (show o333390.toInt.toNat < 2000 by omega)).1.trans (by rw [hx333561])]
                              change G _ _ _ _ _ _ _ (.ref q333559 :: _) _ _ _
                              refine G_iload 3 dr_cX17_graph_272 rfl ?_
                              have hm333562 : q333559 ∈ P276663 := RS_m hT333535 ht333560 (by decide)
                              obtain ⟨f333564, he333563, wf333564⟩ := show rk_36 I (F333534 q333559) from RS_o hT333535 ht333560
                              refine Gw_callS (As := [.ref q333559, .int o333390]) (gV_ok D I) (cp_1880_SpillForgeModel_clear l hl0 D I P276663 F333534 q333559 o333390 f333564 hm333562 he333563 bo333390' wf333564) dr_cX17_graph_274 ⟨wr_10_185, wr_1_14, wr_10_187, by decide, rfl, (Nat.le_of_ble_eq_true rfl), (Nat.le_of_ble_eq_true rfl)⟩ wr_10_186 (show 0 + 0 ≤ 0 by first | omega | decide) (show 0 + 0 ≤ 0 by first | omega | decide) (Nat.le_of_ble_eq_true rfl) (fun r333568 w333569 dc333565 ds333566 hp333567 => ?_) (fun _ _ _ _ _ z => z.elim)
                              obtain ⟨F333573, f333570, rfl, rfl, hfr333575, he333576, hdc, hds, x333571, ht333572⟩ := hp333567
                              have he333577 : F333573 q276666 = .inr (18, [.ref q330825, .ref q330826, .int p330827, .int p330828]) := (hfr333575 q276666 hm330823 (nm_c (rn_oa he333541 he333563) nm_n)).trans he333541
                              have he333578 : F333573 q330825 = .inr (4, [.int p331472, .ref q331474, .int p331473]) := (hfr333575 q330825 hm331470 (nm_c (rn_oa he333542 he333563) nm_n)).trans he333542
                              have he333579 : F333573 q331474 = .inl (I (.object "java/lang/Object"), n331488, .inr (.inr (.inr (.inr f331489)))) := (hfr333575 q331474 hm331490 (nm_c (rn_ref_long he333543 he333563) nm_n)).trans he333543
                              have he333580 : F333573 q331491 = .inr (17, [.ref q331501, .ref q331502, .int p331503, .int p331504]) := (hfr333575 q331491 hm331499 (nm_c (rn_oa he333544 he333563) nm_n)).trans he333544
                              have he333581 : F333573 q331501 = .inr (4, [.int p333311, .ref q333313, .int p333312]) := (hfr333575 q331501 hm333309 (nm_c (rn_oa he333545 he333563) nm_n)).trans he333545
                              have he333582 : F333573 q333313 = .inl (I (.object "java/lang/Object"), n333327, .inr (.inr (.inr (.inr f333328)))) := (hfr333575 q333313 hm333329 (nm_c (rn_ref_long he333546 he333563) nm_n)).trans he333546
                              have he333583 : F333573 q333330 = .inr (20, [.int p333345, .int p333346, .int p333347, .int p333348, .int p333349, .int p333350, .int p333351]) := (hfr333575 q333330 hm333343 (nm_c (rn_oa he333547 he333563) nm_n)).trans he333547
                              have he333584 : F333573 q276665 = .inr (22, [.ref (γ 9 0), .ref (γ 9 1), .ref (γ 9 2), .ref (γ 9 3), .ref (γ 9 4), .ref (γ 9 5), .ref (γ 9 6), .ref (γ 9 7), .ref (γ 9 8), .int p276674, .int p276675, .int p276676, .int p276677, .int p276678, .int p276679, .ref (γ 9 15), .ref (γ 9 16), .ref (γ 9 17), .ref (γ 9 18), .ref (γ 9 19), .ref (γ 9 20), .ref (γ 9 21), .ref (γ 9 22), .int p276680, .int p276681, .int p276682, .int p276683, .int p276684, .ref q276672, .ref (γ 9 29), .int p276685, .ref (γ 9 31), .int p276686, .int p276687, .int p276688, .ref q276673]) := (hfr333575 q276665 hm333550 (nm_c (rn_oa he333549 he333563) nm_n)).trans he333549
                              have he333585 : F333573 (γ 9 1) = .inl (I (.array .long), 2000, .inr (.inr (.inr (.inr f333557)))) := (hfr333575 (γ 9 1) hm333555 (nm_c (rn_ref_long he333556 he333563) nm_n)).trans he333556
                              have hfr333586 : rFr [q333559] P276663 F333534 F333573 := rFr_call (rSub_rf (P := P276663)) (rFr_rf (W := []) (P := P276663) (F := F333534)) hfr333575 (fun b hb hn => ⟨nm_n, (nm_c (fun e => hn (e ▸ List.mem_cons_self)) nm_n)⟩)
                              change G _ _ _ _ _ _ _ _ _ _ _
                              refine G_widen (cs' := 0) (sl' := 0) (by omega) (by omega) ?_
                              have hT333587 : RS D I P276663 F333573 γ el := RS_fr hT333535 hfr333586 ht333560 (by decide) ⟨f333570, he333576, x333571⟩
                              have hs333588 : rStr γ [] F276664 F333573 := rStr_fr hT333535 hs333536 hfr333586 ht333560 (by decide)
                              have kp333589 : F333573 q276665 = F276664 q276665 := (hfr333586 q276665 (RS_m hT333535 htq276665 (by decide)) (nm_c (rn_ty htq276665 ht333560 (by decide)) nm_n)).trans x333538
                              have kp333590 : F333573 (γ 9 3) = F333534 (γ 9 3) := hfr333586 (γ 9 3) (RS_m hT333535 ht276694 (by decide)) (nm_c (rn_ty ht276694 ht333560 (by decide)) nm_n)
                              refine G_aload_n 8 dr_cX17_graph_277 rfl ?_
                              refine G_aload 4 dr_cX17_graph_278 rfl ?_
                              refine G_iload_n 10 dr_cX17_graph_280 rfl ?_
                              refine Gw_callV (As := [.ref q333330, .int p276667]) (gV_ok D I) (ct_283500_SpillForgeModel_back l hl0 D I γ el P276663 F333573 q276665 q333330 p276667 hT333587 htq276665 ht333333 (gB_w bp276667' (by decide) (by decide))) dr_cX17_graph_281 ⟨wr_10_174, wr_1_14, wr_10_177, by decide, rfl, (Nat.le_of_ble_eq_true rfl), (Nat.le_of_ble_eq_true rfl)⟩ wr_10_176 wr_p_96 hm333550 he333584 rfl (show 0 + 0 ≤ 0 by first | omega | decide) (show 0 + 0 ≤ 0 by first | omega | decide) (Nat.le_of_ble_eq_true rfl) (fun r333594 w333595 dc333591 ds333592 hp333593 => ?_) (fun _ _ _ _ _ z => z.elim)
                              obtain ⟨F333599, rfl, rfl, hT333600, hs333601, hdc, hds, x333596, x333597, ht333598⟩ := hp333593
                              have he333602 : F333599 q276666 = .inr (18, [.ref q330825, .ref q330826, .int p330827, .int p330828]) := (hs333601 q276666 (rT0 htq276666 (by decide)) (rT1 htq276666 (by decide)) (rT2 htq276666 (by decide))).trans he333577
                              have he333603 : F333599 q330825 = .inr (4, [.int p331472, .ref q331474, .int p331473]) := (hs333601 q330825 (rT0 ht330829 (by decide)) (rT1 ht330829 (by decide)) (rT2 ht330829 (by decide))).trans he333578
                              have he333604 : F333599 q331474 = .inl (I (.object "java/lang/Object"), n331488, .inr (.inr (.inr (.inr f331489)))) := (hs333601 q331474 (rT0 r331480 (by decide)) (rT1 r331480 (by decide)) (rT2 r331480 (by decide))).trans he333579
                              have he333605 : F333599 q331491 = .inr (17, [.ref q331501, .ref q331502, .int p331503, .int p331504]) := (hs333601 q331491 (rT0 ht331497 (by decide)) (rT1 ht331497 (by decide)) (rT2 ht331497 (by decide))).trans he333580
                              have he333606 : F333599 q331501 = .inr (4, [.int p333311, .ref q333313, .int p333312]) := (hs333601 q331501 (rT0 ht331505 (by decide)) (rT1 ht331505 (by decide)) (rT2 ht331505 (by decide))).trans he333581
                              have he333607 : F333599 q333313 = .inl (I (.object "java/lang/Object"), n333327, .inr (.inr (.inr (.inr f333328)))) := (hs333601 q333313 (rT0 r333319 (by decide)) (rT1 r333319 (by decide)) (rT2 r333319 (by decide))).trans he333582
                              have he333608 : F333599 q333330 = .inr (20, [.int p333345, .int p333346, .int p333347, .int p333348, .int p333349, .int p333350, .int p333351]) := (hs333601 q333330 (rT0 ht333333 (by decide)) (rT1 ht333333 (by decide)) (rT2 ht333333 (by decide))).trans he333583
                              have hs333609 : rStr γ [] F276664 F333599 := rStr_tr hs333588 hs333601
                              have kp333610 : F333599 q276665 = F276664 q276665 := (x333596).trans kp333589
                              have kp333611 : F333599 (γ 9 3) = F333534 (γ 9 3) := (x333597).trans kp333590
                              have he333612 : F333599 q276665 = .inr (22, [.ref (γ 9 0), .ref (γ 9 1), .ref (γ 9 2), .ref (γ 9 3), .ref (γ 9 4), .ref (γ 9 5), .ref (γ 9 6), .ref (γ 9 7), .ref (γ 9 8), .int p276674, .int p276675, .int p276676, .int p276677, .int p276678, .int p276679, .ref (γ 9 15), .ref (γ 9 16), .ref (γ 9 17), .ref (γ 9 18), .ref (γ 9 19), .ref (γ 9 20), .ref (γ 9 21), .ref (γ 9 22), .int p276680, .int p276681, .int p276682, .int p276683, .int p276684, .ref q276672, .ref (γ 9 29), .int p276685, .ref (γ 9 31), .int p276686, .int p276687, .int p276688, .ref q276673]) := (x333596).trans he333584
                              change G _ _ _ _ _ _ _ _ _ _ _
                              refine G_widen (cs' := 0) (sl' := 0) (by omega) (by omega) ?_
                              obtain ⟨z333613, hz333613⟩ : ∃ z : Int32, z = g333285 + Int32.ofInt (-1) := ⟨_, rfl⟩
                              have ez333613 : z333613.toInt = g333285.toInt + (-1) := gI_inc hz333613 (by decide) bg333285' (by decide) (by decide)
                              have bz333613 : gB z333613 (-1) 999998 := ⟨by omega, by omega⟩
                              refine G_iinc (L' := [(5, .int z333613), (10, .int g333533), (9, .int 0), (8, .int (-1)), (7, .int o333390), (6, .ref q333330), (4, .ref q331491), (3, .int g330812), (0, .ref q276665), (1, .ref q276666), (2, .int p276667)]) z333613 5 dr_cX17_graph_284 rfl hz333613.symm (Nat.le_of_ble_eq_true rfl) rfl ?_
                              refine G_goto 109 dr_cX17_graph_287 (by decide +kernel) ?_
                              refine G_lv (L' := [(5, .int z333613), (4, .ref q331491), (3, .int g330812), (0, .ref q276665), (1, .ref q276666), (2, .int p276667)]) [0, 6, 7, 8, 9, 10] rfl ?_
                              exact ih109_333291 F333599 z333613 (gB_w bz333613 (by decide) (by decide)) hT333600 hs333609 (by omega) (fun h0 => by have z := x333537 h0; rw [← kp333611] at z; rw [show ((g333285.toInt : Int).toNat : Nat) = (z333613.toInt + 1 : Int).toNat by omega] at z; exact z) kp333610 (fun k e1 ht => kt109_333292 k e1 (fun R c1 c2 c3 c4 c5 c6 c7 c8 c9 c10 c11 => c3 F333286 g333285 q331501 q333330 p333312 F333365 p333345 p333346 p333349 o333390 F333534 q333559 f333564 f333570 F333573 F333599 z333613 k e1 bg333285 hT333287 hs333288 x333289 x333290 x333291 r333306 fq333307 hx333331 fq333335 ht333341 hT333366 hs333367 x333362 x333363 ht333364 fq333382 fq333383 fq333384 bo333390 ht333391 r333393 r333419 hx333553 fq333554 hx333561 he333563 ht333572 hfr333586 he333576 hT333587 hT333600 hs333601 x333596 x333597 ht333598 ez333613 (ht R c1 c2 c3 c4 c5 c6 c7 c8 c9 c10 c11))) (mz_dn ez333613 (Int.le_trans (by decide) bg333285'.1) hm109_333291)
                            · have r333614 : g333533.toInt < 32 := gj_nleL hc333551 (show Int32.toInt 32 = 32 by decide)
                              have bg333533' : gB g333533 0 31 := ⟨by omega, by omega⟩
                              refine G_aload_n 8 dr_cX17_graph_217 rfl ?_
                              have fq333615 : fR (F333534 q276665) 1 = (γ 9 1) := by rw [he333549]; rfl
                              refine Gp_get 1 hm333550 he333549 dr_cX17_graph_218 (gk_X17 D I) (Nat.le_of_ble_eq_true rfl) wr_7_75 rfl ?_
                              refine G_iload 3 dr_cX17_graph_221 rfl ?_
                              have hm333616 : (γ 9 1) ∈ P276663 := RS_m hT333535 ht276692 (by decide)
                              obtain ⟨f333618, he333617, hg333619⟩ := show rk_13 I γ (F333534 (γ 9 1)) from RS_o hT333535 ht276692
                              obtain ⟨q333620, hx333622⟩ : ∃ x, x = γ 11 o333390.toInt.toNat := ⟨_, rfl⟩
                              have ht333621 : rKd γ q333620 36 := by rw [hx333622]; exact (hg333619 _ (show o333390.toInt.toNat < 2000 by omega)).2.1
                              refine Gp_aald 5 hm333616 he333617 dr_cX17_graph_223 rfl rfl (gB_in bo333390' (by decide) (by decide)) ?_
                              rw [show f333618 o333390.toNatClampNeg = some q333620 from (hg333619 _ (show o333390.toInt.toNat < 2000 by omega)).1.trans (by rw [hx333622])]
                              change G _ _ _ _ _ _ _ (.ref q333620 :: _) _ _ _
                              refine G_iload 0 dr_cX17_graph_224 rfl ?_
                              refine G_dup2_11 dr_cX17_graph_226 rfl rfl ?_
                              have hm333623 : q333620 ∈ P276663 := RS_m hT333535 ht333621 (by decide)
                              obtain ⟨f333625, he333624, wf333625⟩ := show rk_36 I (F333534 q333620) from RS_o hT333535 ht333621
                              refine Gp_lald 2 hm333623 he333624 dr_cX17_graph_227 rfl (gB_in bg333533' (by decide) (by decide)) (G_namL fun u333626 hu333626 => ?_)
                              have qu333626 : lb_Q u333626 (2000 - 64 * g333533.toInt) := lb_Wld hu333626 wf333625 (by omega) (by omega) (lb_Mod0 (by omega) (by omega))
                              refine G_aload_n 8 dr_cX17_graph_228 rfl ?_
                              have fq333627 : fR (F333534 q276665) 2 = (γ 9 2) := by rw [he333549]; rfl
                              refine Gp_get 2 hm333550 he333549 dr_cX17_graph_229 (gk_X17 D I) (Nat.le_of_ble_eq_true rfl) wr_7_76 rfl ?_
                              refine G_iload 0 dr_cX17_graph_232 rfl ?_
                              have hm333628 : (γ 9 2) ∈ P276663 := RS_m hT333535 ht276693 (by decide)
                              obtain ⟨f333630, he333629, wf333630⟩ := show rk_35 I (F333534 (γ 9 2)) from RS_o hT333535 ht276693
                              refine Gp_lald 2 hm333628 he333629 dr_cX17_graph_234 rfl (gB_in bg333533' (by decide) (by decide)) (G_namL fun u333631 hu333631 => ?_)
                              have qu333631 : lb_Q u333631 (2000 - 64 * g333533.toInt) := lb_Wld hu333631 wf333630 (by omega) (by omega) (lb_Mod0 (by omega) (by omega))
                              refine G_lor dr_cX17_graph_235 (G_namL fun u333632 hu333632 => ?_)
                              have qu333632 : lb_Q u333632 (2000 - 64 * g333533.toInt) := lb_Qor hu333632 qu333626 qu333631
                              refine Gp_last 2 hm333623 he333624 dr_cX17_graph_236 rfl (gB_in bg333533' (by decide) (by decide)) (fun F333633 e333634 n333635 => ?_)
                              obtain ⟨f333636, hf333636⟩ : ∃ z, z = vp_updL f333625 g333533.toNatClampNeg u333632 := ⟨_, rfl⟩
                              rw [← hf333636] at e333634
                              have he333637 : F333633 q276666 = .inr (18, [.ref q330825, .ref q330826, .int p330827, .int p330828]) := (n333635 q276666 (rn_oa he333541 he333624)).trans he333541
                              have he333638 : F333633 q330825 = .inr (4, [.int p331472, .ref q331474, .int p331473]) := (n333635 q330825 (rn_oa he333542 he333624)).trans he333542
                              have he333639 : F333633 q331474 = .inl (I (.object "java/lang/Object"), n331488, .inr (.inr (.inr (.inr f331489)))) := (n333635 q331474 (rn_ref_long he333543 he333624)).trans he333543
                              have he333640 : F333633 q331491 = .inr (17, [.ref q331501, .ref q331502, .int p331503, .int p331504]) := (n333635 q331491 (rn_oa he333544 he333624)).trans he333544
                              have he333641 : F333633 q331501 = .inr (4, [.int p333311, .ref q333313, .int p333312]) := (n333635 q331501 (rn_oa he333545 he333624)).trans he333545
                              have he333642 : F333633 q333313 = .inl (I (.object "java/lang/Object"), n333327, .inr (.inr (.inr (.inr f333328)))) := (n333635 q333313 (rn_ref_long he333546 he333624)).trans he333546
                              have he333643 : F333633 q333330 = .inr (20, [.int p333345, .int p333346, .int p333347, .int p333348, .int p333349, .int p333350, .int p333351]) := (n333635 q333330 (rn_oa he333547 he333624)).trans he333547
                              have he333644 : F333633 q276665 = .inr (22, [.ref (γ 9 0), .ref (γ 9 1), .ref (γ 9 2), .ref (γ 9 3), .ref (γ 9 4), .ref (γ 9 5), .ref (γ 9 6), .ref (γ 9 7), .ref (γ 9 8), .int p276674, .int p276675, .int p276676, .int p276677, .int p276678, .int p276679, .ref (γ 9 15), .ref (γ 9 16), .ref (γ 9 17), .ref (γ 9 18), .ref (γ 9 19), .ref (γ 9 20), .ref (γ 9 21), .ref (γ 9 22), .int p276680, .int p276681, .int p276682, .int p276683, .int p276684, .ref q276672, .ref (γ 9 29), .int p276685, .ref (γ 9 31), .int p276686, .int p276687, .int p276688, .ref q276673]) := (n333635 q276665 (rn_oa he333549 he333624)).trans he333549
                              have he333645 : F333633 (γ 9 1) = .inl (I (.array .long), 2000, .inr (.inr (.inr (.inr f333618)))) := (n333635 (γ 9 1) (rn_ref_long he333617 he333624)).trans he333617
                              have he333646 : F333633 (γ 9 2) = .inl (I .long, 32, .inr (.inl f333630)) := (n333635 (γ 9 2) (rn_ty ht276693 ht333621 (by decide))).trans he333629
                              have he333647 : F333633 q333620 = .inl (I .long, 32, .inr (.inl f333636)) := e333634
                              have hs333648 : rStr γ [] F276664 F333633 := rStr_put hs333536 n333635 ht333621 (by decide)
                              have kp333649 : F333633 q276665 = F276664 q276665 := (n333635 q276665 (rn_ty htq276665 ht333621 (by decide))).trans x333538
                              have kp333650 : F333633 (γ 9 3) = F333534 (γ 9 3) := n333635 (γ 9 3) (rn_ty ht276694 ht333621 (by decide))
                              have wf333636 : lb_W f333636 (32) (32) (2000) := lb_Wst hf333636 wf333625 (by omega) (lb_Mod0 (by omega) (by omega)) qu333632
                              obtain ⟨z333651, hz333651⟩ : ∃ z : Int32, z = g333533 + Int32.ofInt 1 := ⟨_, rfl⟩
                              have ez333651 : z333651.toInt = g333533.toInt + 1 := gI_inc hz333651 (by decide) bg333533' (by decide) (by decide)
                              have bz333651 : gB z333651 1 32 := ⟨by omega, by omega⟩
                              refine G_iinc (L' := [(10, .int z333651), (9, .int 0), (8, .int (-1)), (7, .int o333390), (6, .ref q333330), (5, .int g333285), (4, .ref q331491), (3, .int g330812), (0, .ref q276665), (1, .ref q276666), (2, .int p276667)]) z333651 0 dr_cX17_graph_237 rfl hz333651.symm (Nat.le_of_ble_eq_true rfl) rfl ?_
                              refine G_goto 210 dr_cX17_graph_240 (by decide +kernel) ?_
                              have hT333652 : RS D I P276663 F333633 γ el := RS_set hT333535 n333635 ht333621 (by decide) ⟨f333636, he333647, wf333636⟩
                              exact ih210_333538 F333633 z333651 (gB_w bz333651 (by decide) (by decide)) hT333652 hs333648 (by rw [kp333650]; exact x333537) kp333649 (fun k e1 ht => kt210_333539 k e1 (fun R c1 c2 => c2 F333534 g333533 q333620 f333625 u333626 f333630 u333631 u333632 f333636 F333633 z333651 k e1 bg333533 hT333535 hs333536 x333537 x333538 r333614 fq333615 hx333622 he333624 hu333626 fq333627 he333629 hu333631 hu333632 hf333636 n333635 he333647 ez333651 (ht R c1 c2))) (mz_up ez333651 (Int.le_trans bg333533'.2 (by decide)) hm210_333538)
                        exact hlp210_333538 (((33 : Int) - 0).toNat + 1) F333365 0 (gB_w (gBl (show Int32.toInt 0 = 0 by decide)) (by decide) (by decide)) hT333366 hs333375 gr333381 kp333376 (fun k e1 ht => ht) (Nat.lt_succ_self _)
                    · have r333653 : p276667.toInt = 0 := gj_eq hc333392 (show Int32.toInt 0 = 0 by decide)
                      have bp276667' : gB p276667 0 0 := gB_t0 r333653
                      refine G_aload 1 dr_cX17_graph_148 rfl ?_
                      refine Gp_get 0 hm333343 he333374 dr_cX17_graph_150 (gk_X15 D I) (Nat.le_of_ble_eq_true rfl) wr_9_177 rfl ?_
                      refine G_if_ne 172 dr_cX17_graph_153 (by decide +kernel) (fun hc333654 => ?_) (fun hc333654 => ?_)
                      · have r333655 : p333345.toInt ≠ 0 := gj_neq hc333654 (show Int32.toInt 0 = 0 by decide)
                        have bp333345' : gB p333345 1 32 := ⟨by omega, by omega⟩
                        refine G_iconst (-1) dr_cX17_graph_172 (by decide +kernel) ?_
                        refine G_istore (L' := [(8, .int (-1)), (7, .int o333390), (6, .ref q333330), (5, .int g333285), (4, .ref q331491), (3, .int g330812), (0, .ref q276665), (1, .ref q276666), (2, .int p276667)]) dr_cX17_graph_173 (Nat.le_of_ble_eq_true rfl) rfl ?_
                        refine G_iload 1 dr_cX17_graph_175 rfl ?_
                        refine G_if_lt 277 dr_cX17_graph_177 (by decide +kernel) (fun hc333656 => ?_) (fun hc333656 => ?_)
                        · have r333657 : o333390.toInt < 0 := gj_lt hc333656 (show Int32.toInt 0 = 0 by decide)
                          have bo333390' : gB o333390 (-1) (-1) := ⟨by omega, by omega⟩
                          refine G_aload_n 6 dr_cX17_graph_277 rfl ?_
                          refine G_aload 2 dr_cX17_graph_278 rfl ?_
                          refine G_iload_n 8 dr_cX17_graph_280 rfl ?_
                          refine Gw_callV (As := [.ref q333330, .int p276667]) (gV_ok D I) (ct_283500_SpillForgeModel_back l hl0 D I γ el P276663 F333365 q276665 q333330 p276667 hT333366 htq276665 ht333333 (gB_w bp276667' (by decide) (by decide))) dr_cX17_graph_281 ⟨wr_10_174, wr_1_14, wr_10_177, by decide, rfl, (Nat.le_of_ble_eq_true rfl), (Nat.le_of_ble_eq_true rfl)⟩ wr_10_176 wr_p_96 hm333301 he333377 rfl (show 0 + 0 ≤ 0 by first | omega | decide) (show 0 + 0 ≤ 0 by first | omega | decide) (Nat.le_of_ble_eq_true rfl) (fun r333661 w333662 dc333658 ds333659 hp333660 => ?_) (fun _ _ _ _ _ z => z.elim)
                          obtain ⟨F333666, rfl, rfl, hT333667, hs333668, hdc, hds, x333663, x333664, ht333665⟩ := hp333660
                          have he333669 : F333666 q276666 = .inr (18, [.ref q330825, .ref q330826, .int p330827, .int p330828]) := (hs333668 q276666 (rT0 htq276666 (by decide)) (rT1 htq276666 (by decide)) (rT2 htq276666 (by decide))).trans he333368
                          have he333670 : F333666 q330825 = .inr (4, [.int p331472, .ref q331474, .int p331473]) := (hs333668 q330825 (rT0 ht330829 (by decide)) (rT1 ht330829 (by decide)) (rT2 ht330829 (by decide))).trans he333369
                          have he333671 : F333666 q331474 = .inl (I (.object "java/lang/Object"), n331488, .inr (.inr (.inr (.inr f331489)))) := (hs333668 q331474 (rT0 r331480 (by decide)) (rT1 r331480 (by decide)) (rT2 r331480 (by decide))).trans he333370
                          have he333672 : F333666 q331491 = .inr (17, [.ref q331501, .ref q331502, .int p331503, .int p331504]) := (hs333668 q331491 (rT0 ht331497 (by decide)) (rT1 ht331497 (by decide)) (rT2 ht331497 (by decide))).trans he333371
                          have he333673 : F333666 q331501 = .inr (4, [.int p333311, .ref q333313, .int p333312]) := (hs333668 q331501 (rT0 ht331505 (by decide)) (rT1 ht331505 (by decide)) (rT2 ht331505 (by decide))).trans he333372
                          have he333674 : F333666 q333313 = .inl (I (.object "java/lang/Object"), n333327, .inr (.inr (.inr (.inr f333328)))) := (hs333668 q333313 (rT0 r333319 (by decide)) (rT1 r333319 (by decide)) (rT2 r333319 (by decide))).trans he333373
                          have he333675 : F333666 q333330 = .inr (20, [.int p333345, .int p333346, .int p333347, .int p333348, .int p333349, .int p333350, .int p333351]) := (hs333668 q333330 (rT0 ht333333 (by decide)) (rT1 ht333333 (by decide)) (rT2 ht333333 (by decide))).trans he333374
                          have hs333676 : rStr γ [] F276664 F333666 := rStr_tr hs333375 hs333668
                          have kp333677 : F333666 q276665 = F276664 q276665 := (x333663).trans kp333376
                          have kp333678 : F333666 (γ 9 3) = F333365 (γ 9 3) := x333664
                          have he333679 : F333666 q276665 = .inr (22, [.ref (γ 9 0), .ref (γ 9 1), .ref (γ 9 2), .ref (γ 9 3), .ref (γ 9 4), .ref (γ 9 5), .ref (γ 9 6), .ref (γ 9 7), .ref (γ 9 8), .int p276674, .int p276675, .int p276676, .int p276677, .int p276678, .int p276679, .ref (γ 9 15), .ref (γ 9 16), .ref (γ 9 17), .ref (γ 9 18), .ref (γ 9 19), .ref (γ 9 20), .ref (γ 9 21), .ref (γ 9 22), .int p276680, .int p276681, .int p276682, .int p276683, .int p276684, .ref q276672, .ref (γ 9 29), .int p276685, .ref (γ 9 31), .int p276686, .int p276687, .int p276688, .ref q276673]) := (x333663).trans he333377
                          change G _ _ _ _ _ _ _ _ _ _ _
                          refine G_widen (cs' := 0) (sl' := 0) (by omega) (by omega) ?_
                          obtain ⟨z333680, hz333680⟩ : ∃ z : Int32, z = g333285 + Int32.ofInt (-1) := ⟨_, rfl⟩
                          have ez333680 : z333680.toInt = g333285.toInt + (-1) := gI_inc hz333680 (by decide) bg333285' (by decide) (by decide)
                          have bz333680 : gB z333680 (-1) 999998 := ⟨by omega, by omega⟩
                          refine G_iinc (L' := [(5, .int z333680), (8, .int (-1)), (7, .int o333390), (6, .ref q333330), (4, .ref q331491), (3, .int g330812), (0, .ref q276665), (1, .ref q276666), (2, .int p276667)]) z333680 3 dr_cX17_graph_284 rfl hz333680.symm (Nat.le_of_ble_eq_true rfl) rfl ?_
                          refine G_goto 109 dr_cX17_graph_287 (by decide +kernel) ?_
                          refine G_lv (L' := [(5, .int z333680), (4, .ref q331491), (3, .int g330812), (0, .ref q276665), (1, .ref q276666), (2, .int p276667)]) [0, 4, 5, 6, 7, 8] rfl ?_
                          exact ih109_333291 F333666 z333680 (gB_w bz333680 (by decide) (by decide)) hT333667 hs333676 (by omega) (fun h0 => by have z := gr333381 h0; rw [← kp333678] at z; rw [show ((g333285.toInt : Int).toNat : Nat) = (z333680.toInt + 1 : Int).toNat by omega] at z; exact z) kp333677 (fun k e1 ht => kt109_333292 k e1 (fun R c1 c2 c3 c4 c5 c6 c7 c8 c9 c10 c11 => c4 F333286 g333285 q331501 q333330 p333312 F333365 p333345 p333346 p333349 o333390 F333666 z333680 k e1 bg333285 hT333287 hs333288 x333289 x333290 x333291 r333306 fq333307 hx333331 fq333335 ht333341 hT333366 hs333367 x333362 x333363 ht333364 fq333382 fq333383 fq333384 bo333390 ht333391 r333653 r333655 r333657 hT333667 hs333668 x333663 x333664 ht333665 ez333680 (ht R c1 c2 c3 c4 c5 c6 c7 c8 c9 c10 c11))) (mz_dn ez333680 (Int.le_trans (by decide) bg333285'.1) hm109_333291)
                        · have r333681 : 0 ≤ o333390.toInt := gj_nlt hc333656 (show Int32.toInt 0 = 0 by decide)
                          have bo333390' : gB o333390 0 1999 := ⟨by omega, by omega⟩
                          refine G_iload 0 dr_cX17_graph_180 rfl ?_
                          refine G_if_lt 204 dr_cX17_graph_182 (by decide +kernel) (fun _ => ?_) (fun hc => absurd hc (by decide))
                          refine G_iconst 0 dr_cX17_graph_204 (by decide +kernel) ?_
                          refine G_istore (L' := [(9, .int 0), (8, .int (-1)), (7, .int o333390), (6, .ref q333330), (5, .int g333285), (4, .ref q331491), (3, .int g330812), (0, .ref q276665), (1, .ref q276666), (2, .int p276667)]) dr_cX17_graph_205 (Nat.le_of_ble_eq_true rfl) rfl ?_
                          refine G_iconst 0 dr_cX17_graph_207 (by decide +kernel) ?_
                          refine G_istore (L' := [(10, .int 0), (9, .int 0), (8, .int (-1)), (7, .int o333390), (6, .ref q333330), (5, .int g333285), (4, .ref q331491), (3, .int g330812), (0, .ref q276665), (1, .ref q276666), (2, .int p276667)]) dr_cX17_graph_208 (Nat.le_of_ble_eq_true rfl) rfl ?_
                          have hlp210_333800 : ∀ (n210_333800 : Nat) (F333796 : Nat → va_E) (g333795 : Int32), gB g333795 0 32 → RS D I P276663 F333796 γ el → rStr γ [] F276664 F333796 → (gIp (p276667.toInt = 0) (rGr γ el F276664 q276666 (γ 6 (γ 1 q276666)) (cB (F333796 (γ 9 3))) (vB (g330812.toInt : Int).toNat (g333285.toInt : Int).toNat))) → (F333796 q276665 = F276664 q276665) → (∀ (k : Nat) (e1 : Nat → va_E), tl_RModel_graph_210_2 D I γ el P276663 F276664 p276667 q276666 g330812 g333285 q276665 o333390 F333796 g333795 k e1 → tl_RModel_graph_210_2 D I γ el P276663 F276664 p276667 q276666 g330812 g333285 q276665 o333390 F333365 (0 : Int32) k e1) → ((33 : Int) - g333795.toInt).toNat < n210_333800 → G (gV D I) l (gRm 5 111 0 0) (gMA (gV D I) (pt_276669_SpillForgeModel_graph D I γ el P276663 F276664 q276665 q276666 p276667) gNA 0 0) ky_276669_SpillForgeModel_graph 210 [(10, .int g333795), (9, .int 0), (8, .int (-1)), (7, .int o333390), (6, .ref q333330), (5, .int g333285), (4, .ref q331491), (3, .int g330812), (0, .ref q276665), (1, .ref q276666), (2, .int p276667)] [] (va_pl P276663 F333796) 0 0 := by
                            intro n210_333800
                            induction n210_333800 with
                            | zero => intro F333796 g333795 bg333795 hT333797 hs333798 x333799 x333800 kt210_333801 hm210_333800; exact absurd hm210_333800 (Nat.not_lt_zero _)
                            | succ n210_333800 ih210_333800 =>
                              intro F333796 g333795 bg333795 hT333797 hs333798 x333799 x333800 kt210_333801 hm210_333800
                              have hs333802 : rStr γ [] F333365 F333796 := fun b h0 hb hw => (hs333798 b h0 hb hw).trans (hs333375 b h0 hb hw).symm
                              have he333803 : F333796 q276666 = .inr (18, [.ref q330825, .ref q330826, .int p330827, .int p330828]) := (hs333802 q276666 (rT0 htq276666 (by decide)) (rT1 htq276666 (by decide)) (rT2 htq276666 (by decide))).trans he333368
                              have he333804 : F333796 q330825 = .inr (4, [.int p331472, .ref q331474, .int p331473]) := (hs333802 q330825 (rT0 ht330829 (by decide)) (rT1 ht330829 (by decide)) (rT2 ht330829 (by decide))).trans he333369
                              have he333805 : F333796 q331474 = .inl (I (.object "java/lang/Object"), n331488, .inr (.inr (.inr (.inr f331489)))) := (hs333802 q331474 (rT0 r331480 (by decide)) (rT1 r331480 (by decide)) (rT2 r331480 (by decide))).trans he333370
                              have he333806 : F333796 q331491 = .inr (17, [.ref q331501, .ref q331502, .int p331503, .int p331504]) := (hs333802 q331491 (rT0 ht331497 (by decide)) (rT1 ht331497 (by decide)) (rT2 ht331497 (by decide))).trans he333371
                              have he333807 : F333796 q331501 = .inr (4, [.int p333311, .ref q333313, .int p333312]) := (hs333802 q331501 (rT0 ht331505 (by decide)) (rT1 ht331505 (by decide)) (rT2 ht331505 (by decide))).trans he333372
                              have he333808 : F333796 q333313 = .inl (I (.object "java/lang/Object"), n333327, .inr (.inr (.inr (.inr f333328)))) := (hs333802 q333313 (rT0 r333319 (by decide)) (rT1 r333319 (by decide)) (rT2 r333319 (by decide))).trans he333373
                              have he333809 : F333796 q333330 = .inr (20, [.int p333345, .int p333346, .int p333347, .int p333348, .int p333349, .int p333350, .int p333351]) := (hs333802 q333330 (rT0 ht333333 (by decide)) (rT1 ht333333 (by decide)) (rT2 ht333333 (by decide))).trans he333374
                              have hs333810 : rStr γ [] F276664 F333796 := rStr_tr hs333375 hs333802
                              have he333811 : F333796 q276665 = .inr (22, [.ref (γ 9 0), .ref (γ 9 1), .ref (γ 9 2), .ref (γ 9 3), .ref (γ 9 4), .ref (γ 9 5), .ref (γ 9 6), .ref (γ 9 7), .ref (γ 9 8), .int p276674, .int p276675, .int p276676, .int p276677, .int p276678, .int p276679, .ref (γ 9 15), .ref (γ 9 16), .ref (γ 9 17), .ref (γ 9 18), .ref (γ 9 19), .ref (γ 9 20), .ref (γ 9 21), .ref (γ 9 22), .int p276680, .int p276681, .int p276682, .int p276683, .int p276684, .ref q276672, .ref (γ 9 29), .int p276685, .ref (γ 9 31), .int p276686, .int p276687, .int p276688, .ref q276673]) := x333800.trans he276671
                              have hm333812 : q276665 ∈ P276663 := RS_m hT333797 htq276665 (by decide)
                              refine G_iload 0 dr_cX17_graph_210 rfl ?_
                              refine G_bipush 32 dr_cX17_graph_212 (by decide +kernel) ?_
                              refine G_icmp_ge 243 dr_cX17_graph_214 (by decide +kernel) (fun hc333813 => ?_) (fun hc333813 => ?_)
                              · have r333814 : 32 ≤ g333795.toInt := gj_leL hc333813 (show Int32.toInt 32 = 32 by decide)
                                have bg333795' : gB g333795 32 32 := ⟨by omega, by omega⟩
                                have hx333815 : tl_RModel_graph_210_2 D I γ el P276663 F276664 p276667 q276666 g330812 g333285 q276665 o333390 F333365 (0 : Int32) 243 F333796 := kt210_333801 243 F333796 (fun R c1 c2 => c1 F333796 g333795 bg333795 hT333797 hs333798 x333799 x333800 r333814)
                                refine G_iload 2 dr_cX17_graph_243 rfl ?_
                                refine G_if_lt 265 dr_cX17_graph_245 (by decide +kernel) (fun _ => ?_) (fun hc => absurd hc (by decide))
                                refine G_aload_n 8 dr_cX17_graph_265 rfl ?_
                                have fq333816 : fR (F333796 q276665) 1 = (γ 9 1) := by rw [he333811]; rfl
                                refine Gp_get 1 hm333812 he333811 dr_cX17_graph_266 (gk_X17 D I) (Nat.le_of_ble_eq_true rfl) wr_7_75 rfl ?_
                                refine G_iload 3 dr_cX17_graph_269 rfl ?_
                                have hm333817 : (γ 9 1) ∈ P276663 := RS_m hT333797 ht276692 (by decide)
                                obtain ⟨f333819, he333818, hg333820⟩ := show rk_13 I γ (F333796 (γ 9 1)) from RS_o hT333797 ht276692
                                obtain ⟨q333821, hx333823⟩ : ∃ x, x = γ 11 o333390.toInt.toNat := ⟨_, rfl⟩
                                have ht333822 : rKd γ q333821 36 := by rw [hx333823]; exact (hg333820 _ (show o333390.toInt.toNat < 2000 by omega)).2.1
                                refine Gp_aald 5 hm333817 he333818 dr_cX17_graph_271 rfl rfl (gB_in bo333390' (by decide) (by decide)) ?_
                                rw [show f333819 o333390.toNatClampNeg = some q333821 from (hg333820 _ (show o333390.toInt.toNat < 2000 by omega)).1.trans (by rw [hx333823])]
                                change G _ _ _ _ _ _ _ (.ref q333821 :: _) _ _ _
                                refine G_iload 3 dr_cX17_graph_272 rfl ?_
                                have hm333824 : q333821 ∈ P276663 := RS_m hT333797 ht333822 (by decide)
                                obtain ⟨f333826, he333825, wf333826⟩ := show rk_36 I (F333796 q333821) from RS_o hT333797 ht333822
                                refine Gw_callS (As := [.ref q333821, .int o333390]) (gV_ok D I) (cp_1880_SpillForgeModel_clear l hl0 D I P276663 F333796 q333821 o333390 f333826 hm333824 he333825 bo333390' wf333826) dr_cX17_graph_274 ⟨wr_10_185, wr_1_14, wr_10_187, by decide, rfl, (Nat.le_of_ble_eq_true rfl), (Nat.le_of_ble_eq_true rfl)⟩ wr_10_186 (show 0 + 0 ≤ 0 by first | omega | decide) (show 0 + 0 ≤ 0 by first | omega | decide) (Nat.le_of_ble_eq_true rfl) (fun r333830 w333831 dc333827 ds333828 hp333829 => ?_) (fun _ _ _ _ _ z => z.elim)
                                obtain ⟨F333835, f333832, rfl, rfl, hfr333837, he333838, hdc, hds, x333833, ht333834⟩ := hp333829
                                have he333839 : F333835 q276666 = .inr (18, [.ref q330825, .ref q330826, .int p330827, .int p330828]) := (hfr333837 q276666 hm330823 (nm_c (rn_oa he333803 he333825) nm_n)).trans he333803
                                have he333840 : F333835 q330825 = .inr (4, [.int p331472, .ref q331474, .int p331473]) := (hfr333837 q330825 hm331470 (nm_c (rn_oa he333804 he333825) nm_n)).trans he333804
                                have he333841 : F333835 q331474 = .inl (I (.object "java/lang/Object"), n331488, .inr (.inr (.inr (.inr f331489)))) := (hfr333837 q331474 hm331490 (nm_c (rn_ref_long he333805 he333825) nm_n)).trans he333805
                                have he333842 : F333835 q331491 = .inr (17, [.ref q331501, .ref q331502, .int p331503, .int p331504]) := (hfr333837 q331491 hm331499 (nm_c (rn_oa he333806 he333825) nm_n)).trans he333806
                                have he333843 : F333835 q331501 = .inr (4, [.int p333311, .ref q333313, .int p333312]) := (hfr333837 q331501 hm333309 (nm_c (rn_oa he333807 he333825) nm_n)).trans he333807
                                have he333844 : F333835 q333313 = .inl (I (.object "java/lang/Object"), n333327, .inr (.inr (.inr (.inr f333328)))) := (hfr333837 q333313 hm333329 (nm_c (rn_ref_long he333808 he333825) nm_n)).trans he333808
                                have he333845 : F333835 q333330 = .inr (20, [.int p333345, .int p333346, .int p333347, .int p333348, .int p333349, .int p333350, .int p333351]) := (hfr333837 q333330 hm333343 (nm_c (rn_oa he333809 he333825) nm_n)).trans he333809
                                have he333846 : F333835 q276665 = .inr (22, [.ref (γ 9 0), .ref (γ 9 1), .ref (γ 9 2), .ref (γ 9 3), .ref (γ 9 4), .ref (γ 9 5), .ref (γ 9 6), .ref (γ 9 7), .ref (γ 9 8), .int p276674, .int p276675, .int p276676, .int p276677, .int p276678, .int p276679, .ref (γ 9 15), .ref (γ 9 16), .ref (γ 9 17), .ref (γ 9 18), .ref (γ 9 19), .ref (γ 9 20), .ref (γ 9 21), .ref (γ 9 22), .int p276680, .int p276681, .int p276682, .int p276683, .int p276684, .ref q276672, .ref (γ 9 29), .int p276685, .ref (γ 9 31), .int p276686, .int p276687, .int p276688, .ref q276673]) := (hfr333837 q276665 hm333812 (nm_c (rn_oa he333811 he333825) nm_n)).trans he333811
                                have he333847 : F333835 (γ 9 1) = .inl (I (.array .long), 2000, .inr (.inr (.inr (.inr f333819)))) := (hfr333837 (γ 9 1) hm333817 (nm_c (rn_ref_long he333818 he333825) nm_n)).trans he333818
                                have hfr333848 : rFr [q333821] P276663 F333796 F333835 := rFr_call (rSub_rf (P := P276663)) (rFr_rf (W := []) (P := P276663) (F := F333796)) hfr333837 (fun b hb hn => ⟨nm_n, (nm_c (fun e => hn (e ▸ List.mem_cons_self)) nm_n)⟩)
                                change G _ _ _ _ _ _ _ _ _ _ _
                                refine G_widen (cs' := 0) (sl' := 0) (by omega) (by omega) ?_
                                have hT333849 : RS D I P276663 F333835 γ el := RS_fr hT333797 hfr333848 ht333822 (by decide) ⟨f333832, he333838, x333833⟩
                                have hs333850 : rStr γ [] F276664 F333835 := rStr_fr hT333797 hs333798 hfr333848 ht333822 (by decide)
                                have kp333851 : F333835 q276665 = F276664 q276665 := (hfr333848 q276665 (RS_m hT333797 htq276665 (by decide)) (nm_c (rn_ty htq276665 ht333822 (by decide)) nm_n)).trans x333800
                                have kp333852 : F333835 (γ 9 3) = F333796 (γ 9 3) := hfr333848 (γ 9 3) (RS_m hT333797 ht276694 (by decide)) (nm_c (rn_ty ht276694 ht333822 (by decide)) nm_n)
                                refine G_aload_n 8 dr_cX17_graph_277 rfl ?_
                                refine G_aload 4 dr_cX17_graph_278 rfl ?_
                                refine G_iload_n 10 dr_cX17_graph_280 rfl ?_
                                refine Gw_callV (As := [.ref q333330, .int p276667]) (gV_ok D I) (ct_283500_SpillForgeModel_back l hl0 D I γ el P276663 F333835 q276665 q333330 p276667 hT333849 htq276665 ht333333 (gB_w bp276667' (by decide) (by decide))) dr_cX17_graph_281 ⟨wr_10_174, wr_1_14, wr_10_177, by decide, rfl, (Nat.le_of_ble_eq_true rfl), (Nat.le_of_ble_eq_true rfl)⟩ wr_10_176 wr_p_96 hm333812 he333846 rfl (show 0 + 0 ≤ 0 by first | omega | decide) (show 0 + 0 ≤ 0 by first | omega | decide) (Nat.le_of_ble_eq_true rfl) (fun r333856 w333857 dc333853 ds333854 hp333855 => ?_) (fun _ _ _ _ _ z => z.elim)
                                obtain ⟨F333861, rfl, rfl, hT333862, hs333863, hdc, hds, x333858, x333859, ht333860⟩ := hp333855
                                have he333864 : F333861 q276666 = .inr (18, [.ref q330825, .ref q330826, .int p330827, .int p330828]) := (hs333863 q276666 (rT0 htq276666 (by decide)) (rT1 htq276666 (by decide)) (rT2 htq276666 (by decide))).trans he333839
                                have he333865 : F333861 q330825 = .inr (4, [.int p331472, .ref q331474, .int p331473]) := (hs333863 q330825 (rT0 ht330829 (by decide)) (rT1 ht330829 (by decide)) (rT2 ht330829 (by decide))).trans he333840
                                have he333866 : F333861 q331474 = .inl (I (.object "java/lang/Object"), n331488, .inr (.inr (.inr (.inr f331489)))) := (hs333863 q331474 (rT0 r331480 (by decide)) (rT1 r331480 (by decide)) (rT2 r331480 (by decide))).trans he333841
                                have he333867 : F333861 q331491 = .inr (17, [.ref q331501, .ref q331502, .int p331503, .int p331504]) := (hs333863 q331491 (rT0 ht331497 (by decide)) (rT1 ht331497 (by decide)) (rT2 ht331497 (by decide))).trans he333842
                                have he333868 : F333861 q331501 = .inr (4, [.int p333311, .ref q333313, .int p333312]) := (hs333863 q331501 (rT0 ht331505 (by decide)) (rT1 ht331505 (by decide)) (rT2 ht331505 (by decide))).trans he333843
                                have he333869 : F333861 q333313 = .inl (I (.object "java/lang/Object"), n333327, .inr (.inr (.inr (.inr f333328)))) := (hs333863 q333313 (rT0 r333319 (by decide)) (rT1 r333319 (by decide)) (rT2 r333319 (by decide))).trans he333844
                                have he333870 : F333861 q333330 = .inr (20, [.int p333345, .int p333346, .int p333347, .int p333348, .int p333349, .int p333350, .int p333351]) := (hs333863 q333330 (rT0 ht333333 (by decide)) (rT1 ht333333 (by decide)) (rT2 ht333333 (by decide))).trans he333845
                                have hs333871 : rStr γ [] F276664 F333861 := rStr_tr hs333850 hs333863
                                have kp333872 : F333861 q276665 = F276664 q276665 := (x333858).trans kp333851
                                have kp333873 : F333861 (γ 9 3) = F333796 (γ 9 3) := (x333859).trans kp333852
                                have he333874 : F333861 q276665 = .inr (22, [.ref (γ 9 0), .ref (γ 9 1), .ref (γ 9 2), .ref (γ 9 3), .ref (γ 9 4), .ref (γ 9 5), .ref (γ 9 6), .ref (γ 9 7), .ref (γ 9 8), .int p276674, .int p276675, .int p276676, .int p276677, .int p276678, .int p276679, .ref (γ 9 15), .ref (γ 9 16), .ref (γ 9 17), .ref (γ 9 18), .ref (γ 9 19), .ref (γ 9 20), .ref (γ 9 21), .ref (γ 9 22), .int p276680, .int p276681, .int p276682, .int p276683, .int p276684, .ref q276672, .ref (γ 9 29), .int p276685, .ref (γ 9 31), .int p276686, .int p276687, .int p276688, .ref q276673]) := (x333858).trans he333846
                                change G _ _ _ _ _ _ _ _ _ _ _
                                refine G_widen (cs' := 0) (sl' := 0) (by omega) (by omega) ?_
                                obtain ⟨z333875, hz333875⟩ : ∃ z : Int32, z = g333285 + Int32.ofInt (-1) := ⟨_, rfl⟩
                                have ez333875 : z333875.toInt = g333285.toInt + (-1) := gI_inc hz333875 (by decide) bg333285' (by decide) (by decide)
                                have bz333875 : gB z333875 (-1) 999998 := ⟨by omega, by omega⟩
                                refine G_iinc (L' := [(5, .int z333875), (10, .int g333795), (9, .int 0), (8, .int (-1)), (7, .int o333390), (6, .ref q333330), (4, .ref q331491), (3, .int g330812), (0, .ref q276665), (1, .ref q276666), (2, .int p276667)]) z333875 5 dr_cX17_graph_284 rfl hz333875.symm (Nat.le_of_ble_eq_true rfl) rfl ?_
                                refine G_goto 109 dr_cX17_graph_287 (by decide +kernel) ?_
                                refine G_lv (L' := [(5, .int z333875), (4, .ref q331491), (3, .int g330812), (0, .ref q276665), (1, .ref q276666), (2, .int p276667)]) [0, 6, 7, 8, 9, 10] rfl ?_
                                exact ih109_333291 F333861 z333875 (gB_w bz333875 (by decide) (by decide)) hT333862 hs333871 (by omega) (fun h0 => by have z := x333799 h0; rw [← kp333873] at z; rw [show ((g333285.toInt : Int).toNat : Nat) = (z333875.toInt + 1 : Int).toNat by omega] at z; exact z) kp333872 (fun k e1 ht => kt109_333292 k e1 (fun R c1 c2 c3 c4 c5 c6 c7 c8 c9 c10 c11 => c5 F333286 g333285 q331501 q333330 p333312 F333365 p333345 p333346 p333349 o333390 F333796 q333821 f333826 f333832 F333835 F333861 z333875 k e1 bg333285 hT333287 hs333288 x333289 x333290 x333291 r333306 fq333307 hx333331 fq333335 ht333341 hT333366 hs333367 x333362 x333363 ht333364 fq333382 fq333383 fq333384 bo333390 ht333391 r333653 r333655 r333681 hx333815 fq333816 hx333823 he333825 ht333834 hfr333848 he333838 hT333849 hT333862 hs333863 x333858 x333859 ht333860 ez333875 (ht R c1 c2 c3 c4 c5 c6 c7 c8 c9 c10 c11))) (mz_dn ez333875 (Int.le_trans (by decide) bg333285'.1) hm109_333291)
                              · have r333876 : g333795.toInt < 32 := gj_nleL hc333813 (show Int32.toInt 32 = 32 by decide)
                                have bg333795' : gB g333795 0 31 := ⟨by omega, by omega⟩
                                refine G_aload_n 8 dr_cX17_graph_217 rfl ?_
                                have fq333877 : fR (F333796 q276665) 1 = (γ 9 1) := by rw [he333811]; rfl
                                refine Gp_get 1 hm333812 he333811 dr_cX17_graph_218 (gk_X17 D I) (Nat.le_of_ble_eq_true rfl) wr_7_75 rfl ?_
                                refine G_iload 3 dr_cX17_graph_221 rfl ?_
                                have hm333878 : (γ 9 1) ∈ P276663 := RS_m hT333797 ht276692 (by decide)
                                obtain ⟨f333880, he333879, hg333881⟩ := show rk_13 I γ (F333796 (γ 9 1)) from RS_o hT333797 ht276692
                                obtain ⟨q333882, hx333884⟩ : ∃ x, x = γ 11 o333390.toInt.toNat := ⟨_, rfl⟩
                                have ht333883 : rKd γ q333882 36 := by rw [hx333884]; exact (hg333881 _ (show o333390.toInt.toNat < 2000 by omega)).2.1
                                refine Gp_aald 5 hm333878 he333879 dr_cX17_graph_223 rfl rfl (gB_in bo333390' (by decide) (by decide)) ?_
                                rw [show f333880 o333390.toNatClampNeg = some q333882 from (hg333881 _ (show o333390.toInt.toNat < 2000 by omega)).1.trans (by rw [hx333884])]
                                change G _ _ _ _ _ _ _ (.ref q333882 :: _) _ _ _
                                refine G_iload 0 dr_cX17_graph_224 rfl ?_
                                refine G_dup2_11 dr_cX17_graph_226 rfl rfl ?_
                                have hm333885 : q333882 ∈ P276663 := RS_m hT333797 ht333883 (by decide)
                                obtain ⟨f333887, he333886, wf333887⟩ := show rk_36 I (F333796 q333882) from RS_o hT333797 ht333883
                                refine Gp_lald 2 hm333885 he333886 dr_cX17_graph_227 rfl (gB_in bg333795' (by decide) (by decide)) (G_namL fun u333888 hu333888 => ?_)
                                have qu333888 : lb_Q u333888 (2000 - 64 * g333795.toInt) := lb_Wld hu333888 wf333887 (by omega) (by omega) (lb_Mod0 (by omega) (by omega))
                                refine G_aload_n 8 dr_cX17_graph_228 rfl ?_
                                have fq333889 : fR (F333796 q276665) 2 = (γ 9 2) := by rw [he333811]; rfl
                                refine Gp_get 2 hm333812 he333811 dr_cX17_graph_229 (gk_X17 D I) (Nat.le_of_ble_eq_true rfl) wr_7_76 rfl ?_
                                refine G_iload 0 dr_cX17_graph_232 rfl ?_
                                have hm333890 : (γ 9 2) ∈ P276663 := RS_m hT333797 ht276693 (by decide)
                                obtain ⟨f333892, he333891, wf333892⟩ := show rk_35 I (F333796 (γ 9 2)) from RS_o hT333797 ht276693
                                refine Gp_lald 2 hm333890 he333891 dr_cX17_graph_234 rfl (gB_in bg333795' (by decide) (by decide)) (G_namL fun u333893 hu333893 => ?_)
                                have qu333893 : lb_Q u333893 (2000 - 64 * g333795.toInt) := lb_Wld hu333893 wf333892 (by omega) (by omega) (lb_Mod0 (by omega) (by omega))
                                refine G_lor dr_cX17_graph_235 (G_namL fun u333894 hu333894 => ?_)
                                have qu333894 : lb_Q u333894 (2000 - 64 * g333795.toInt) := lb_Qor hu333894 qu333888 qu333893
                                refine Gp_last 2 hm333885 he333886 dr_cX17_graph_236 rfl (gB_in bg333795' (by decide) (by decide)) (fun F333895 e333896 n333897 => ?_)
                                obtain ⟨f333898, hf333898⟩ : ∃ z, z = vp_updL f333887 g333795.toNatClampNeg u333894 := ⟨_, rfl⟩
                                rw [← hf333898] at e333896
                                have he333899 : F333895 q276666 = .inr (18, [.ref q330825, .ref q330826, .int p330827, .int p330828]) := (n333897 q276666 (rn_oa he333803 he333886)).trans he333803
                                have he333900 : F333895 q330825 = .inr (4, [.int p331472, .ref q331474, .int p331473]) := (n333897 q330825 (rn_oa he333804 he333886)).trans he333804
                                have he333901 : F333895 q331474 = .inl (I (.object "java/lang/Object"), n331488, .inr (.inr (.inr (.inr f331489)))) := (n333897 q331474 (rn_ref_long he333805 he333886)).trans he333805
                                have he333902 : F333895 q331491 = .inr (17, [.ref q331501, .ref q331502, .int p331503, .int p331504]) := (n333897 q331491 (rn_oa he333806 he333886)).trans he333806
                                have he333903 : F333895 q331501 = .inr (4, [.int p333311, .ref q333313, .int p333312]) := (n333897 q331501 (rn_oa he333807 he333886)).trans he333807
                                have he333904 : F333895 q333313 = .inl (I (.object "java/lang/Object"), n333327, .inr (.inr (.inr (.inr f333328)))) := (n333897 q333313 (rn_ref_long he333808 he333886)).trans he333808
                                have he333905 : F333895 q333330 = .inr (20, [.int p333345, .int p333346, .int p333347, .int p333348, .int p333349, .int p333350, .int p333351]) := (n333897 q333330 (rn_oa he333809 he333886)).trans he333809
                                have he333906 : F333895 q276665 = .inr (22, [.ref (γ 9 0), .ref (γ 9 1), .ref (γ 9 2), .ref (γ 9 3), .ref (γ 9 4), .ref (γ 9 5), .ref (γ 9 6), .ref (γ 9 7), .ref (γ 9 8), .int p276674, .int p276675, .int p276676, .int p276677, .int p276678, .int p276679, .ref (γ 9 15), .ref (γ 9 16), .ref (γ 9 17), .ref (γ 9 18), .ref (γ 9 19), .ref (γ 9 20), .ref (γ 9 21), .ref (γ 9 22), .int p276680, .int p276681, .int p276682, .int p276683, .int p276684, .ref q276672, .ref (γ 9 29), .int p276685, .ref (γ 9 31), .int p276686, .int p276687, .int p276688, .ref q276673]) := (n333897 q276665 (rn_oa he333811 he333886)).trans he333811
                                have he333907 : F333895 (γ 9 1) = .inl (I (.array .long), 2000, .inr (.inr (.inr (.inr f333880)))) := (n333897 (γ 9 1) (rn_ref_long he333879 he333886)).trans he333879
                                have he333908 : F333895 (γ 9 2) = .inl (I .long, 32, .inr (.inl f333892)) := (n333897 (γ 9 2) (rn_ty ht276693 ht333883 (by decide))).trans he333891
                                have he333909 : F333895 q333882 = .inl (I .long, 32, .inr (.inl f333898)) := e333896
                                have hs333910 : rStr γ [] F276664 F333895 := rStr_put hs333798 n333897 ht333883 (by decide)
                                have kp333911 : F333895 q276665 = F276664 q276665 := (n333897 q276665 (rn_ty htq276665 ht333883 (by decide))).trans x333800
                                have kp333912 : F333895 (γ 9 3) = F333796 (γ 9 3) := n333897 (γ 9 3) (rn_ty ht276694 ht333883 (by decide))
                                have wf333898 : lb_W f333898 (32) (32) (2000) := lb_Wst hf333898 wf333887 (by omega) (lb_Mod0 (by omega) (by omega)) qu333894
                                obtain ⟨z333913, hz333913⟩ : ∃ z : Int32, z = g333795 + Int32.ofInt 1 := ⟨_, rfl⟩
                                have ez333913 : z333913.toInt = g333795.toInt + 1 := gI_inc hz333913 (by decide) bg333795' (by decide) (by decide)
                                have bz333913 : gB z333913 1 32 := ⟨by omega, by omega⟩
                                refine G_iinc (L' := [(10, .int z333913), (9, .int 0), (8, .int (-1)), (7, .int o333390), (6, .ref q333330), (5, .int g333285), (4, .ref q331491), (3, .int g330812), (0, .ref q276665), (1, .ref q276666), (2, .int p276667)]) z333913 0 dr_cX17_graph_237 rfl hz333913.symm (Nat.le_of_ble_eq_true rfl) rfl ?_
                                refine G_goto 210 dr_cX17_graph_240 (by decide +kernel) ?_
                                have hT333914 : RS D I P276663 F333895 γ el := RS_set hT333797 n333897 ht333883 (by decide) ⟨f333898, he333909, wf333898⟩
                                exact ih210_333800 F333895 z333913 (gB_w bz333913 (by decide) (by decide)) hT333914 hs333910 (by rw [kp333912]; exact x333799) kp333911 (fun k e1 ht => kt210_333801 k e1 (fun R c1 c2 => c2 F333796 g333795 q333882 f333887 u333888 f333892 u333893 u333894 f333898 F333895 z333913 k e1 bg333795 hT333797 hs333798 x333799 x333800 r333876 fq333877 hx333884 he333886 hu333888 fq333889 he333891 hu333893 hu333894 hf333898 n333897 he333909 ez333913 (ht R c1 c2))) (mz_up ez333913 (Int.le_trans bg333795'.2 (by decide)) hm210_333800)
                          exact hlp210_333800 (((33 : Int) - 0).toNat + 1) F333365 0 (gB_w (gBl (show Int32.toInt 0 = 0 by decide)) (by decide) (by decide)) hT333366 hs333375 gr333381 kp333376 (fun k e1 ht => ht) (Nat.lt_succ_self _)
                      · have r333915 : p333345.toInt = 0 := gj_eq hc333654 (show Int32.toInt 0 = 0 by decide)
                        have bp333345' : gB p333345 0 0 := ⟨by omega, by omega⟩
                        refine G_aload 1 dr_cX17_graph_156 rfl ?_
                        have fq333916 : fI (F333365 q333330) 5 = p333350 := by rw [he333374]; rfl
                        refine Gp_get 5 hm333343 he333374 dr_cX17_graph_158 (gk_X15 D I) (Nat.le_of_ble_eq_true rfl) wr_9_197 rfl ?_
                        refine G_if_eq 172 dr_cX17_graph_161 (by decide +kernel) (fun hc333917 => ?_) (fun hc333917 => ?_)
                        · have r333918 : p333350.toInt = 0 := gj_eq hc333917 (show Int32.toInt 0 = 0 by decide)
                          have bp333350' : gB p333350 0 0 := gB_t0 r333918
                          refine G_iconst (-1) dr_cX17_graph_172 (by decide +kernel) ?_
                          refine G_istore (L' := [(8, .int (-1)), (7, .int o333390), (6, .ref q333330), (5, .int g333285), (4, .ref q331491), (3, .int g330812), (0, .ref q276665), (1, .ref q276666), (2, .int p276667)]) dr_cX17_graph_173 (Nat.le_of_ble_eq_true rfl) rfl ?_
                          refine G_iload 1 dr_cX17_graph_175 rfl ?_
                          refine G_if_lt 277 dr_cX17_graph_177 (by decide +kernel) (fun hc333919 => ?_) (fun hc333919 => ?_)
                          · have r333920 : o333390.toInt < 0 := gj_lt hc333919 (show Int32.toInt 0 = 0 by decide)
                            have bo333390' : gB o333390 (-1) (-1) := ⟨by omega, by omega⟩
                            refine G_aload_n 6 dr_cX17_graph_277 rfl ?_
                            refine G_aload 2 dr_cX17_graph_278 rfl ?_
                            refine G_iload_n 8 dr_cX17_graph_280 rfl ?_
                            refine Gw_callV (As := [.ref q333330, .int p276667]) (gV_ok D I) (ct_283500_SpillForgeModel_back l hl0 D I γ el P276663 F333365 q276665 q333330 p276667 hT333366 htq276665 ht333333 (gB_w bp276667' (by decide) (by decide))) dr_cX17_graph_281 ⟨wr_10_174, wr_1_14, wr_10_177, by decide, rfl, (Nat.le_of_ble_eq_true rfl), (Nat.le_of_ble_eq_true rfl)⟩ wr_10_176 wr_p_96 hm333301 he333377 rfl (show 0 + 0 ≤ 0 by first | omega | decide) (show 0 + 0 ≤ 0 by first | omega | decide) (Nat.le_of_ble_eq_true rfl) (fun r333924 w333925 dc333921 ds333922 hp333923 => ?_) (fun _ _ _ _ _ z => z.elim)
                            obtain ⟨F333929, rfl, rfl, hT333930, hs333931, hdc, hds, x333926, x333927, ht333928⟩ := hp333923
                            have he333932 : F333929 q276666 = .inr (18, [.ref q330825, .ref q330826, .int p330827, .int p330828]) := (hs333931 q276666 (rT0 htq276666 (by decide)) (rT1 htq276666 (by decide)) (rT2 htq276666 (by decide))).trans he333368
                            have he333933 : F333929 q330825 = .inr (4, [.int p331472, .ref q331474, .int p331473]) := (hs333931 q330825 (rT0 ht330829 (by decide)) (rT1 ht330829 (by decide)) (rT2 ht330829 (by decide))).trans he333369
                            have he333934 : F333929 q331474 = .inl (I (.object "java/lang/Object"), n331488, .inr (.inr (.inr (.inr f331489)))) := (hs333931 q331474 (rT0 r331480 (by decide)) (rT1 r331480 (by decide)) (rT2 r331480 (by decide))).trans he333370
                            have he333935 : F333929 q331491 = .inr (17, [.ref q331501, .ref q331502, .int p331503, .int p331504]) := (hs333931 q331491 (rT0 ht331497 (by decide)) (rT1 ht331497 (by decide)) (rT2 ht331497 (by decide))).trans he333371
                            have he333936 : F333929 q331501 = .inr (4, [.int p333311, .ref q333313, .int p333312]) := (hs333931 q331501 (rT0 ht331505 (by decide)) (rT1 ht331505 (by decide)) (rT2 ht331505 (by decide))).trans he333372
                            have he333937 : F333929 q333313 = .inl (I (.object "java/lang/Object"), n333327, .inr (.inr (.inr (.inr f333328)))) := (hs333931 q333313 (rT0 r333319 (by decide)) (rT1 r333319 (by decide)) (rT2 r333319 (by decide))).trans he333373
                            have he333938 : F333929 q333330 = .inr (20, [.int p333345, .int p333346, .int p333347, .int p333348, .int p333349, .int p333350, .int p333351]) := (hs333931 q333330 (rT0 ht333333 (by decide)) (rT1 ht333333 (by decide)) (rT2 ht333333 (by decide))).trans he333374
                            have hs333939 : rStr γ [] F276664 F333929 := rStr_tr hs333375 hs333931
                            have kp333940 : F333929 q276665 = F276664 q276665 := (x333926).trans kp333376
                            have kp333941 : F333929 (γ 9 3) = F333365 (γ 9 3) := x333927
                            have he333942 : F333929 q276665 = .inr (22, [.ref (γ 9 0), .ref (γ 9 1), .ref (γ 9 2), .ref (γ 9 3), .ref (γ 9 4), .ref (γ 9 5), .ref (γ 9 6), .ref (γ 9 7), .ref (γ 9 8), .int p276674, .int p276675, .int p276676, .int p276677, .int p276678, .int p276679, .ref (γ 9 15), .ref (γ 9 16), .ref (γ 9 17), .ref (γ 9 18), .ref (γ 9 19), .ref (γ 9 20), .ref (γ 9 21), .ref (γ 9 22), .int p276680, .int p276681, .int p276682, .int p276683, .int p276684, .ref q276672, .ref (γ 9 29), .int p276685, .ref (γ 9 31), .int p276686, .int p276687, .int p276688, .ref q276673]) := (x333926).trans he333377
                            change G _ _ _ _ _ _ _ _ _ _ _
                            refine G_widen (cs' := 0) (sl' := 0) (by omega) (by omega) ?_
                            obtain ⟨z333943, hz333943⟩ : ∃ z : Int32, z = g333285 + Int32.ofInt (-1) := ⟨_, rfl⟩
                            have ez333943 : z333943.toInt = g333285.toInt + (-1) := gI_inc hz333943 (by decide) bg333285' (by decide) (by decide)
                            have bz333943 : gB z333943 (-1) 999998 := ⟨by omega, by omega⟩
                            refine G_iinc (L' := [(5, .int z333943), (8, .int (-1)), (7, .int o333390), (6, .ref q333330), (4, .ref q331491), (3, .int g330812), (0, .ref q276665), (1, .ref q276666), (2, .int p276667)]) z333943 3 dr_cX17_graph_284 rfl hz333943.symm (Nat.le_of_ble_eq_true rfl) rfl ?_
                            refine G_goto 109 dr_cX17_graph_287 (by decide +kernel) ?_
                            refine G_lv (L' := [(5, .int z333943), (4, .ref q331491), (3, .int g330812), (0, .ref q276665), (1, .ref q276666), (2, .int p276667)]) [0, 4, 5, 6, 7, 8] rfl ?_
                            exact ih109_333291 F333929 z333943 (gB_w bz333943 (by decide) (by decide)) hT333930 hs333939 (by omega) (fun h0 => by have z := gr333381 h0; rw [← kp333941] at z; rw [show ((g333285.toInt : Int).toNat : Nat) = (z333943.toInt + 1 : Int).toNat by omega] at z; exact z) kp333940 (fun k e1 ht => kt109_333292 k e1 (fun R c1 c2 c3 c4 c5 c6 c7 c8 c9 c10 c11 => c6 F333286 g333285 q331501 q333330 p333312 F333365 p333345 p333346 p333349 o333390 p333350 F333929 z333943 k e1 bg333285 hT333287 hs333288 x333289 x333290 x333291 r333306 fq333307 hx333331 fq333335 ht333341 hT333366 hs333367 x333362 x333363 ht333364 fq333382 fq333383 fq333384 bo333390 ht333391 r333653 r333915 fq333916 r333918 r333920 hT333930 hs333931 x333926 x333927 ht333928 ez333943 (ht R c1 c2 c3 c4 c5 c6 c7 c8 c9 c10 c11))) (mz_dn ez333943 (Int.le_trans (by decide) bg333285'.1) hm109_333291)
                          · have r333944 : 0 ≤ o333390.toInt := gj_nlt hc333919 (show Int32.toInt 0 = 0 by decide)
                            have bo333390' : gB o333390 0 1999 := ⟨by omega, by omega⟩
                            refine G_iload 0 dr_cX17_graph_180 rfl ?_
                            refine G_if_lt 204 dr_cX17_graph_182 (by decide +kernel) (fun _ => ?_) (fun hc => absurd hc (by decide))
                            refine G_iconst 0 dr_cX17_graph_204 (by decide +kernel) ?_
                            refine G_istore (L' := [(9, .int 0), (8, .int (-1)), (7, .int o333390), (6, .ref q333330), (5, .int g333285), (4, .ref q331491), (3, .int g330812), (0, .ref q276665), (1, .ref q276666), (2, .int p276667)]) dr_cX17_graph_205 (Nat.le_of_ble_eq_true rfl) rfl ?_
                            refine G_iconst 0 dr_cX17_graph_207 (by decide +kernel) ?_
                            refine G_istore (L' := [(10, .int 0), (9, .int 0), (8, .int (-1)), (7, .int o333390), (6, .ref q333330), (5, .int g333285), (4, .ref q331491), (3, .int g330812), (0, .ref q276665), (1, .ref q276666), (2, .int p276667)]) dr_cX17_graph_208 (Nat.le_of_ble_eq_true rfl) rfl ?_
                            have hlp210_334063 : ∀ (n210_334063 : Nat) (F334059 : Nat → va_E) (g334058 : Int32), gB g334058 0 32 → RS D I P276663 F334059 γ el → rStr γ [] F276664 F334059 → (gIp (p276667.toInt = 0) (rGr γ el F276664 q276666 (γ 6 (γ 1 q276666)) (cB (F334059 (γ 9 3))) (vB (g330812.toInt : Int).toNat (g333285.toInt : Int).toNat))) → (F334059 q276665 = F276664 q276665) → (∀ (k : Nat) (e1 : Nat → va_E), tl_RModel_graph_210_3 D I γ el P276663 F276664 p276667 q276666 g330812 g333285 q276665 o333390 F334059 g334058 k e1 → tl_RModel_graph_210_3 D I γ el P276663 F276664 p276667 q276666 g330812 g333285 q276665 o333390 F333365 (0 : Int32) k e1) → ((33 : Int) - g334058.toInt).toNat < n210_334063 → G (gV D I) l (gRm 5 111 0 0) (gMA (gV D I) (pt_276669_SpillForgeModel_graph D I γ el P276663 F276664 q276665 q276666 p276667) gNA 0 0) ky_276669_SpillForgeModel_graph 210 [(10, .int g334058), (9, .int 0), (8, .int (-1)), (7, .int o333390), (6, .ref q333330), (5, .int g333285), (4, .ref q331491), (3, .int g330812), (0, .ref q276665), (1, .ref q276666), (2, .int p276667)] [] (va_pl P276663 F334059) 0 0 := by
                              intro n210_334063
                              induction n210_334063 with
                              | zero => intro F334059 g334058 bg334058 hT334060 hs334061 x334062 x334063 kt210_334064 hm210_334063; exact absurd hm210_334063 (Nat.not_lt_zero _)
                              | succ n210_334063 ih210_334063 =>
                                intro F334059 g334058 bg334058 hT334060 hs334061 x334062 x334063 kt210_334064 hm210_334063
                                have hs334065 : rStr γ [] F333365 F334059 := fun b h0 hb hw => (hs334061 b h0 hb hw).trans (hs333375 b h0 hb hw).symm
                                have he334066 : F334059 q276666 = .inr (18, [.ref q330825, .ref q330826, .int p330827, .int p330828]) := (hs334065 q276666 (rT0 htq276666 (by decide)) (rT1 htq276666 (by decide)) (rT2 htq276666 (by decide))).trans he333368
                                have he334067 : F334059 q330825 = .inr (4, [.int p331472, .ref q331474, .int p331473]) := (hs334065 q330825 (rT0 ht330829 (by decide)) (rT1 ht330829 (by decide)) (rT2 ht330829 (by decide))).trans he333369
                                have he334068 : F334059 q331474 = .inl (I (.object "java/lang/Object"), n331488, .inr (.inr (.inr (.inr f331489)))) := (hs334065 q331474 (rT0 r331480 (by decide)) (rT1 r331480 (by decide)) (rT2 r331480 (by decide))).trans he333370
                                have he334069 : F334059 q331491 = .inr (17, [.ref q331501, .ref q331502, .int p331503, .int p331504]) := (hs334065 q331491 (rT0 ht331497 (by decide)) (rT1 ht331497 (by decide)) (rT2 ht331497 (by decide))).trans he333371
                                have he334070 : F334059 q331501 = .inr (4, [.int p333311, .ref q333313, .int p333312]) := (hs334065 q331501 (rT0 ht331505 (by decide)) (rT1 ht331505 (by decide)) (rT2 ht331505 (by decide))).trans he333372
                                have he334071 : F334059 q333313 = .inl (I (.object "java/lang/Object"), n333327, .inr (.inr (.inr (.inr f333328)))) := (hs334065 q333313 (rT0 r333319 (by decide)) (rT1 r333319 (by decide)) (rT2 r333319 (by decide))).trans he333373
                                have he334072 : F334059 q333330 = .inr (20, [.int p333345, .int p333346, .int p333347, .int p333348, .int p333349, .int p333350, .int p333351]) := (hs334065 q333330 (rT0 ht333333 (by decide)) (rT1 ht333333 (by decide)) (rT2 ht333333 (by decide))).trans he333374
                                have hs334073 : rStr γ [] F276664 F334059 := rStr_tr hs333375 hs334065
                                have he334074 : F334059 q276665 = .inr (22, [.ref (γ 9 0), .ref (γ 9 1), .ref (γ 9 2), .ref (γ 9 3), .ref (γ 9 4), .ref (γ 9 5), .ref (γ 9 6), .ref (γ 9 7), .ref (γ 9 8), .int p276674, .int p276675, .int p276676, .int p276677, .int p276678, .int p276679, .ref (γ 9 15), .ref (γ 9 16), .ref (γ 9 17), .ref (γ 9 18), .ref (γ 9 19), .ref (γ 9 20), .ref (γ 9 21), .ref (γ 9 22), .int p276680, .int p276681, .int p276682, .int p276683, .int p276684, .ref q276672, .ref (γ 9 29), .int p276685, .ref (γ 9 31), .int p276686, .int p276687, .int p276688, .ref q276673]) := x334063.trans he276671
                                have hm334075 : q276665 ∈ P276663 := RS_m hT334060 htq276665 (by decide)
                                refine G_iload 0 dr_cX17_graph_210 rfl ?_
                                refine G_bipush 32 dr_cX17_graph_212 (by decide +kernel) ?_
                                refine G_icmp_ge 243 dr_cX17_graph_214 (by decide +kernel) (fun hc334076 => ?_) (fun hc334076 => ?_)
                                · have r334077 : 32 ≤ g334058.toInt := gj_leL hc334076 (show Int32.toInt 32 = 32 by decide)
                                  have bg334058' : gB g334058 32 32 := ⟨by omega, by omega⟩
                                  have hx334078 : tl_RModel_graph_210_3 D I γ el P276663 F276664 p276667 q276666 g330812 g333285 q276665 o333390 F333365 (0 : Int32) 243 F334059 := kt210_334064 243 F334059 (fun R c1 c2 => c1 F334059 g334058 bg334058 hT334060 hs334061 x334062 x334063 r334077)
                                  refine G_iload 2 dr_cX17_graph_243 rfl ?_
                                  refine G_if_lt 265 dr_cX17_graph_245 (by decide +kernel) (fun _ => ?_) (fun hc => absurd hc (by decide))
                                  refine G_aload_n 8 dr_cX17_graph_265 rfl ?_
                                  have fq334079 : fR (F334059 q276665) 1 = (γ 9 1) := by rw [he334074]; rfl
                                  refine Gp_get 1 hm334075 he334074 dr_cX17_graph_266 (gk_X17 D I) (Nat.le_of_ble_eq_true rfl) wr_7_75 rfl ?_
                                  refine G_iload 3 dr_cX17_graph_269 rfl ?_
                                  have hm334080 : (γ 9 1) ∈ P276663 := RS_m hT334060 ht276692 (by decide)
                                  obtain ⟨f334082, he334081, hg334083⟩ := show rk_13 I γ (F334059 (γ 9 1)) from RS_o hT334060 ht276692
                                  obtain ⟨q334084, hx334086⟩ : ∃ x, x = γ 11 o333390.toInt.toNat := ⟨_, rfl⟩
                                  have ht334085 : rKd γ q334084 36 := by rw [hx334086]; exact (hg334083 _ (show o333390.toInt.toNat < 2000 by omega)).2.1
                                  refine Gp_aald 5 hm334080 he334081 dr_cX17_graph_271 rfl rfl (gB_in bo333390' (by decide) (by decide)) ?_
                                  rw [show f334082 o333390.toNatClampNeg = some q334084 from (hg334083 _ (show o333390.toInt.toNat < 2000 by omega)).1.trans (by rw [hx334086])]
                                  change G _ _ _ _ _ _ _ (.ref q334084 :: _) _ _ _
                                  refine G_iload 3 dr_cX17_graph_272 rfl ?_
                                  have hm334087 : q334084 ∈ P276663 := RS_m hT334060 ht334085 (by decide)
                                  obtain ⟨f334089, he334088, wf334089⟩ := show rk_36 I (F334059 q334084) from RS_o hT334060 ht334085
                                  refine Gw_callS (As := [.ref q334084, .int o333390]) (gV_ok D I) (cp_1880_SpillForgeModel_clear l hl0 D I P276663 F334059 q334084 o333390 f334089 hm334087 he334088 bo333390' wf334089) dr_cX17_graph_274 ⟨wr_10_185, wr_1_14, wr_10_187, by decide, rfl, (Nat.le_of_ble_eq_true rfl), (Nat.le_of_ble_eq_true rfl)⟩ wr_10_186 (show 0 + 0 ≤ 0 by first | omega | decide) (show 0 + 0 ≤ 0 by first | omega | decide) (Nat.le_of_ble_eq_true rfl) (fun r334093 w334094 dc334090 ds334091 hp334092 => ?_) (fun _ _ _ _ _ z => z.elim)
                                  obtain ⟨F334098, f334095, rfl, rfl, hfr334100, he334101, hdc, hds, x334096, ht334097⟩ := hp334092
                                  have he334102 : F334098 q276666 = .inr (18, [.ref q330825, .ref q330826, .int p330827, .int p330828]) := (hfr334100 q276666 hm330823 (nm_c (rn_oa he334066 he334088) nm_n)).trans he334066
                                  have he334103 : F334098 q330825 = .inr (4, [.int p331472, .ref q331474, .int p331473]) := (hfr334100 q330825 hm331470 (nm_c (rn_oa he334067 he334088) nm_n)).trans he334067
                                  have he334104 : F334098 q331474 = .inl (I (.object "java/lang/Object"), n331488, .inr (.inr (.inr (.inr f331489)))) := (hfr334100 q331474 hm331490 (nm_c (rn_ref_long he334068 he334088) nm_n)).trans he334068
                                  have he334105 : F334098 q331491 = .inr (17, [.ref q331501, .ref q331502, .int p331503, .int p331504]) := (hfr334100 q331491 hm331499 (nm_c (rn_oa he334069 he334088) nm_n)).trans he334069
                                  have he334106 : F334098 q331501 = .inr (4, [.int p333311, .ref q333313, .int p333312]) := (hfr334100 q331501 hm333309 (nm_c (rn_oa he334070 he334088) nm_n)).trans he334070
                                  have he334107 : F334098 q333313 = .inl (I (.object "java/lang/Object"), n333327, .inr (.inr (.inr (.inr f333328)))) := (hfr334100 q333313 hm333329 (nm_c (rn_ref_long he334071 he334088) nm_n)).trans he334071
                                  have he334108 : F334098 q333330 = .inr (20, [.int p333345, .int p333346, .int p333347, .int p333348, .int p333349, .int p333350, .int p333351]) := (hfr334100 q333330 hm333343 (nm_c (rn_oa he334072 he334088) nm_n)).trans he334072
                                  have he334109 : F334098 q276665 = .inr (22, [.ref (γ 9 0), .ref (γ 9 1), .ref (γ 9 2), .ref (γ 9 3), .ref (γ 9 4), .ref (γ 9 5), .ref (γ 9 6), .ref (γ 9 7), .ref (γ 9 8), .int p276674, .int p276675, .int p276676, .int p276677, .int p276678, .int p276679, .ref (γ 9 15), .ref (γ 9 16), .ref (γ 9 17), .ref (γ 9 18), .ref (γ 9 19), .ref (γ 9 20), .ref (γ 9 21), .ref (γ 9 22), .int p276680, .int p276681, .int p276682, .int p276683, .int p276684, .ref q276672, .ref (γ 9 29), .int p276685, .ref (γ 9 31), .int p276686, .int p276687, .int p276688, .ref q276673]) := (hfr334100 q276665 hm334075 (nm_c (rn_oa he334074 he334088) nm_n)).trans he334074
                                  have he334110 : F334098 (γ 9 1) = .inl (I (.array .long), 2000, .inr (.inr (.inr (.inr f334082)))) := (hfr334100 (γ 9 1) hm334080 (nm_c (rn_ref_long he334081 he334088) nm_n)).trans he334081
                                  have hfr334111 : rFr [q334084] P276663 F334059 F334098 := rFr_call (rSub_rf (P := P276663)) (rFr_rf (W := []) (P := P276663) (F := F334059)) hfr334100 (fun b hb hn => ⟨nm_n, (nm_c (fun e => hn (e ▸ List.mem_cons_self)) nm_n)⟩)
                                  change G _ _ _ _ _ _ _ _ _ _ _
                                  refine G_widen (cs' := 0) (sl' := 0) (by omega) (by omega) ?_
                                  have hT334112 : RS D I P276663 F334098 γ el := RS_fr hT334060 hfr334111 ht334085 (by decide) ⟨f334095, he334101, x334096⟩
                                  have hs334113 : rStr γ [] F276664 F334098 := rStr_fr hT334060 hs334061 hfr334111 ht334085 (by decide)
                                  have kp334114 : F334098 q276665 = F276664 q276665 := (hfr334111 q276665 (RS_m hT334060 htq276665 (by decide)) (nm_c (rn_ty htq276665 ht334085 (by decide)) nm_n)).trans x334063
                                  have kp334115 : F334098 (γ 9 3) = F334059 (γ 9 3) := hfr334111 (γ 9 3) (RS_m hT334060 ht276694 (by decide)) (nm_c (rn_ty ht276694 ht334085 (by decide)) nm_n)
                                  refine G_aload_n 8 dr_cX17_graph_277 rfl ?_
                                  refine G_aload 4 dr_cX17_graph_278 rfl ?_
                                  refine G_iload_n 10 dr_cX17_graph_280 rfl ?_
                                  refine Gw_callV (As := [.ref q333330, .int p276667]) (gV_ok D I) (ct_283500_SpillForgeModel_back l hl0 D I γ el P276663 F334098 q276665 q333330 p276667 hT334112 htq276665 ht333333 (gB_w bp276667' (by decide) (by decide))) dr_cX17_graph_281 ⟨wr_10_174, wr_1_14, wr_10_177, by decide, rfl, (Nat.le_of_ble_eq_true rfl), (Nat.le_of_ble_eq_true rfl)⟩ wr_10_176 wr_p_96 hm334075 he334109 rfl (show 0 + 0 ≤ 0 by first | omega | decide) (show 0 + 0 ≤ 0 by first | omega | decide) (Nat.le_of_ble_eq_true rfl) (fun r334119 w334120 dc334116 ds334117 hp334118 => ?_) (fun _ _ _ _ _ z => z.elim)
                                  obtain ⟨F334124, rfl, rfl, hT334125, hs334126, hdc, hds, x334121, x334122, ht334123⟩ := hp334118
                                  have he334127 : F334124 q276666 = .inr (18, [.ref q330825, .ref q330826, .int p330827, .int p330828]) := (hs334126 q276666 (rT0 htq276666 (by decide)) (rT1 htq276666 (by decide)) (rT2 htq276666 (by decide))).trans he334102
                                  have he334128 : F334124 q330825 = .inr (4, [.int p331472, .ref q331474, .int p331473]) := (hs334126 q330825 (rT0 ht330829 (by decide)) (rT1 ht330829 (by decide)) (rT2 ht330829 (by decide))).trans he334103
                                  have he334129 : F334124 q331474 = .inl (I (.object "java/lang/Object"), n331488, .inr (.inr (.inr (.inr f331489)))) := (hs334126 q331474 (rT0 r331480 (by decide)) (rT1 r331480 (by decide)) (rT2 r331480 (by decide))).trans he334104
                                  have he334130 : F334124 q331491 = .inr (17, [.ref q331501, .ref q331502, .int p331503, .int p331504]) := (hs334126 q331491 (rT0 ht331497 (by decide)) (rT1 ht331497 (by decide)) (rT2 ht331497 (by decide))).trans he334105
                                  have he334131 : F334124 q331501 = .inr (4, [.int p333311, .ref q333313, .int p333312]) := (hs334126 q331501 (rT0 ht331505 (by decide)) (rT1 ht331505 (by decide)) (rT2 ht331505 (by decide))).trans he334106
                                  have he334132 : F334124 q333313 = .inl (I (.object "java/lang/Object"), n333327, .inr (.inr (.inr (.inr f333328)))) := (hs334126 q333313 (rT0 r333319 (by decide)) (rT1 r333319 (by decide)) (rT2 r333319 (by decide))).trans he334107
                                  have he334133 : F334124 q333330 = .inr (20, [.int p333345, .int p333346, .int p333347, .int p333348, .int p333349, .int p333350, .int p333351]) := (hs334126 q333330 (rT0 ht333333 (by decide)) (rT1 ht333333 (by decide)) (rT2 ht333333 (by decide))).trans he334108
                                  have hs334134 : rStr γ [] F276664 F334124 := rStr_tr hs334113 hs334126
                                  have kp334135 : F334124 q276665 = F276664 q276665 := (x334121).trans kp334114
                                  have kp334136 : F334124 (γ 9 3) = F334059 (γ 9 3) := (x334122).trans kp334115
                                  have he334137 : F334124 q276665 = .inr (22, [.ref (γ 9 0), .ref (γ 9 1), .ref (γ 9 2), .ref (γ 9 3), .ref (γ 9 4), .ref (γ 9 5), .ref (γ 9 6), .ref (γ 9 7), .ref (γ 9 8), .int p276674, .int p276675, .int p276676, .int p276677, .int p276678, .int p276679, .ref (γ 9 15), .ref (γ 9 16), .ref (γ 9 17), .ref (γ 9 18), .ref (γ 9 19), .ref (γ 9 20), .ref (γ 9 21), .ref (γ 9 22), .int p276680, .int p276681, .int p276682, .int p276683, .int p276684, .ref q276672, .ref (γ 9 29), .int p276685, .ref (γ 9 31), .int p276686, .int p276687, .int p276688, .ref q276673]) := (x334121).trans he334109
                                  change G _ _ _ _ _ _ _ _ _ _ _
                                  refine G_widen (cs' := 0) (sl' := 0) (by omega) (by omega) ?_
                                  obtain ⟨z334138, hz334138⟩ : ∃ z : Int32, z = g333285 + Int32.ofInt (-1) := ⟨_, rfl⟩
                                  have ez334138 : z334138.toInt = g333285.toInt + (-1) := gI_inc hz334138 (by decide) bg333285' (by decide) (by decide)
                                  have bz334138 : gB z334138 (-1) 999998 := ⟨by omega, by omega⟩
                                  refine G_iinc (L' := [(5, .int z334138), (10, .int g334058), (9, .int 0), (8, .int (-1)), (7, .int o333390), (6, .ref q333330), (4, .ref q331491), (3, .int g330812), (0, .ref q276665), (1, .ref q276666), (2, .int p276667)]) z334138 5 dr_cX17_graph_284 rfl hz334138.symm (Nat.le_of_ble_eq_true rfl) rfl ?_
                                  refine G_goto 109 dr_cX17_graph_287 (by decide +kernel) ?_
                                  refine G_lv (L' := [(5, .int z334138), (4, .ref q331491), (3, .int g330812), (0, .ref q276665), (1, .ref q276666), (2, .int p276667)]) [0, 6, 7, 8, 9, 10] rfl ?_
                                  exact ih109_333291 F334124 z334138 (gB_w bz334138 (by decide) (by decide)) hT334125 hs334134 (by omega) (fun h0 => by have z := x334062 h0; rw [← kp334136] at z; rw [show ((g333285.toInt : Int).toNat : Nat) = (z334138.toInt + 1 : Int).toNat by omega] at z; exact z) kp334135 (fun k e1 ht => kt109_333292 k e1 (fun R c1 c2 c3 c4 c5 c6 c7 c8 c9 c10 c11 => c7 F333286 g333285 q331501 q333330 p333312 F333365 p333345 p333346 p333349 o333390 p333350 F334059 q334084 f334089 f334095 F334098 F334124 z334138 k e1 bg333285 hT333287 hs333288 x333289 x333290 x333291 r333306 fq333307 hx333331 fq333335 ht333341 hT333366 hs333367 x333362 x333363 ht333364 fq333382 fq333383 fq333384 bo333390 ht333391 r333653 r333915 fq333916 r333918 r333944 hx334078 fq334079 hx334086 he334088 ht334097 hfr334111 he334101 hT334112 hT334125 hs334126 x334121 x334122 ht334123 ez334138 (ht R c1 c2 c3 c4 c5 c6 c7 c8 c9 c10 c11))) (mz_dn ez334138 (Int.le_trans (by decide) bg333285'.1) hm109_333291)
                                · have r334139 : g334058.toInt < 32 := gj_nleL hc334076 (show Int32.toInt 32 = 32 by decide)
                                  have bg334058' : gB g334058 0 31 := ⟨by omega, by omega⟩
                                  refine G_aload_n 8 dr_cX17_graph_217 rfl ?_
                                  have fq334140 : fR (F334059 q276665) 1 = (γ 9 1) := by rw [he334074]; rfl
                                  refine Gp_get 1 hm334075 he334074 dr_cX17_graph_218 (gk_X17 D I) (Nat.le_of_ble_eq_true rfl) wr_7_75 rfl ?_
                                  refine G_iload 3 dr_cX17_graph_221 rfl ?_
                                  have hm334141 : (γ 9 1) ∈ P276663 := RS_m hT334060 ht276692 (by decide)
                                  obtain ⟨f334143, he334142, hg334144⟩ := show rk_13 I γ (F334059 (γ 9 1)) from RS_o hT334060 ht276692
                                  obtain ⟨q334145, hx334147⟩ : ∃ x, x = γ 11 o333390.toInt.toNat := ⟨_, rfl⟩
                                  have ht334146 : rKd γ q334145 36 := by rw [hx334147]; exact (hg334144 _ (show o333390.toInt.toNat < 2000 by omega)).2.1
                                  refine Gp_aald 5 hm334141 he334142 dr_cX17_graph_223 rfl rfl (gB_in bo333390' (by decide) (by decide)) ?_
                                  rw [show f334143 o333390.toNatClampNeg = some q334145 from (hg334144 _ (show o333390.toInt.toNat < 2000 by omega)).1.trans (by rw [hx334147])]
                                  change G _ _ _ _ _ _ _ (.ref q334145 :: _) _ _ _
                                  refine G_iload 0 dr_cX17_graph_224 rfl ?_
                                  refine G_dup2_11 dr_cX17_graph_226 rfl rfl ?_
                                  have hm334148 : q334145 ∈ P276663 := RS_m hT334060 ht334146 (by decide)
                                  obtain ⟨f334150, he334149, wf334150⟩ := show rk_36 I (F334059 q334145) from RS_o hT334060 ht334146
                                  refine Gp_lald 2 hm334148 he334149 dr_cX17_graph_227 rfl (gB_in bg334058' (by decide) (by decide)) (G_namL fun u334151 hu334151 => ?_)
                                  have qu334151 : lb_Q u334151 (2000 - 64 * g334058.toInt) := lb_Wld hu334151 wf334150 (by omega) (by omega) (lb_Mod0 (by omega) (by omega))
                                  refine G_aload_n 8 dr_cX17_graph_228 rfl ?_
                                  have fq334152 : fR (F334059 q276665) 2 = (γ 9 2) := by rw [he334074]; rfl
                                  refine Gp_get 2 hm334075 he334074 dr_cX17_graph_229 (gk_X17 D I) (Nat.le_of_ble_eq_true rfl) wr_7_76 rfl ?_
                                  refine G_iload 0 dr_cX17_graph_232 rfl ?_
                                  have hm334153 : (γ 9 2) ∈ P276663 := RS_m hT334060 ht276693 (by decide)
                                  obtain ⟨f334155, he334154, wf334155⟩ := show rk_35 I (F334059 (γ 9 2)) from RS_o hT334060 ht276693
                                  refine Gp_lald 2 hm334153 he334154 dr_cX17_graph_234 rfl (gB_in bg334058' (by decide) (by decide)) (G_namL fun u334156 hu334156 => ?_)
                                  have qu334156 : lb_Q u334156 (2000 - 64 * g334058.toInt) := lb_Wld hu334156 wf334155 (by omega) (by omega) (lb_Mod0 (by omega) (by omega))
                                  refine G_lor dr_cX17_graph_235 (G_namL fun u334157 hu334157 => ?_)
                                  have qu334157 : lb_Q u334157 (2000 - 64 * g334058.toInt) := lb_Qor hu334157 qu334151 qu334156
                                  refine Gp_last 2 hm334148 he334149 dr_cX17_graph_236 rfl (gB_in bg334058' (by decide) (by decide)) (fun F334158 e334159 n334160 => ?_)
                                  obtain ⟨f334161, hf334161⟩ : ∃ z, z = vp_updL f334150 g334058.toNatClampNeg u334157 := ⟨_, rfl⟩
                                  rw [← hf334161] at e334159
                                  have he334162 : F334158 q276666 = .inr (18, [.ref q330825, .ref q330826, .int p330827, .int p330828]) := (n334160 q276666 (rn_oa he334066 he334149)).trans he334066
                                  have he334163 : F334158 q330825 = .inr (4, [.int p331472, .ref q331474, .int p331473]) := (n334160 q330825 (rn_oa he334067 he334149)).trans he334067
                                  have he334164 : F334158 q331474 = .inl (I (.object "java/lang/Object"), n331488, .inr (.inr (.inr (.inr f331489)))) := (n334160 q331474 (rn_ref_long he334068 he334149)).trans he334068
                                  have he334165 : F334158 q331491 = .inr (17, [.ref q331501, .ref q331502, .int p331503, .int p331504]) := (n334160 q331491 (rn_oa he334069 he334149)).trans he334069
                                  have he334166 : F334158 q331501 = .inr (4, [.int p333311, .ref q333313, .int p333312]) := (n334160 q331501 (rn_oa he334070 he334149)).trans he334070
                                  have he334167 : F334158 q333313 = .inl (I (.object "java/lang/Object"), n333327, .inr (.inr (.inr (.inr f333328)))) := (n334160 q333313 (rn_ref_long he334071 he334149)).trans he334071
                                  have he334168 : F334158 q333330 = .inr (20, [.int p333345, .int p333346, .int p333347, .int p333348, .int p333349, .int p333350, .int p333351]) := (n334160 q333330 (rn_oa he334072 he334149)).trans he334072
                                  have he334169 : F334158 q276665 = .inr (22, [.ref (γ 9 0), .ref (γ 9 1), .ref (γ 9 2), .ref (γ 9 3), .ref (γ 9 4), .ref (γ 9 5), .ref (γ 9 6), .ref (γ 9 7), .ref (γ 9 8), .int p276674, .int p276675, .int p276676, .int p276677, .int p276678, .int p276679, .ref (γ 9 15), .ref (γ 9 16), .ref (γ 9 17), .ref (γ 9 18), .ref (γ 9 19), .ref (γ 9 20), .ref (γ 9 21), .ref (γ 9 22), .int p276680, .int p276681, .int p276682, .int p276683, .int p276684, .ref q276672, .ref (γ 9 29), .int p276685, .ref (γ 9 31), .int p276686, .int p276687, .int p276688, .ref q276673]) := (n334160 q276665 (rn_oa he334074 he334149)).trans he334074
                                  have he334170 : F334158 (γ 9 1) = .inl (I (.array .long), 2000, .inr (.inr (.inr (.inr f334143)))) := (n334160 (γ 9 1) (rn_ref_long he334142 he334149)).trans he334142
                                  have he334171 : F334158 (γ 9 2) = .inl (I .long, 32, .inr (.inl f334155)) := (n334160 (γ 9 2) (rn_ty ht276693 ht334146 (by decide))).trans he334154
                                  have he334172 : F334158 q334145 = .inl (I .long, 32, .inr (.inl f334161)) := e334159
                                  have hs334173 : rStr γ [] F276664 F334158 := rStr_put hs334061 n334160 ht334146 (by decide)
                                  have kp334174 : F334158 q276665 = F276664 q276665 := (n334160 q276665 (rn_ty htq276665 ht334146 (by decide))).trans x334063
                                  have kp334175 : F334158 (γ 9 3) = F334059 (γ 9 3) := n334160 (γ 9 3) (rn_ty ht276694 ht334146 (by decide))
                                  have wf334161 : lb_W f334161 (32) (32) (2000) := lb_Wst hf334161 wf334150 (by omega) (lb_Mod0 (by omega) (by omega)) qu334157
                                  obtain ⟨z334176, hz334176⟩ : ∃ z : Int32, z = g334058 + Int32.ofInt 1 := ⟨_, rfl⟩
                                  have ez334176 : z334176.toInt = g334058.toInt + 1 := gI_inc hz334176 (by decide) bg334058' (by decide) (by decide)
                                  have bz334176 : gB z334176 1 32 := ⟨by omega, by omega⟩
                                  refine G_iinc (L' := [(10, .int z334176), (9, .int 0), (8, .int (-1)), (7, .int o333390), (6, .ref q333330), (5, .int g333285), (4, .ref q331491), (3, .int g330812), (0, .ref q276665), (1, .ref q276666), (2, .int p276667)]) z334176 0 dr_cX17_graph_237 rfl hz334176.symm (Nat.le_of_ble_eq_true rfl) rfl ?_
                                  refine G_goto 210 dr_cX17_graph_240 (by decide +kernel) ?_
                                  have hT334177 : RS D I P276663 F334158 γ el := RS_set hT334060 n334160 ht334146 (by decide) ⟨f334161, he334172, wf334161⟩
                                  exact ih210_334063 F334158 z334176 (gB_w bz334176 (by decide) (by decide)) hT334177 hs334173 (by rw [kp334175]; exact x334062) kp334174 (fun k e1 ht => kt210_334064 k e1 (fun R c1 c2 => c2 F334059 g334058 q334145 f334150 u334151 f334155 u334156 u334157 f334161 F334158 z334176 k e1 bg334058 hT334060 hs334061 x334062 x334063 r334139 fq334140 hx334147 he334149 hu334151 fq334152 he334154 hu334156 hu334157 hf334161 n334160 he334172 ez334176 (ht R c1 c2))) (mz_up ez334176 (Int.le_trans bg334058'.2 (by decide)) hm210_334063)
                            exact hlp210_334063 (((33 : Int) - 0).toNat + 1) F333365 0 (gB_w (gBl (show Int32.toInt 0 = 0 by decide)) (by decide) (by decide)) hT333366 hs333375 gr333381 kp333376 (fun k e1 ht => ht) (Nat.lt_succ_self _)
                        · have r334178 : p333350.toInt ≠ 0 := gj_neq hc333917 (show Int32.toInt 0 = 0 by decide)
                          have bp333350' : gB p333350 1 1 := gB_t1 bp333350 r334178
                          refine G_aload 1 dr_cX17_graph_164 rfl ?_
                          have fq334179 : fI (F333365 q333330) 2 = p333347 := by rw [he333374]; rfl
                          refine Gp_get 2 hm333343 he333374 dr_cX17_graph_166 (gk_X15 D I) (Nat.le_of_ble_eq_true rfl) wr_9_186 rfl ?_
                          refine G_goto 173 dr_cX17_graph_169 (by decide +kernel) ?_
                          refine G_istore (L' := [(8, .int p333347), (7, .int o333390), (6, .ref q333330), (5, .int g333285), (4, .ref q331491), (3, .int g330812), (0, .ref q276665), (1, .ref q276666), (2, .int p276667)]) dr_cX17_graph_173 (Nat.le_of_ble_eq_true rfl) rfl ?_
                          refine G_iload 1 dr_cX17_graph_175 rfl ?_
                          refine G_if_lt 277 dr_cX17_graph_177 (by decide +kernel) (fun hc334180 => ?_) (fun hc334180 => ?_)
                          · have r334181 : o333390.toInt < 0 := gj_lt hc334180 (show Int32.toInt 0 = 0 by decide)
                            have bo333390' : gB o333390 (-1) (-1) := ⟨by omega, by omega⟩
                            refine G_aload_n 6 dr_cX17_graph_277 rfl ?_
                            refine G_aload 2 dr_cX17_graph_278 rfl ?_
                            refine G_iload_n 8 dr_cX17_graph_280 rfl ?_
                            refine Gw_callV (As := [.ref q333330, .int p276667]) (gV_ok D I) (ct_283500_SpillForgeModel_back l hl0 D I γ el P276663 F333365 q276665 q333330 p276667 hT333366 htq276665 ht333333 (gB_w bp276667' (by decide) (by decide))) dr_cX17_graph_281 ⟨wr_10_174, wr_1_14, wr_10_177, by decide, rfl, (Nat.le_of_ble_eq_true rfl), (Nat.le_of_ble_eq_true rfl)⟩ wr_10_176 wr_p_96 hm333301 he333377 rfl (show 0 + 0 ≤ 0 by first | omega | decide) (show 0 + 0 ≤ 0 by first | omega | decide) (Nat.le_of_ble_eq_true rfl) (fun r334185 w334186 dc334182 ds334183 hp334184 => ?_) (fun _ _ _ _ _ z => z.elim)
                            obtain ⟨F334190, rfl, rfl, hT334191, hs334192, hdc, hds, x334187, x334188, ht334189⟩ := hp334184
                            have he334193 : F334190 q276666 = .inr (18, [.ref q330825, .ref q330826, .int p330827, .int p330828]) := (hs334192 q276666 (rT0 htq276666 (by decide)) (rT1 htq276666 (by decide)) (rT2 htq276666 (by decide))).trans he333368
                            have he334194 : F334190 q330825 = .inr (4, [.int p331472, .ref q331474, .int p331473]) := (hs334192 q330825 (rT0 ht330829 (by decide)) (rT1 ht330829 (by decide)) (rT2 ht330829 (by decide))).trans he333369
                            have he334195 : F334190 q331474 = .inl (I (.object "java/lang/Object"), n331488, .inr (.inr (.inr (.inr f331489)))) := (hs334192 q331474 (rT0 r331480 (by decide)) (rT1 r331480 (by decide)) (rT2 r331480 (by decide))).trans he333370
                            have he334196 : F334190 q331491 = .inr (17, [.ref q331501, .ref q331502, .int p331503, .int p331504]) := (hs334192 q331491 (rT0 ht331497 (by decide)) (rT1 ht331497 (by decide)) (rT2 ht331497 (by decide))).trans he333371
                            have he334197 : F334190 q331501 = .inr (4, [.int p333311, .ref q333313, .int p333312]) := (hs334192 q331501 (rT0 ht331505 (by decide)) (rT1 ht331505 (by decide)) (rT2 ht331505 (by decide))).trans he333372
                            have he334198 : F334190 q333313 = .inl (I (.object "java/lang/Object"), n333327, .inr (.inr (.inr (.inr f333328)))) := (hs334192 q333313 (rT0 r333319 (by decide)) (rT1 r333319 (by decide)) (rT2 r333319 (by decide))).trans he333373
                            have he334199 : F334190 q333330 = .inr (20, [.int p333345, .int p333346, .int p333347, .int p333348, .int p333349, .int p333350, .int p333351]) := (hs334192 q333330 (rT0 ht333333 (by decide)) (rT1 ht333333 (by decide)) (rT2 ht333333 (by decide))).trans he333374
                            have hs334200 : rStr γ [] F276664 F334190 := rStr_tr hs333375 hs334192
                            have kp334201 : F334190 q276665 = F276664 q276665 := (x334187).trans kp333376
                            have kp334202 : F334190 (γ 9 3) = F333365 (γ 9 3) := x334188
                            have he334203 : F334190 q276665 = .inr (22, [.ref (γ 9 0), .ref (γ 9 1), .ref (γ 9 2), .ref (γ 9 3), .ref (γ 9 4), .ref (γ 9 5), .ref (γ 9 6), .ref (γ 9 7), .ref (γ 9 8), .int p276674, .int p276675, .int p276676, .int p276677, .int p276678, .int p276679, .ref (γ 9 15), .ref (γ 9 16), .ref (γ 9 17), .ref (γ 9 18), .ref (γ 9 19), .ref (γ 9 20), .ref (γ 9 21), .ref (γ 9 22), .int p276680, .int p276681, .int p276682, .int p276683, .int p276684, .ref q276672, .ref (γ 9 29), .int p276685, .ref (γ 9 31), .int p276686, .int p276687, .int p276688, .ref q276673]) := (x334187).trans he333377
                            change G _ _ _ _ _ _ _ _ _ _ _
                            refine G_widen (cs' := 0) (sl' := 0) (by omega) (by omega) ?_
                            obtain ⟨z334204, hz334204⟩ : ∃ z : Int32, z = g333285 + Int32.ofInt (-1) := ⟨_, rfl⟩
                            have ez334204 : z334204.toInt = g333285.toInt + (-1) := gI_inc hz334204 (by decide) bg333285' (by decide) (by decide)
                            have bz334204 : gB z334204 (-1) 999998 := ⟨by omega, by omega⟩
                            refine G_iinc (L' := [(5, .int z334204), (8, .int p333347), (7, .int o333390), (6, .ref q333330), (4, .ref q331491), (3, .int g330812), (0, .ref q276665), (1, .ref q276666), (2, .int p276667)]) z334204 3 dr_cX17_graph_284 rfl hz334204.symm (Nat.le_of_ble_eq_true rfl) rfl ?_
                            refine G_goto 109 dr_cX17_graph_287 (by decide +kernel) ?_
                            refine G_lv (L' := [(5, .int z334204), (4, .ref q331491), (3, .int g330812), (0, .ref q276665), (1, .ref q276666), (2, .int p276667)]) [0, 4, 5, 6, 7, 8] rfl ?_
                            exact ih109_333291 F334190 z334204 (gB_w bz334204 (by decide) (by decide)) hT334191 hs334200 (by omega) (fun h0 => by have z := gr333381 h0; rw [← kp334202] at z; rw [show ((g333285.toInt : Int).toNat : Nat) = (z334204.toInt + 1 : Int).toNat by omega] at z; exact z) kp334201 (fun k e1 ht => kt109_333292 k e1 (fun R c1 c2 c3 c4 c5 c6 c7 c8 c9 c10 c11 => c8 F333286 g333285 q331501 q333330 p333312 F333365 p333345 p333346 p333349 o333390 p333350 F334190 z334204 k e1 bg333285 hT333287 hs333288 x333289 x333290 x333291 r333306 fq333307 hx333331 fq333335 ht333341 hT333366 hs333367 x333362 x333363 ht333364 fq333382 fq333383 fq333384 bo333390 ht333391 r333653 r333915 fq333916 r334178 r334181 hT334191 hs334192 x334187 x334188 ht334189 ez334204 (ht R c1 c2 c3 c4 c5 c6 c7 c8 c9 c10 c11))) (mz_dn ez334204 (Int.le_trans (by decide) bg333285'.1) hm109_333291)
                          · have r334205 : 0 ≤ o333390.toInt := gj_nlt hc334180 (show Int32.toInt 0 = 0 by decide)
                            have bo333390' : gB o333390 0 1999 := ⟨by omega, by omega⟩
                            refine G_iload 0 dr_cX17_graph_180 rfl ?_
                            refine G_if_lt 204 dr_cX17_graph_182 (by decide +kernel) (fun hc334206 => ?_) (fun hc334206 => ?_)
                            · have r334207 : p333347.toInt < 0 := gj_lt hc334206 (show Int32.toInt 0 = 0 by decide)
                              have bp333347' : gB p333347 (-2147483648) (-1) := ⟨by omega, by omega⟩
                              refine G_iconst 0 dr_cX17_graph_204 (by decide +kernel) ?_
                              refine G_istore (L' := [(9, .int 0), (8, .int p333347), (7, .int o333390), (6, .ref q333330), (5, .int g333285), (4, .ref q331491), (3, .int g330812), (0, .ref q276665), (1, .ref q276666), (2, .int p276667)]) dr_cX17_graph_205 (Nat.le_of_ble_eq_true rfl) rfl ?_
                              refine G_iconst 0 dr_cX17_graph_207 (by decide +kernel) ?_
                              refine G_istore (L' := [(10, .int 0), (9, .int 0), (8, .int p333347), (7, .int o333390), (6, .ref q333330), (5, .int g333285), (4, .ref q331491), (3, .int g330812), (0, .ref q276665), (1, .ref q276666), (2, .int p276667)]) dr_cX17_graph_208 (Nat.le_of_ble_eq_true rfl) rfl ?_
                              have hlp210_334326 : ∀ (n210_334326 : Nat) (F334322 : Nat → va_E) (g334321 : Int32), gB g334321 0 32 → RS D I P276663 F334322 γ el → rStr γ [] F276664 F334322 → (gIp (p276667.toInt = 0) (rGr γ el F276664 q276666 (γ 6 (γ 1 q276666)) (cB (F334322 (γ 9 3))) (vB (g330812.toInt : Int).toNat (g333285.toInt : Int).toNat))) → (F334322 q276665 = F276664 q276665) → (∀ (k : Nat) (e1 : Nat → va_E), tl_RModel_graph_210_4 D I γ el P276663 F276664 p276667 q276666 g330812 g333285 q276665 o333390 F334322 g334321 k e1 → tl_RModel_graph_210_4 D I γ el P276663 F276664 p276667 q276666 g330812 g333285 q276665 o333390 F333365 (0 : Int32) k e1) → ((33 : Int) - g334321.toInt).toNat < n210_334326 → G (gV D I) l (gRm 5 111 0 0) (gMA (gV D I) (pt_276669_SpillForgeModel_graph D I γ el P276663 F276664 q276665 q276666 p276667) gNA 0 0) ky_276669_SpillForgeModel_graph 210 [(10, .int g334321), (9, .int 0), (8, .int p333347), (7, .int o333390), (6, .ref q333330), (5, .int g333285), (4, .ref q331491), (3, .int g330812), (0, .ref q276665), (1, .ref q276666), (2, .int p276667)] [] (va_pl P276663 F334322) 0 0 := by
                                intro n210_334326
                                induction n210_334326 with
                                | zero => intro F334322 g334321 bg334321 hT334323 hs334324 x334325 x334326 kt210_334327 hm210_334326; exact absurd hm210_334326 (Nat.not_lt_zero _)
                                | succ n210_334326 ih210_334326 =>
                                  intro F334322 g334321 bg334321 hT334323 hs334324 x334325 x334326 kt210_334327 hm210_334326
                                  have hs334328 : rStr γ [] F333365 F334322 := fun b h0 hb hw => (hs334324 b h0 hb hw).trans (hs333375 b h0 hb hw).symm
                                  have he334329 : F334322 q276666 = .inr (18, [.ref q330825, .ref q330826, .int p330827, .int p330828]) := (hs334328 q276666 (rT0 htq276666 (by decide)) (rT1 htq276666 (by decide)) (rT2 htq276666 (by decide))).trans he333368
                                  have he334330 : F334322 q330825 = .inr (4, [.int p331472, .ref q331474, .int p331473]) := (hs334328 q330825 (rT0 ht330829 (by decide)) (rT1 ht330829 (by decide)) (rT2 ht330829 (by decide))).trans he333369
                                  have he334331 : F334322 q331474 = .inl (I (.object "java/lang/Object"), n331488, .inr (.inr (.inr (.inr f331489)))) := (hs334328 q331474 (rT0 r331480 (by decide)) (rT1 r331480 (by decide)) (rT2 r331480 (by decide))).trans he333370
                                  have he334332 : F334322 q331491 = .inr (17, [.ref q331501, .ref q331502, .int p331503, .int p331504]) := (hs334328 q331491 (rT0 ht331497 (by decide)) (rT1 ht331497 (by decide)) (rT2 ht331497 (by decide))).trans he333371
                                  have he334333 : F334322 q331501 = .inr (4, [.int p333311, .ref q333313, .int p333312]) := (hs334328 q331501 (rT0 ht331505 (by decide)) (rT1 ht331505 (by decide)) (rT2 ht331505 (by decide))).trans he333372
                                  have he334334 : F334322 q333313 = .inl (I (.object "java/lang/Object"), n333327, .inr (.inr (.inr (.inr f333328)))) := (hs334328 q333313 (rT0 r333319 (by decide)) (rT1 r333319 (by decide)) (rT2 r333319 (by decide))).trans he333373
                                  have he334335 : F334322 q333330 = .inr (20, [.int p333345, .int p333346, .int p333347, .int p333348, .int p333349, .int p333350, .int p333351]) := (hs334328 q333330 (rT0 ht333333 (by decide)) (rT1 ht333333 (by decide)) (rT2 ht333333 (by decide))).trans he333374
                                  have hs334336 : rStr γ [] F276664 F334322 := rStr_tr hs333375 hs334328
                                  have he334337 : F334322 q276665 = .inr (22, [.ref (γ 9 0), .ref (γ 9 1), .ref (γ 9 2), .ref (γ 9 3), .ref (γ 9 4), .ref (γ 9 5), .ref (γ 9 6), .ref (γ 9 7), .ref (γ 9 8), .int p276674, .int p276675, .int p276676, .int p276677, .int p276678, .int p276679, .ref (γ 9 15), .ref (γ 9 16), .ref (γ 9 17), .ref (γ 9 18), .ref (γ 9 19), .ref (γ 9 20), .ref (γ 9 21), .ref (γ 9 22), .int p276680, .int p276681, .int p276682, .int p276683, .int p276684, .ref q276672, .ref (γ 9 29), .int p276685, .ref (γ 9 31), .int p276686, .int p276687, .int p276688, .ref q276673]) := x334326.trans he276671
                                  have hm334338 : q276665 ∈ P276663 := RS_m hT334323 htq276665 (by decide)
                                  refine G_iload 0 dr_cX17_graph_210 rfl ?_
                                  refine G_bipush 32 dr_cX17_graph_212 (by decide +kernel) ?_
                                  refine G_icmp_ge 243 dr_cX17_graph_214 (by decide +kernel) (fun hc334339 => ?_) (fun hc334339 => ?_)
                                  · have r334340 : 32 ≤ g334321.toInt := gj_leL hc334339 (show Int32.toInt 32 = 32 by decide)
                                    have bg334321' : gB g334321 32 32 := ⟨by omega, by omega⟩
                                    have hx334341 : tl_RModel_graph_210_4 D I γ el P276663 F276664 p276667 q276666 g330812 g333285 q276665 o333390 F333365 (0 : Int32) 243 F334322 := kt210_334327 243 F334322 (fun R c1 c2 => c1 F334322 g334321 bg334321 hT334323 hs334324 x334325 x334326 r334340)
                                    refine G_iload 2 dr_cX17_graph_243 rfl ?_
                                    refine G_if_lt 265 dr_cX17_graph_245 (by decide +kernel) (fun _ => ?_) (fun hc => absurd (show False by have := gj_nlt hc (show Int32.toInt 0 = 0 by decide); omega) not_false)
                                    refine G_aload_n 8 dr_cX17_graph_265 rfl ?_
                                    have fq334342 : fR (F334322 q276665) 1 = (γ 9 1) := by rw [he334337]; rfl
                                    refine Gp_get 1 hm334338 he334337 dr_cX17_graph_266 (gk_X17 D I) (Nat.le_of_ble_eq_true rfl) wr_7_75 rfl ?_
                                    refine G_iload 3 dr_cX17_graph_269 rfl ?_
                                    have hm334343 : (γ 9 1) ∈ P276663 := RS_m hT334323 ht276692 (by decide)
                                    obtain ⟨f334345, he334344, hg334346⟩ := show rk_13 I γ (F334322 (γ 9 1)) from RS_o hT334323 ht276692
                                    obtain ⟨q334347, hx334349⟩ : ∃ x, x = γ 11 o333390.toInt.toNat := ⟨_, rfl⟩
                                    have ht334348 : rKd γ q334347 36 := by rw [hx334349]; exact (hg334346 _ (show o333390.toInt.toNat < 2000 by omega)).2.1
                                    refine Gp_aald 5 hm334343 he334344 dr_cX17_graph_271 rfl rfl (gB_in bo333390' (by decide) (by decide)) ?_
                                    rw [show f334345 o333390.toNatClampNeg = some q334347 from (hg334346 _ (show o333390.toInt.toNat < 2000 by omega)).1.trans (by rw [hx334349])]
                                    change G _ _ _ _ _ _ _ (.ref q334347 :: _) _ _ _
                                    refine G_iload 3 dr_cX17_graph_272 rfl ?_
                                    have hm334350 : q334347 ∈ P276663 := RS_m hT334323 ht334348 (by decide)
                                    obtain ⟨f334352, he334351, wf334352⟩ := show rk_36 I (F334322 q334347) from RS_o hT334323 ht334348
                                    refine Gw_callS (As := [.ref q334347, .int o333390]) (gV_ok D I) (cp_1880_SpillForgeModel_clear l hl0 D I P276663 F334322 q334347 o333390 f334352 hm334350 he334351 bo333390' wf334352) dr_cX17_graph_274 ⟨wr_10_185, wr_1_14, wr_10_187, by decide, rfl, (Nat.le_of_ble_eq_true rfl), (Nat.le_of_ble_eq_true rfl)⟩ wr_10_186 (show 0 + 0 ≤ 0 by first | omega | decide) (show 0 + 0 ≤ 0 by first | omega | decide) (Nat.le_of_ble_eq_true rfl) (fun r334356 w334357 dc334353 ds334354 hp334355 => ?_) (fun _ _ _ _ _ z => z.elim)
                                    obtain ⟨F334361, f334358, rfl, rfl, hfr334363, he334364, hdc, hds, x334359, ht334360⟩ := hp334355
                                    have he334365 : F334361 q276666 = .inr (18, [.ref q330825, .ref q330826, .int p330827, .int p330828]) := (hfr334363 q276666 hm330823 (nm_c (rn_oa he334329 he334351) nm_n)).trans he334329
                                    have he334366 : F334361 q330825 = .inr (4, [.int p331472, .ref q331474, .int p331473]) := (hfr334363 q330825 hm331470 (nm_c (rn_oa he334330 he334351) nm_n)).trans he334330
                                    have he334367 : F334361 q331474 = .inl (I (.object "java/lang/Object"), n331488, .inr (.inr (.inr (.inr f331489)))) := (hfr334363 q331474 hm331490 (nm_c (rn_ref_long he334331 he334351) nm_n)).trans he334331
                                    have he334368 : F334361 q331491 = .inr (17, [.ref q331501, .ref q331502, .int p331503, .int p331504]) := (hfr334363 q331491 hm331499 (nm_c (rn_oa he334332 he334351) nm_n)).trans he334332
                                    have he334369 : F334361 q331501 = .inr (4, [.int p333311, .ref q333313, .int p333312]) := (hfr334363 q331501 hm333309 (nm_c (rn_oa he334333 he334351) nm_n)).trans he334333
                                    have he334370 : F334361 q333313 = .inl (I (.object "java/lang/Object"), n333327, .inr (.inr (.inr (.inr f333328)))) := (hfr334363 q333313 hm333329 (nm_c (rn_ref_long he334334 he334351) nm_n)).trans he334334
                                    have he334371 : F334361 q333330 = .inr (20, [.int p333345, .int p333346, .int p333347, .int p333348, .int p333349, .int p333350, .int p333351]) := (hfr334363 q333330 hm333343 (nm_c (rn_oa he334335 he334351) nm_n)).trans he334335
                                    have he334372 : F334361 q276665 = .inr (22, [.ref (γ 9 0), .ref (γ 9 1), .ref (γ 9 2), .ref (γ 9 3), .ref (γ 9 4), .ref (γ 9 5), .ref (γ 9 6), .ref (γ 9 7), .ref (γ 9 8), .int p276674, .int p276675, .int p276676, .int p276677, .int p276678, .int p276679, .ref (γ 9 15), .ref (γ 9 16), .ref (γ 9 17), .ref (γ 9 18), .ref (γ 9 19), .ref (γ 9 20), .ref (γ 9 21), .ref (γ 9 22), .int p276680, .int p276681, .int p276682, .int p276683, .int p276684, .ref q276672, .ref (γ 9 29), .int p276685, .ref (γ 9 31), .int p276686, .int p276687, .int p276688, .ref q276673]) := (hfr334363 q276665 hm334338 (nm_c (rn_oa he334337 he334351) nm_n)).trans he334337
                                    have he334373 : F334361 (γ 9 1) = .inl (I (.array .long), 2000, .inr (.inr (.inr (.inr f334345)))) := (hfr334363 (γ 9 1) hm334343 (nm_c (rn_ref_long he334344 he334351) nm_n)).trans he334344
                                    have hfr334374 : rFr [q334347] P276663 F334322 F334361 := rFr_call (rSub_rf (P := P276663)) (rFr_rf (W := []) (P := P276663) (F := F334322)) hfr334363 (fun b hb hn => ⟨nm_n, (nm_c (fun e => hn (e ▸ List.mem_cons_self)) nm_n)⟩)
                                    change G _ _ _ _ _ _ _ _ _ _ _
                                    refine G_widen (cs' := 0) (sl' := 0) (by omega) (by omega) ?_
                                    have hT334375 : RS D I P276663 F334361 γ el := RS_fr hT334323 hfr334374 ht334348 (by decide) ⟨f334358, he334364, x334359⟩
                                    have hs334376 : rStr γ [] F276664 F334361 := rStr_fr hT334323 hs334324 hfr334374 ht334348 (by decide)
                                    have kp334377 : F334361 q276665 = F276664 q276665 := (hfr334374 q276665 (RS_m hT334323 htq276665 (by decide)) (nm_c (rn_ty htq276665 ht334348 (by decide)) nm_n)).trans x334326
                                    have kp334378 : F334361 (γ 9 3) = F334322 (γ 9 3) := hfr334374 (γ 9 3) (RS_m hT334323 ht276694 (by decide)) (nm_c (rn_ty ht276694 ht334348 (by decide)) nm_n)
                                    refine G_aload_n 8 dr_cX17_graph_277 rfl ?_
                                    refine G_aload 4 dr_cX17_graph_278 rfl ?_
                                    refine G_iload_n 10 dr_cX17_graph_280 rfl ?_
                                    refine Gw_callV (As := [.ref q333330, .int p276667]) (gV_ok D I) (ct_283500_SpillForgeModel_back l hl0 D I γ el P276663 F334361 q276665 q333330 p276667 hT334375 htq276665 ht333333 (gB_w bp276667' (by decide) (by decide))) dr_cX17_graph_281 ⟨wr_10_174, wr_1_14, wr_10_177, by decide, rfl, (Nat.le_of_ble_eq_true rfl), (Nat.le_of_ble_eq_true rfl)⟩ wr_10_176 wr_p_96 hm334338 he334372 rfl (show 0 + 0 ≤ 0 by first | omega | decide) (show 0 + 0 ≤ 0 by first | omega | decide) (Nat.le_of_ble_eq_true rfl) (fun r334382 w334383 dc334379 ds334380 hp334381 => ?_) (fun _ _ _ _ _ z => z.elim)
                                    obtain ⟨F334387, rfl, rfl, hT334388, hs334389, hdc, hds, x334384, x334385, ht334386⟩ := hp334381
                                    have he334390 : F334387 q276666 = .inr (18, [.ref q330825, .ref q330826, .int p330827, .int p330828]) := (hs334389 q276666 (rT0 htq276666 (by decide)) (rT1 htq276666 (by decide)) (rT2 htq276666 (by decide))).trans he334365
                                    have he334391 : F334387 q330825 = .inr (4, [.int p331472, .ref q331474, .int p331473]) := (hs334389 q330825 (rT0 ht330829 (by decide)) (rT1 ht330829 (by decide)) (rT2 ht330829 (by decide))).trans he334366
                                    have he334392 : F334387 q331474 = .inl (I (.object "java/lang/Object"), n331488, .inr (.inr (.inr (.inr f331489)))) := (hs334389 q331474 (rT0 r331480 (by decide)) (rT1 r331480 (by decide)) (rT2 r331480 (by decide))).trans he334367
                                    have he334393 : F334387 q331491 = .inr (17, [.ref q331501, .ref q331502, .int p331503, .int p331504]) := (hs334389 q331491 (rT0 ht331497 (by decide)) (rT1 ht331497 (by decide)) (rT2 ht331497 (by decide))).trans he334368
                                    have he334394 : F334387 q331501 = .inr (4, [.int p333311, .ref q333313, .int p333312]) := (hs334389 q331501 (rT0 ht331505 (by decide)) (rT1 ht331505 (by decide)) (rT2 ht331505 (by decide))).trans he334369
                                    have he334395 : F334387 q333313 = .inl (I (.object "java/lang/Object"), n333327, .inr (.inr (.inr (.inr f333328)))) := (hs334389 q333313 (rT0 r333319 (by decide)) (rT1 r333319 (by decide)) (rT2 r333319 (by decide))).trans he334370
                                    have he334396 : F334387 q333330 = .inr (20, [.int p333345, .int p333346, .int p333347, .int p333348, .int p333349, .int p333350, .int p333351]) := (hs334389 q333330 (rT0 ht333333 (by decide)) (rT1 ht333333 (by decide)) (rT2 ht333333 (by decide))).trans he334371
                                    have hs334397 : rStr γ [] F276664 F334387 := rStr_tr hs334376 hs334389
                                    have kp334398 : F334387 q276665 = F276664 q276665 := (x334384).trans kp334377
                                    have kp334399 : F334387 (γ 9 3) = F334322 (γ 9 3) := (x334385).trans kp334378
                                    have he334400 : F334387 q276665 = .inr (22, [.ref (γ 9 0), .ref (γ 9 1), .ref (γ 9 2), .ref (γ 9 3), .ref (γ 9 4), .ref (γ 9 5), .ref (γ 9 6), .ref (γ 9 7), .ref (γ 9 8), .int p276674, .int p276675, .int p276676, .int p276677, .int p276678, .int p276679, .ref (γ 9 15), .ref (γ 9 16), .ref (γ 9 17), .ref (γ 9 18), .ref (γ 9 19), .ref (γ 9 20), .ref (γ 9 21), .ref (γ 9 22), .int p276680, .int p276681, .int p276682, .int p276683, .int p276684, .ref q276672, .ref (γ 9 29), .int p276685, .ref (γ 9 31), .int p276686, .int p276687, .int p276688, .ref q276673]) := (x334384).trans he334372
                                    change G _ _ _ _ _ _ _ _ _ _ _
                                    refine G_widen (cs' := 0) (sl' := 0) (by omega) (by omega) ?_
                                    obtain ⟨z334401, hz334401⟩ : ∃ z : Int32, z = g333285 + Int32.ofInt (-1) := ⟨_, rfl⟩
                                    have ez334401 : z334401.toInt = g333285.toInt + (-1) := gI_inc hz334401 (by decide) bg333285' (by decide) (by decide)
                                    have bz334401 : gB z334401 (-1) 999998 := ⟨by omega, by omega⟩
                                    refine G_iinc (L' := [(5, .int z334401), (10, .int g334321), (9, .int 0), (8, .int p333347), (7, .int o333390), (6, .ref q333330), (4, .ref q331491), (3, .int g330812), (0, .ref q276665), (1, .ref q276666), (2, .int p276667)]) z334401 5 dr_cX17_graph_284 rfl hz334401.symm (Nat.le_of_ble_eq_true rfl) rfl ?_
                                    refine G_goto 109 dr_cX17_graph_287 (by decide +kernel) ?_
                                    refine G_lv (L' := [(5, .int z334401), (4, .ref q331491), (3, .int g330812), (0, .ref q276665), (1, .ref q276666), (2, .int p276667)]) [0, 6, 7, 8, 9, 10] rfl ?_
                                    exact ih109_333291 F334387 z334401 (gB_w bz334401 (by decide) (by decide)) hT334388 hs334397 (by omega) (fun h0 => by have z := x334325 h0; rw [← kp334399] at z; rw [show ((g333285.toInt : Int).toNat : Nat) = (z334401.toInt + 1 : Int).toNat by omega] at z; exact z) kp334398 (fun k e1 ht => kt109_333292 k e1 (fun R c1 c2 c3 c4 c5 c6 c7 c8 c9 c10 c11 => c9 F333286 g333285 q331501 q333330 p333312 F333365 p333345 p333346 p333349 o333390 p333350 p333347 F334322 q334347 f334352 f334358 F334361 F334387 z334401 k e1 bg333285 hT333287 hs333288 x333289 x333290 x333291 r333306 fq333307 hx333331 fq333335 ht333341 hT333366 hs333367 x333362 x333363 ht333364 fq333382 fq333383 fq333384 bo333390 ht333391 r333653 r333915 fq333916 r334178 fq334179 r334205 r334207 hx334341 fq334342 hx334349 he334351 ht334360 hfr334374 he334364 hT334375 hT334388 hs334389 x334384 x334385 ht334386 ez334401 (ht R c1 c2 c3 c4 c5 c6 c7 c8 c9 c10 c11))) (mz_dn ez334401 (Int.le_trans (by decide) bg333285'.1) hm109_333291)
                                  · have r334402 : g334321.toInt < 32 := gj_nleL hc334339 (show Int32.toInt 32 = 32 by decide)
                                    have bg334321' : gB g334321 0 31 := ⟨by omega, by omega⟩
                                    refine G_aload_n 8 dr_cX17_graph_217 rfl ?_
                                    have fq334403 : fR (F334322 q276665) 1 = (γ 9 1) := by rw [he334337]; rfl
                                    refine Gp_get 1 hm334338 he334337 dr_cX17_graph_218 (gk_X17 D I) (Nat.le_of_ble_eq_true rfl) wr_7_75 rfl ?_
                                    refine G_iload 3 dr_cX17_graph_221 rfl ?_
                                    have hm334404 : (γ 9 1) ∈ P276663 := RS_m hT334323 ht276692 (by decide)
                                    obtain ⟨f334406, he334405, hg334407⟩ := show rk_13 I γ (F334322 (γ 9 1)) from RS_o hT334323 ht276692
                                    obtain ⟨q334408, hx334410⟩ : ∃ x, x = γ 11 o333390.toInt.toNat := ⟨_, rfl⟩
                                    have ht334409 : rKd γ q334408 36 := by rw [hx334410]; exact (hg334407 _ (show o333390.toInt.toNat < 2000 by omega)).2.1
                                    refine Gp_aald 5 hm334404 he334405 dr_cX17_graph_223 rfl rfl (gB_in bo333390' (by decide) (by decide)) ?_
                                    rw [show f334406 o333390.toNatClampNeg = some q334408 from (hg334407 _ (show o333390.toInt.toNat < 2000 by omega)).1.trans (by rw [hx334410])]
                                    change G _ _ _ _ _ _ _ (.ref q334408 :: _) _ _ _
                                    refine G_iload 0 dr_cX17_graph_224 rfl ?_
                                    refine G_dup2_11 dr_cX17_graph_226 rfl rfl ?_
                                    have hm334411 : q334408 ∈ P276663 := RS_m hT334323 ht334409 (by decide)
                                    obtain ⟨f334413, he334412, wf334413⟩ := show rk_36 I (F334322 q334408) from RS_o hT334323 ht334409
                                    refine Gp_lald 2 hm334411 he334412 dr_cX17_graph_227 rfl (gB_in bg334321' (by decide) (by decide)) (G_namL fun u334414 hu334414 => ?_)
                                    have qu334414 : lb_Q u334414 (2000 - 64 * g334321.toInt) := lb_Wld hu334414 wf334413 (by omega) (by omega) (lb_Mod0 (by omega) (by omega))
                                    refine G_aload_n 8 dr_cX17_graph_228 rfl ?_
                                    have fq334415 : fR (F334322 q276665) 2 = (γ 9 2) := by rw [he334337]; rfl
                                    refine Gp_get 2 hm334338 he334337 dr_cX17_graph_229 (gk_X17 D I) (Nat.le_of_ble_eq_true rfl) wr_7_76 rfl ?_
                                    refine G_iload 0 dr_cX17_graph_232 rfl ?_
                                    have hm334416 : (γ 9 2) ∈ P276663 := RS_m hT334323 ht276693 (by decide)
                                    obtain ⟨f334418, he334417, wf334418⟩ := show rk_35 I (F334322 (γ 9 2)) from RS_o hT334323 ht276693
                                    refine Gp_lald 2 hm334416 he334417 dr_cX17_graph_234 rfl (gB_in bg334321' (by decide) (by decide)) (G_namL fun u334419 hu334419 => ?_)
                                    have qu334419 : lb_Q u334419 (2000 - 64 * g334321.toInt) := lb_Wld hu334419 wf334418 (by omega) (by omega) (lb_Mod0 (by omega) (by omega))
                                    refine G_lor dr_cX17_graph_235 (G_namL fun u334420 hu334420 => ?_)
                                    have qu334420 : lb_Q u334420 (2000 - 64 * g334321.toInt) := lb_Qor hu334420 qu334414 qu334419
                                    refine Gp_last 2 hm334411 he334412 dr_cX17_graph_236 rfl (gB_in bg334321' (by decide) (by decide)) (fun F334421 e334422 n334423 => ?_)
                                    obtain ⟨f334424, hf334424⟩ : ∃ z, z = vp_updL f334413 g334321.toNatClampNeg u334420 := ⟨_, rfl⟩
                                    rw [← hf334424] at e334422
                                    have he334425 : F334421 q276666 = .inr (18, [.ref q330825, .ref q330826, .int p330827, .int p330828]) := (n334423 q276666 (rn_oa he334329 he334412)).trans he334329
                                    have he334426 : F334421 q330825 = .inr (4, [.int p331472, .ref q331474, .int p331473]) := (n334423 q330825 (rn_oa he334330 he334412)).trans he334330
                                    have he334427 : F334421 q331474 = .inl (I (.object "java/lang/Object"), n331488, .inr (.inr (.inr (.inr f331489)))) := (n334423 q331474 (rn_ref_long he334331 he334412)).trans he334331
                                    have he334428 : F334421 q331491 = .inr (17, [.ref q331501, .ref q331502, .int p331503, .int p331504]) := (n334423 q331491 (rn_oa he334332 he334412)).trans he334332
                                    have he334429 : F334421 q331501 = .inr (4, [.int p333311, .ref q333313, .int p333312]) := (n334423 q331501 (rn_oa he334333 he334412)).trans he334333
                                    have he334430 : F334421 q333313 = .inl (I (.object "java/lang/Object"), n333327, .inr (.inr (.inr (.inr f333328)))) := (n334423 q333313 (rn_ref_long he334334 he334412)).trans he334334
                                    have he334431 : F334421 q333330 = .inr (20, [.int p333345, .int p333346, .int p333347, .int p333348, .int p333349, .int p333350, .int p333351]) := (n334423 q333330 (rn_oa he334335 he334412)).trans he334335
                                    have he334432 : F334421 q276665 = .inr (22, [.ref (γ 9 0), .ref (γ 9 1), .ref (γ 9 2), .ref (γ 9 3), .ref (γ 9 4), .ref (γ 9 5), .ref (γ 9 6), .ref (γ 9 7), .ref (γ 9 8), .int p276674, .int p276675, .int p276676, .int p276677, .int p276678, .int p276679, .ref (γ 9 15), .ref (γ 9 16), .ref (γ 9 17), .ref (γ 9 18), .ref (γ 9 19), .ref (γ 9 20), .ref (γ 9 21), .ref (γ 9 22), .int p276680, .int p276681, .int p276682, .int p276683, .int p276684, .ref q276672, .ref (γ 9 29), .int p276685, .ref (γ 9 31), .int p276686, .int p276687, .int p276688, .ref q276673]) := (n334423 q276665 (rn_oa he334337 he334412)).trans he334337
                                    have he334433 : F334421 (γ 9 1) = .inl (I (.array .long), 2000, .inr (.inr (.inr (.inr f334406)))) := (n334423 (γ 9 1) (rn_ref_long he334405 he334412)).trans he334405
                                    have he334434 : F334421 (γ 9 2) = .inl (I .long, 32, .inr (.inl f334418)) := (n334423 (γ 9 2) (rn_ty ht276693 ht334409 (by decide))).trans he334417
                                    have he334435 : F334421 q334408 = .inl (I .long, 32, .inr (.inl f334424)) := e334422
                                    have hs334436 : rStr γ [] F276664 F334421 := rStr_put hs334324 n334423 ht334409 (by decide)
                                    have kp334437 : F334421 q276665 = F276664 q276665 := (n334423 q276665 (rn_ty htq276665 ht334409 (by decide))).trans x334326
                                    have kp334438 : F334421 (γ 9 3) = F334322 (γ 9 3) := n334423 (γ 9 3) (rn_ty ht276694 ht334409 (by decide))
                                    have wf334424 : lb_W f334424 (32) (32) (2000) := lb_Wst hf334424 wf334413 (by omega) (lb_Mod0 (by omega) (by omega)) qu334420
                                    obtain ⟨z334439, hz334439⟩ : ∃ z : Int32, z = g334321 + Int32.ofInt 1 := ⟨_, rfl⟩
                                    have ez334439 : z334439.toInt = g334321.toInt + 1 := gI_inc hz334439 (by decide) bg334321' (by decide) (by decide)
                                    have bz334439 : gB z334439 1 32 := ⟨by omega, by omega⟩
                                    refine G_iinc (L' := [(10, .int z334439), (9, .int 0), (8, .int p333347), (7, .int o333390), (6, .ref q333330), (5, .int g333285), (4, .ref q331491), (3, .int g330812), (0, .ref q276665), (1, .ref q276666), (2, .int p276667)]) z334439 0 dr_cX17_graph_237 rfl hz334439.symm (Nat.le_of_ble_eq_true rfl) rfl ?_
                                    refine G_goto 210 dr_cX17_graph_240 (by decide +kernel) ?_
                                    have hT334440 : RS D I P276663 F334421 γ el := RS_set hT334323 n334423 ht334409 (by decide) ⟨f334424, he334435, wf334424⟩
                                    exact ih210_334326 F334421 z334439 (gB_w bz334439 (by decide) (by decide)) hT334440 hs334436 (by rw [kp334438]; exact x334325) kp334437 (fun k e1 ht => kt210_334327 k e1 (fun R c1 c2 => c2 F334322 g334321 q334408 f334413 u334414 f334418 u334419 u334420 f334424 F334421 z334439 k e1 bg334321 hT334323 hs334324 x334325 x334326 r334402 fq334403 hx334410 he334412 hu334414 fq334415 he334417 hu334419 hu334420 hf334424 n334423 he334435 ez334439 (ht R c1 c2))) (mz_up ez334439 (Int.le_trans bg334321'.2 (by decide)) hm210_334326)
                              exact hlp210_334326 (((33 : Int) - 0).toNat + 1) F333365 0 (gB_w (gBl (show Int32.toInt 0 = 0 by decide)) (by decide) (by decide)) hT333366 hs333375 gr333381 kp333376 (fun k e1 ht => ht) (Nat.lt_succ_self _)
                            · have r334441 : 0 ≤ p333347.toInt := gj_nlt hc334206 (show Int32.toInt 0 = 0 by decide)
                              have bp333347' : gB p333347 0 2147483647 := ⟨by omega, by omega⟩
                              refine G_aload_n 6 dr_cX17_graph_185 rfl ?_
                              have fq334442 : fR (F333365 q276665) 1 = (γ 9 1) := by rw [he333377]; rfl
                              refine Gp_get 1 hm333301 he333377 dr_cX17_graph_186 (gk_X17 D I) (Nat.le_of_ble_eq_true rfl) wr_7_75 rfl ?_
                              refine G_iload 1 dr_cX17_graph_189 rfl ?_
                              have hm334443 : (γ 9 1) ∈ P276663 := RS_m hT333366 ht276692 (by decide)
                              obtain ⟨f334445, he334444, hg334446⟩ := show rk_13 I γ (F333365 (γ 9 1)) from RS_o hT333366 ht276692
                              obtain ⟨q334447, hx334449⟩ : ∃ x, x = γ 11 o333390.toInt.toNat := ⟨_, rfl⟩
                              have ht334448 : rKd γ q334447 36 := by rw [hx334449]; exact (hg334446 _ (show o333390.toInt.toNat < 2000 by omega)).2.1
                              refine Gp_aald 5 hm334443 he334444 dr_cX17_graph_191 rfl rfl (gB_in bo333390' (by decide) (by decide)) ?_
                              rw [show f334445 o333390.toNatClampNeg = some q334447 from (hg334446 _ (show o333390.toInt.toNat < 2000 by omega)).1.trans (by rw [hx334449])]
                              change G _ _ _ _ _ _ _ (.ref q334447 :: _) _ _ _
                              refine G_iload 0 dr_cX17_graph_192 rfl ?_
                              have hm334450 : q334447 ∈ P276663 := RS_m hT333366 ht334448 (by decide)
                              obtain ⟨f334452, he334451, wf334452⟩ := show rk_36 I (F333365 q334447) from RS_o hT333366 ht334448
                              refine Gw_callS (As := [.ref q334447, .int p333347]) (gV_ok D I) (cp_1845_SpillForgeModel_has l hl0 D I P276663 F333365 q334447 p333347 f334452 hm334450 he334451 ⟨by omega, by omega⟩) dr_cX17_graph_194 ⟨wr_10_203, wr_1_14, wr_10_205, by decide, rfl, (Nat.le_of_ble_eq_true rfl), (Nat.le_of_ble_eq_true rfl)⟩ wr_10_204 (show 0 + 0 ≤ 0 by first | omega | decide) (show 0 + 0 ≤ 0 by first | omega | decide) (Nat.le_of_ble_eq_true rfl) (fun r334456 w334457 dc334453 ds334454 hp334455 => ?_) (fun _ _ _ _ _ z => z.elim)
                              rcases hp334455 with ⟨z334458, z334459, rfl, rfl, hdc, hds, r334460, r334461, r334462, r334463, r334464⟩ | ⟨z334465, z334466, rfl, rfl, hdc, hds, r334467, r334468, r334469, r334470, r334471⟩
                              · change G _ _ _ _ _ _ _ (.int 0 :: _) _ _ _
                                refine G_widen (cs' := 0) (sl' := 0) (by omega) (by omega) ?_
                                refine G_if_eq 204 dr_cX17_graph_197 (by decide +kernel) (fun _ => ?_) (fun hc => absurd hc (by decide))
                                refine G_iconst 0 dr_cX17_graph_204 (by decide +kernel) ?_
                                refine G_istore (L' := [(9, .int 0), (8, .int p333347), (7, .int o333390), (6, .ref q333330), (5, .int g333285), (4, .ref q331491), (3, .int g330812), (0, .ref q276665), (1, .ref q276666), (2, .int p276667)]) dr_cX17_graph_205 (Nat.le_of_ble_eq_true rfl) rfl ?_
                                refine G_iconst 0 dr_cX17_graph_207 (by decide +kernel) ?_
                                refine G_istore (L' := [(10, .int 0), (9, .int 0), (8, .int p333347), (7, .int o333390), (6, .ref q333330), (5, .int g333285), (4, .ref q331491), (3, .int g330812), (0, .ref q276665), (1, .ref q276666), (2, .int p276667)]) dr_cX17_graph_208 (Nat.le_of_ble_eq_true rfl) rfl ?_
                                have hlp210_334623 : ∀ (n210_334623 : Nat) (F334619 : Nat → va_E) (g334618 : Int32), gB g334618 0 32 → RS D I P276663 F334619 γ el → rStr γ [] F276664 F334619 → (gIp (p276667.toInt = 0) (rGr γ el F276664 q276666 (γ 6 (γ 1 q276666)) (cB (F334619 (γ 9 3))) (vB (g330812.toInt : Int).toNat (g333285.toInt : Int).toNat))) → (F334619 q276665 = F276664 q276665) → (∀ (k : Nat) (e1 : Nat → va_E), tl_RModel_graph_210_5 D I γ el P276663 F276664 p276667 q276666 g330812 g333285 q276665 o333390 F334619 g334618 k e1 → tl_RModel_graph_210_5 D I γ el P276663 F276664 p276667 q276666 g330812 g333285 q276665 o333390 F333365 (0 : Int32) k e1) → ((33 : Int) - g334618.toInt).toNat < n210_334623 → G (gV D I) l (gRm 5 111 0 0) (gMA (gV D I) (pt_276669_SpillForgeModel_graph D I γ el P276663 F276664 q276665 q276666 p276667) gNA 0 0) ky_276669_SpillForgeModel_graph 210 [(10, .int g334618), (9, .int 0), (8, .int p333347), (7, .int o333390), (6, .ref q333330), (5, .int g333285), (4, .ref q331491), (3, .int g330812), (0, .ref q276665), (1, .ref q276666), (2, .int p276667)] [] (va_pl P276663 F334619) 0 0 := by
                                  intro n210_334623
                                  induction n210_334623 with
                                  | zero => intro F334619 g334618 bg334618 hT334620 hs334621 x334622 x334623 kt210_334624 hm210_334623; exact absurd hm210_334623 (Nat.not_lt_zero _)
                                  | succ n210_334623 ih210_334623 =>
                                    intro F334619 g334618 bg334618 hT334620 hs334621 x334622 x334623 kt210_334624 hm210_334623
                                    have hs334625 : rStr γ [] F333365 F334619 := fun b h0 hb hw => (hs334621 b h0 hb hw).trans (hs333375 b h0 hb hw).symm
                                    have he334626 : F334619 q276666 = .inr (18, [.ref q330825, .ref q330826, .int p330827, .int p330828]) := (hs334625 q276666 (rT0 htq276666 (by decide)) (rT1 htq276666 (by decide)) (rT2 htq276666 (by decide))).trans he333368
                                    have he334627 : F334619 q330825 = .inr (4, [.int p331472, .ref q331474, .int p331473]) := (hs334625 q330825 (rT0 ht330829 (by decide)) (rT1 ht330829 (by decide)) (rT2 ht330829 (by decide))).trans he333369
                                    have he334628 : F334619 q331474 = .inl (I (.object "java/lang/Object"), n331488, .inr (.inr (.inr (.inr f331489)))) := (hs334625 q331474 (rT0 r331480 (by decide)) (rT1 r331480 (by decide)) (rT2 r331480 (by decide))).trans he333370
                                    have he334629 : F334619 q331491 = .inr (17, [.ref q331501, .ref q331502, .int p331503, .int p331504]) := (hs334625 q331491 (rT0 ht331497 (by decide)) (rT1 ht331497 (by decide)) (rT2 ht331497 (by decide))).trans he333371
                                    have he334630 : F334619 q331501 = .inr (4, [.int p333311, .ref q333313, .int p333312]) := (hs334625 q331501 (rT0 ht331505 (by decide)) (rT1 ht331505 (by decide)) (rT2 ht331505 (by decide))).trans he333372
                                    have he334631 : F334619 q333313 = .inl (I (.object "java/lang/Object"), n333327, .inr (.inr (.inr (.inr f333328)))) := (hs334625 q333313 (rT0 r333319 (by decide)) (rT1 r333319 (by decide)) (rT2 r333319 (by decide))).trans he333373
                                    have he334632 : F334619 q333330 = .inr (20, [.int p333345, .int p333346, .int p333347, .int p333348, .int p333349, .int p333350, .int p333351]) := (hs334625 q333330 (rT0 ht333333 (by decide)) (rT1 ht333333 (by decide)) (rT2 ht333333 (by decide))).trans he333374
                                    have hs334633 : rStr γ [] F276664 F334619 := rStr_tr hs333375 hs334625
                                    have he334634 : F334619 q276665 = .inr (22, [.ref (γ 9 0), .ref (γ 9 1), .ref (γ 9 2), .ref (γ 9 3), .ref (γ 9 4), .ref (γ 9 5), .ref (γ 9 6), .ref (γ 9 7), .ref (γ 9 8), .int p276674, .int p276675, .int p276676, .int p276677, .int p276678, .int p276679, .ref (γ 9 15), .ref (γ 9 16), .ref (γ 9 17), .ref (γ 9 18), .ref (γ 9 19), .ref (γ 9 20), .ref (γ 9 21), .ref (γ 9 22), .int p276680, .int p276681, .int p276682, .int p276683, .int p276684, .ref q276672, .ref (γ 9 29), .int p276685, .ref (γ 9 31), .int p276686, .int p276687, .int p276688, .ref q276673]) := x334623.trans he276671
                                    have hm334635 : q276665 ∈ P276663 := RS_m hT334620 htq276665 (by decide)
                                    refine G_iload 0 dr_cX17_graph_210 rfl ?_
                                    refine G_bipush 32 dr_cX17_graph_212 (by decide +kernel) ?_
                                    refine G_icmp_ge 243 dr_cX17_graph_214 (by decide +kernel) (fun hc334636 => ?_) (fun hc334636 => ?_)
                                    · have r334637 : 32 ≤ g334618.toInt := gj_leL hc334636 (show Int32.toInt 32 = 32 by decide)
                                      have bg334618' : gB g334618 32 32 := ⟨by omega, by omega⟩
                                      have hx334638 : tl_RModel_graph_210_5 D I γ el P276663 F276664 p276667 q276666 g330812 g333285 q276665 o333390 F333365 (0 : Int32) 243 F334619 := kt210_334624 243 F334619 (fun R c1 c2 => c1 F334619 g334618 bg334618 hT334620 hs334621 x334622 x334623 r334637)
                                      refine G_iload 2 dr_cX17_graph_243 rfl ?_
                                      refine G_if_lt 265 dr_cX17_graph_245 (by decide +kernel) (fun hc => absurd (show False by have := gj_lt hc (show Int32.toInt 0 = 0 by decide); omega) not_false) (fun _ => ?_)
                                      refine G_iload 1 dr_cX17_graph_248 rfl ?_
                                      refine G_if_ne 265 dr_cX17_graph_250 (by decide +kernel) (fun hc => absurd hc (by decide)) (fun _ => ?_)
                                      refine G_aload_n 8 dr_cX17_graph_253 rfl ?_
                                      have fq334639 : fR (F334619 q276665) 1 = (γ 9 1) := by rw [he334634]; rfl
                                      refine Gp_get 1 hm334635 he334634 dr_cX17_graph_254 (gk_X17 D I) (Nat.le_of_ble_eq_true rfl) wr_7_75 rfl ?_
                                      refine G_iload 3 dr_cX17_graph_257 rfl ?_
                                      have hm334640 : (γ 9 1) ∈ P276663 := RS_m hT334620 ht276692 (by decide)
                                      obtain ⟨f334642, he334641, hg334643⟩ := show rk_13 I γ (F334619 (γ 9 1)) from RS_o hT334620 ht276692
                                      obtain ⟨q334644, hx334646⟩ : ∃ x, x = γ 11 o333390.toInt.toNat := ⟨_, rfl⟩
                                      have ht334645 : rKd γ q334644 36 := by rw [hx334646]; exact (hg334643 _ (show o333390.toInt.toNat < 2000 by omega)).2.1
                                      refine Gp_aald 5 hm334640 he334641 dr_cX17_graph_259 rfl rfl (gB_in bo333390' (by decide) (by decide)) ?_
                                      rw [show f334642 o333390.toNatClampNeg = some q334644 from (hg334643 _ (show o333390.toInt.toNat < 2000 by omega)).1.trans (by rw [hx334646])]
                                      change G _ _ _ _ _ _ _ (.ref q334644 :: _) _ _ _
                                      refine G_iload 2 dr_cX17_graph_260 rfl ?_
                                      have hm334647 : q334644 ∈ P276663 := RS_m hT334620 ht334645 (by decide)
                                      obtain ⟨f334649, he334648, wf334649⟩ := show rk_36 I (F334619 q334644) from RS_o hT334620 ht334645
                                      refine Gw_callS (As := [.ref q334644, .int p333347]) (gV_ok D I) (cp_1880_SpillForgeModel_clear l hl0 D I P276663 F334619 q334644 p333347 f334649 hm334647 he334648 ⟨by omega, by omega⟩ wf334649) dr_cX17_graph_262 ⟨wr_10_185, wr_1_14, wr_10_187, by decide, rfl, (Nat.le_of_ble_eq_true rfl), (Nat.le_of_ble_eq_true rfl)⟩ wr_10_186 (show 0 + 0 ≤ 0 by first | omega | decide) (show 0 + 0 ≤ 0 by first | omega | decide) (Nat.le_of_ble_eq_true rfl) (fun r334653 w334654 dc334650 ds334651 hp334652 => ?_) (fun _ _ _ _ _ z => z.elim)
                                      obtain ⟨F334658, f334655, rfl, rfl, hfr334660, he334661, hdc, hds, x334656, ht334657⟩ := hp334652
                                      have he334662 : F334658 q276666 = .inr (18, [.ref q330825, .ref q330826, .int p330827, .int p330828]) := (hfr334660 q276666 hm330823 (nm_c (rn_oa he334626 he334648) nm_n)).trans he334626
                                      have he334663 : F334658 q330825 = .inr (4, [.int p331472, .ref q331474, .int p331473]) := (hfr334660 q330825 hm331470 (nm_c (rn_oa he334627 he334648) nm_n)).trans he334627
                                      have he334664 : F334658 q331474 = .inl (I (.object "java/lang/Object"), n331488, .inr (.inr (.inr (.inr f331489)))) := (hfr334660 q331474 hm331490 (nm_c (rn_ref_long he334628 he334648) nm_n)).trans he334628
                                      have he334665 : F334658 q331491 = .inr (17, [.ref q331501, .ref q331502, .int p331503, .int p331504]) := (hfr334660 q331491 hm331499 (nm_c (rn_oa he334629 he334648) nm_n)).trans he334629
                                      have he334666 : F334658 q331501 = .inr (4, [.int p333311, .ref q333313, .int p333312]) := (hfr334660 q331501 hm333309 (nm_c (rn_oa he334630 he334648) nm_n)).trans he334630
                                      have he334667 : F334658 q333313 = .inl (I (.object "java/lang/Object"), n333327, .inr (.inr (.inr (.inr f333328)))) := (hfr334660 q333313 hm333329 (nm_c (rn_ref_long he334631 he334648) nm_n)).trans he334631
                                      have he334668 : F334658 q333330 = .inr (20, [.int p333345, .int p333346, .int p333347, .int p333348, .int p333349, .int p333350, .int p333351]) := (hfr334660 q333330 hm333343 (nm_c (rn_oa he334632 he334648) nm_n)).trans he334632
                                      have he334669 : F334658 q276665 = .inr (22, [.ref (γ 9 0), .ref (γ 9 1), .ref (γ 9 2), .ref (γ 9 3), .ref (γ 9 4), .ref (γ 9 5), .ref (γ 9 6), .ref (γ 9 7), .ref (γ 9 8), .int p276674, .int p276675, .int p276676, .int p276677, .int p276678, .int p276679, .ref (γ 9 15), .ref (γ 9 16), .ref (γ 9 17), .ref (γ 9 18), .ref (γ 9 19), .ref (γ 9 20), .ref (γ 9 21), .ref (γ 9 22), .int p276680, .int p276681, .int p276682, .int p276683, .int p276684, .ref q276672, .ref (γ 9 29), .int p276685, .ref (γ 9 31), .int p276686, .int p276687, .int p276688, .ref q276673]) := (hfr334660 q276665 hm334635 (nm_c (rn_oa he334634 he334648) nm_n)).trans he334634
                                      have he334670 : F334658 (γ 9 1) = .inl (I (.array .long), 2000, .inr (.inr (.inr (.inr f334642)))) := (hfr334660 (γ 9 1) hm334640 (nm_c (rn_ref_long he334641 he334648) nm_n)).trans he334641
                                      have hfr334671 : rFr [q334644] P276663 F334619 F334658 := rFr_call (rSub_rf (P := P276663)) (rFr_rf (W := []) (P := P276663) (F := F334619)) hfr334660 (fun b hb hn => ⟨nm_n, (nm_c (fun e => hn (e ▸ List.mem_cons_self)) nm_n)⟩)
                                      change G _ _ _ _ _ _ _ _ _ _ _
                                      refine G_widen (cs' := 0) (sl' := 0) (by omega) (by omega) ?_
                                      have hT334672 : RS D I P276663 F334658 γ el := RS_fr hT334620 hfr334671 ht334645 (by decide) ⟨f334655, he334661, x334656⟩
                                      have hs334673 : rStr γ [] F276664 F334658 := rStr_fr hT334620 hs334621 hfr334671 ht334645 (by decide)
                                      have kp334674 : F334658 q276665 = F276664 q276665 := (hfr334671 q276665 (RS_m hT334620 htq276665 (by decide)) (nm_c (rn_ty htq276665 ht334645 (by decide)) nm_n)).trans x334623
                                      have kp334675 : F334658 (γ 9 3) = F334619 (γ 9 3) := hfr334671 (γ 9 3) (RS_m hT334620 ht276694 (by decide)) (nm_c (rn_ty ht276694 ht334645 (by decide)) nm_n)
                                      refine G_aload_n 8 dr_cX17_graph_265 rfl ?_
                                      have fq334676 : fR (F334658 q276665) 1 = (γ 9 1) := by rw [he334669]; rfl
                                      refine Gp_get 1 hm334635 he334669 dr_cX17_graph_266 (gk_X17 D I) (Nat.le_of_ble_eq_true rfl) wr_7_75 rfl ?_
                                      refine G_iload 3 dr_cX17_graph_269 rfl ?_
                                      obtain ⟨q334677, hx334679⟩ : ∃ x, x = γ 11 o333390.toInt.toNat := ⟨_, rfl⟩
                                      have ht334678 : rKd γ q334677 36 := by rw [hx334679]; exact (hg334643 _ (show o333390.toInt.toNat < 2000 by omega)).2.1
                                      refine Gp_aald 5 hm334640 he334670 dr_cX17_graph_271 rfl rfl (gB_in bo333390' (by decide) (by decide)) ?_
                                      rw [show f334642 o333390.toNatClampNeg = some q334677 from (hg334643 _ (show o333390.toInt.toNat < 2000 by omega)).1.trans (by rw [hx334679])]
                                      change G _ _ _ _ _ _ _ (.ref q334677 :: _) _ _ _
                                      refine G_iload 3 dr_cX17_graph_272 rfl ?_
                                      have hm334680 : q334677 ∈ P276663 := RS_m hT334672 ht334678 (by decide)
                                      obtain ⟨f334682, he334681, wf334682⟩ := show rk_36 I (F334658 q334677) from RS_o hT334672 ht334678
                                      refine Gw_callS (As := [.ref q334677, .int o333390]) (gV_ok D I) (cp_1880_SpillForgeModel_clear l hl0 D I P276663 F334658 q334677 o333390 f334682 hm334680 he334681 bo333390' wf334682) dr_cX17_graph_274 ⟨wr_10_185, wr_1_14, wr_10_187, by decide, rfl, (Nat.le_of_ble_eq_true rfl), (Nat.le_of_ble_eq_true rfl)⟩ wr_10_186 (show 0 + 0 ≤ 0 by first | omega | decide) (show 0 + 0 ≤ 0 by first | omega | decide) (Nat.le_of_ble_eq_true rfl) (fun r334686 w334687 dc334683 ds334684 hp334685 => ?_) (fun _ _ _ _ _ z => z.elim)
                                      obtain ⟨F334691, f334688, rfl, rfl, hfr334693, he334694, hdc, hds, x334689, ht334690⟩ := hp334685
                                      have he334695 : F334691 q276666 = .inr (18, [.ref q330825, .ref q330826, .int p330827, .int p330828]) := (hfr334693 q276666 hm330823 (nm_c (rn_oa he334662 he334681) nm_n)).trans he334662
                                      have he334696 : F334691 q330825 = .inr (4, [.int p331472, .ref q331474, .int p331473]) := (hfr334693 q330825 hm331470 (nm_c (rn_oa he334663 he334681) nm_n)).trans he334663
                                      have he334697 : F334691 q331474 = .inl (I (.object "java/lang/Object"), n331488, .inr (.inr (.inr (.inr f331489)))) := (hfr334693 q331474 hm331490 (nm_c (rn_ref_long he334664 he334681) nm_n)).trans he334664
                                      have he334698 : F334691 q331491 = .inr (17, [.ref q331501, .ref q331502, .int p331503, .int p331504]) := (hfr334693 q331491 hm331499 (nm_c (rn_oa he334665 he334681) nm_n)).trans he334665
                                      have he334699 : F334691 q331501 = .inr (4, [.int p333311, .ref q333313, .int p333312]) := (hfr334693 q331501 hm333309 (nm_c (rn_oa he334666 he334681) nm_n)).trans he334666
                                      have he334700 : F334691 q333313 = .inl (I (.object "java/lang/Object"), n333327, .inr (.inr (.inr (.inr f333328)))) := (hfr334693 q333313 hm333329 (nm_c (rn_ref_long he334667 he334681) nm_n)).trans he334667
                                      have he334701 : F334691 q333330 = .inr (20, [.int p333345, .int p333346, .int p333347, .int p333348, .int p333349, .int p333350, .int p333351]) := (hfr334693 q333330 hm333343 (nm_c (rn_oa he334668 he334681) nm_n)).trans he334668
                                      have he334702 : F334691 q276665 = .inr (22, [.ref (γ 9 0), .ref (γ 9 1), .ref (γ 9 2), .ref (γ 9 3), .ref (γ 9 4), .ref (γ 9 5), .ref (γ 9 6), .ref (γ 9 7), .ref (γ 9 8), .int p276674, .int p276675, .int p276676, .int p276677, .int p276678, .int p276679, .ref (γ 9 15), .ref (γ 9 16), .ref (γ 9 17), .ref (γ 9 18), .ref (γ 9 19), .ref (γ 9 20), .ref (γ 9 21), .ref (γ 9 22), .int p276680, .int p276681, .int p276682, .int p276683, .int p276684, .ref q276672, .ref (γ 9 29), .int p276685, .ref (γ 9 31), .int p276686, .int p276687, .int p276688, .ref q276673]) := (hfr334693 q276665 hm334635 (nm_c (rn_oa he334669 he334681) nm_n)).trans he334669
                                      have he334703 : F334691 (γ 9 1) = .inl (I (.array .long), 2000, .inr (.inr (.inr (.inr f334642)))) := (hfr334693 (γ 9 1) hm334640 (nm_c (rn_ref_long he334670 he334681) nm_n)).trans he334670
                                      have hfr334704 : rFr [q334677] P276663 F334658 F334691 := rFr_call (rSub_rf (P := P276663)) (rFr_rf (W := []) (P := P276663) (F := F334658)) hfr334693 (fun b hb hn => ⟨nm_n, (nm_c (fun e => hn (e ▸ List.mem_cons_self)) nm_n)⟩)
                                      change G _ _ _ _ _ _ _ _ _ _ _
                                      refine G_widen (cs' := 0) (sl' := 0) (by omega) (by omega) ?_
                                      have hT334705 : RS D I P276663 F334691 γ el := RS_fr hT334672 hfr334704 ht334678 (by decide) ⟨f334688, he334694, x334689⟩
                                      have hs334706 : rStr γ [] F276664 F334691 := rStr_fr hT334672 hs334673 hfr334704 ht334678 (by decide)
                                      have kp334707 : F334691 q276665 = F276664 q276665 := (hfr334704 q276665 (RS_m hT334672 htq276665 (by decide)) (nm_c (rn_ty htq276665 ht334678 (by decide)) nm_n)).trans kp334674
                                      have kp334708 : F334691 (γ 9 3) = F334619 (γ 9 3) := (hfr334704 (γ 9 3) (RS_m hT334672 ht276694 (by decide)) (nm_c (rn_ty ht276694 ht334678 (by decide)) nm_n)).trans kp334675
                                      refine G_aload_n 8 dr_cX17_graph_277 rfl ?_
                                      refine G_aload 4 dr_cX17_graph_278 rfl ?_
                                      refine G_iload_n 10 dr_cX17_graph_280 rfl ?_
                                      refine Gw_callV (As := [.ref q333330, .int p276667]) (gV_ok D I) (ct_283500_SpillForgeModel_back l hl0 D I γ el P276663 F334691 q276665 q333330 p276667 hT334705 htq276665 ht333333 (gB_w bp276667' (by decide) (by decide))) dr_cX17_graph_281 ⟨wr_10_174, wr_1_14, wr_10_177, by decide, rfl, (Nat.le_of_ble_eq_true rfl), (Nat.le_of_ble_eq_true rfl)⟩ wr_10_176 wr_p_96 hm334635 he334702 rfl (show 0 + 0 ≤ 0 by first | omega | decide) (show 0 + 0 ≤ 0 by first | omega | decide) (Nat.le_of_ble_eq_true rfl) (fun r334712 w334713 dc334709 ds334710 hp334711 => ?_) (fun _ _ _ _ _ z => z.elim)
                                      obtain ⟨F334717, rfl, rfl, hT334718, hs334719, hdc, hds, x334714, x334715, ht334716⟩ := hp334711
                                      have he334720 : F334717 q276666 = .inr (18, [.ref q330825, .ref q330826, .int p330827, .int p330828]) := (hs334719 q276666 (rT0 htq276666 (by decide)) (rT1 htq276666 (by decide)) (rT2 htq276666 (by decide))).trans he334695
                                      have he334721 : F334717 q330825 = .inr (4, [.int p331472, .ref q331474, .int p331473]) := (hs334719 q330825 (rT0 ht330829 (by decide)) (rT1 ht330829 (by decide)) (rT2 ht330829 (by decide))).trans he334696
                                      have he334722 : F334717 q331474 = .inl (I (.object "java/lang/Object"), n331488, .inr (.inr (.inr (.inr f331489)))) := (hs334719 q331474 (rT0 r331480 (by decide)) (rT1 r331480 (by decide)) (rT2 r331480 (by decide))).trans he334697
                                      have he334723 : F334717 q331491 = .inr (17, [.ref q331501, .ref q331502, .int p331503, .int p331504]) := (hs334719 q331491 (rT0 ht331497 (by decide)) (rT1 ht331497 (by decide)) (rT2 ht331497 (by decide))).trans he334698
                                      have he334724 : F334717 q331501 = .inr (4, [.int p333311, .ref q333313, .int p333312]) := (hs334719 q331501 (rT0 ht331505 (by decide)) (rT1 ht331505 (by decide)) (rT2 ht331505 (by decide))).trans he334699
                                      have he334725 : F334717 q333313 = .inl (I (.object "java/lang/Object"), n333327, .inr (.inr (.inr (.inr f333328)))) := (hs334719 q333313 (rT0 r333319 (by decide)) (rT1 r333319 (by decide)) (rT2 r333319 (by decide))).trans he334700
                                      have he334726 : F334717 q333330 = .inr (20, [.int p333345, .int p333346, .int p333347, .int p333348, .int p333349, .int p333350, .int p333351]) := (hs334719 q333330 (rT0 ht333333 (by decide)) (rT1 ht333333 (by decide)) (rT2 ht333333 (by decide))).trans he334701
                                      have hs334727 : rStr γ [] F276664 F334717 := rStr_tr hs334706 hs334719
                                      have kp334728 : F334717 q276665 = F276664 q276665 := (x334714).trans kp334707
                                      have kp334729 : F334717 (γ 9 3) = F334619 (γ 9 3) := (x334715).trans kp334708
                                      have he334730 : F334717 q276665 = .inr (22, [.ref (γ 9 0), .ref (γ 9 1), .ref (γ 9 2), .ref (γ 9 3), .ref (γ 9 4), .ref (γ 9 5), .ref (γ 9 6), .ref (γ 9 7), .ref (γ 9 8), .int p276674, .int p276675, .int p276676, .int p276677, .int p276678, .int p276679, .ref (γ 9 15), .ref (γ 9 16), .ref (γ 9 17), .ref (γ 9 18), .ref (γ 9 19), .ref (γ 9 20), .ref (γ 9 21), .ref (γ 9 22), .int p276680, .int p276681, .int p276682, .int p276683, .int p276684, .ref q276672, .ref (γ 9 29), .int p276685, .ref (γ 9 31), .int p276686, .int p276687, .int p276688, .ref q276673]) := (x334714).trans he334702
                                      change G _ _ _ _ _ _ _ _ _ _ _
                                      refine G_widen (cs' := 0) (sl' := 0) (by omega) (by omega) ?_
                                      obtain ⟨z334731, hz334731⟩ : ∃ z : Int32, z = g333285 + Int32.ofInt (-1) := ⟨_, rfl⟩
                                      have ez334731 : z334731.toInt = g333285.toInt + (-1) := gI_inc hz334731 (by decide) bg333285' (by decide) (by decide)
                                      have bz334731 : gB z334731 (-1) 999998 := ⟨by omega, by omega⟩
                                      refine G_iinc (L' := [(5, .int z334731), (10, .int g334618), (9, .int 0), (8, .int p333347), (7, .int o333390), (6, .ref q333330), (4, .ref q331491), (3, .int g330812), (0, .ref q276665), (1, .ref q276666), (2, .int p276667)]) z334731 5 dr_cX17_graph_284 rfl hz334731.symm (Nat.le_of_ble_eq_true rfl) rfl ?_
                                      refine G_goto 109 dr_cX17_graph_287 (by decide +kernel) ?_
                                      refine G_lv (L' := [(5, .int z334731), (4, .ref q331491), (3, .int g330812), (0, .ref q276665), (1, .ref q276666), (2, .int p276667)]) [0, 6, 7, 8, 9, 10] rfl ?_
                                      exact ih109_333291 F334717 z334731 (gB_w bz334731 (by decide) (by decide)) hT334718 hs334727 (by omega) (fun h0 => by have z := x334622 h0; rw [← kp334729] at z; rw [show ((g333285.toInt : Int).toNat : Nat) = (z334731.toInt + 1 : Int).toNat by omega] at z; exact z) kp334728 (fun k e1 ht => kt109_333292 k e1 (fun R c1 c2 c3 c4 c5 c6 c7 c8 c9 c10 c11 => c10 F333286 g333285 q331501 q333330 p333312 F333365 p333345 p333346 p333349 o333390 p333350 p333347 q334447 f334452 F334619 q334644 f334649 f334655 F334658 q334677 f334682 f334688 F334691 F334717 z334731 k e1 bg333285 hT333287 hs333288 x333289 x333290 x333291 r333306 fq333307 hx333331 fq333335 ht333341 hT333366 hs333367 x333362 x333363 ht333364 fq333382 fq333383 fq333384 bo333390 ht333391 r333653 r333915 fq333916 r334178 fq334179 r334205 r334441 fq334442 hx334449 he334451 r334464 hx334638 fq334639 hx334646 he334648 ht334657 hfr334671 he334661 hT334672 fq334676 hx334679 he334681 ht334690 hfr334704 he334694 hT334705 hT334718 hs334719 x334714 x334715 ht334716 ez334731 (ht R c1 c2 c3 c4 c5 c6 c7 c8 c9 c10 c11))) (mz_dn ez334731 (Int.le_trans (by decide) bg333285'.1) hm109_333291)
                                    · have r334732 : g334618.toInt < 32 := gj_nleL hc334636 (show Int32.toInt 32 = 32 by decide)
                                      have bg334618' : gB g334618 0 31 := ⟨by omega, by omega⟩
                                      refine G_aload_n 8 dr_cX17_graph_217 rfl ?_
                                      have fq334733 : fR (F334619 q276665) 1 = (γ 9 1) := by rw [he334634]; rfl
                                      refine Gp_get 1 hm334635 he334634 dr_cX17_graph_218 (gk_X17 D I) (Nat.le_of_ble_eq_true rfl) wr_7_75 rfl ?_
                                      refine G_iload 3 dr_cX17_graph_221 rfl ?_
                                      have hm334734 : (γ 9 1) ∈ P276663 := RS_m hT334620 ht276692 (by decide)
                                      obtain ⟨f334736, he334735, hg334737⟩ := show rk_13 I γ (F334619 (γ 9 1)) from RS_o hT334620 ht276692
                                      obtain ⟨q334738, hx334740⟩ : ∃ x, x = γ 11 o333390.toInt.toNat := ⟨_, rfl⟩
                                      have ht334739 : rKd γ q334738 36 := by rw [hx334740]; exact (hg334737 _ (show o333390.toInt.toNat < 2000 by omega)).2.1
                                      refine Gp_aald 5 hm334734 he334735 dr_cX17_graph_223 rfl rfl (gB_in bo333390' (by decide) (by decide)) ?_
                                      rw [show f334736 o333390.toNatClampNeg = some q334738 from (hg334737 _ (show o333390.toInt.toNat < 2000 by omega)).1.trans (by rw [hx334740])]
                                      change G _ _ _ _ _ _ _ (.ref q334738 :: _) _ _ _
                                      refine G_iload 0 dr_cX17_graph_224 rfl ?_
                                      refine G_dup2_11 dr_cX17_graph_226 rfl rfl ?_
                                      have hm334741 : q334738 ∈ P276663 := RS_m hT334620 ht334739 (by decide)
                                      obtain ⟨f334743, he334742, wf334743⟩ := show rk_36 I (F334619 q334738) from RS_o hT334620 ht334739
                                      refine Gp_lald 2 hm334741 he334742 dr_cX17_graph_227 rfl (gB_in bg334618' (by decide) (by decide)) (G_namL fun u334744 hu334744 => ?_)
                                      have qu334744 : lb_Q u334744 (2000 - 64 * g334618.toInt) := lb_Wld hu334744 wf334743 (by omega) (by omega) (lb_Mod0 (by omega) (by omega))
                                      refine G_aload_n 8 dr_cX17_graph_228 rfl ?_
                                      have fq334745 : fR (F334619 q276665) 2 = (γ 9 2) := by rw [he334634]; rfl
                                      refine Gp_get 2 hm334635 he334634 dr_cX17_graph_229 (gk_X17 D I) (Nat.le_of_ble_eq_true rfl) wr_7_76 rfl ?_
                                      refine G_iload 0 dr_cX17_graph_232 rfl ?_
                                      have hm334746 : (γ 9 2) ∈ P276663 := RS_m hT334620 ht276693 (by decide)
                                      obtain ⟨f334748, he334747, wf334748⟩ := show rk_35 I (F334619 (γ 9 2)) from RS_o hT334620 ht276693
                                      refine Gp_lald 2 hm334746 he334747 dr_cX17_graph_234 rfl (gB_in bg334618' (by decide) (by decide)) (G_namL fun u334749 hu334749 => ?_)
                                      have qu334749 : lb_Q u334749 (2000 - 64 * g334618.toInt) := lb_Wld hu334749 wf334748 (by omega) (by omega) (lb_Mod0 (by omega) (by omega))
                                      refine G_lor dr_cX17_graph_235 (G_namL fun u334750 hu334750 => ?_)
                                      have qu334750 : lb_Q u334750 (2000 - 64 * g334618.toInt) := lb_Qor hu334750 qu334744 qu334749
                                      refine Gp_last 2 hm334741 he334742 dr_cX17_graph_236 rfl (gB_in bg334618' (by decide) (by decide)) (fun F334751 e334752 n334753 => ?_)
                                      obtain ⟨f334754, hf334754⟩ : ∃ z, z = vp_updL f334743 g334618.toNatClampNeg u334750 := ⟨_, rfl⟩
                                      rw [← hf334754] at e334752
                                      have he334755 : F334751 q276666 = .inr (18, [.ref q330825, .ref q330826, .int p330827, .int p330828]) := (n334753 q276666 (rn_oa he334626 he334742)).trans he334626
                                      have he334756 : F334751 q330825 = .inr (4, [.int p331472, .ref q331474, .int p331473]) := (n334753 q330825 (rn_oa he334627 he334742)).trans he334627
                                      have he334757 : F334751 q331474 = .inl (I (.object "java/lang/Object"), n331488, .inr (.inr (.inr (.inr f331489)))) := (n334753 q331474 (rn_ref_long he334628 he334742)).trans he334628
                                      have he334758 : F334751 q331491 = .inr (17, [.ref q331501, .ref q331502, .int p331503, .int p331504]) := (n334753 q331491 (rn_oa he334629 he334742)).trans he334629
                                      have he334759 : F334751 q331501 = .inr (4, [.int p333311, .ref q333313, .int p333312]) := (n334753 q331501 (rn_oa he334630 he334742)).trans he334630
                                      have he334760 : F334751 q333313 = .inl (I (.object "java/lang/Object"), n333327, .inr (.inr (.inr (.inr f333328)))) := (n334753 q333313 (rn_ref_long he334631 he334742)).trans he334631
                                      have he334761 : F334751 q333330 = .inr (20, [.int p333345, .int p333346, .int p333347, .int p333348, .int p333349, .int p333350, .int p333351]) := (n334753 q333330 (rn_oa he334632 he334742)).trans he334632
                                      have he334762 : F334751 q276665 = .inr (22, [.ref (γ 9 0), .ref (γ 9 1), .ref (γ 9 2), .ref (γ 9 3), .ref (γ 9 4), .ref (γ 9 5), .ref (γ 9 6), .ref (γ 9 7), .ref (γ 9 8), .int p276674, .int p276675, .int p276676, .int p276677, .int p276678, .int p276679, .ref (γ 9 15), .ref (γ 9 16), .ref (γ 9 17), .ref (γ 9 18), .ref (γ 9 19), .ref (γ 9 20), .ref (γ 9 21), .ref (γ 9 22), .int p276680, .int p276681, .int p276682, .int p276683, .int p276684, .ref q276672, .ref (γ 9 29), .int p276685, .ref (γ 9 31), .int p276686, .int p276687, .int p276688, .ref q276673]) := (n334753 q276665 (rn_oa he334634 he334742)).trans he334634
                                      have he334763 : F334751 (γ 9 1) = .inl (I (.array .long), 2000, .inr (.inr (.inr (.inr f334736)))) := (n334753 (γ 9 1) (rn_ref_long he334735 he334742)).trans he334735
                                      have he334764 : F334751 (γ 9 2) = .inl (I .long, 32, .inr (.inl f334748)) := (n334753 (γ 9 2) (rn_ty ht276693 ht334739 (by decide))).trans he334747
                                      have he334765 : F334751 q334738 = .inl (I .long, 32, .inr (.inl f334754)) := e334752
                                      have hs334766 : rStr γ [] F276664 F334751 := rStr_put hs334621 n334753 ht334739 (by decide)
                                      have kp334767 : F334751 q276665 = F276664 q276665 := (n334753 q276665 (rn_ty htq276665 ht334739 (by decide))).trans x334623
                                      have kp334768 : F334751 (γ 9 3) = F334619 (γ 9 3) := n334753 (γ 9 3) (rn_ty ht276694 ht334739 (by decide))
                                      have wf334754 : lb_W f334754 (32) (32) (2000) := lb_Wst hf334754 wf334743 (by omega) (lb_Mod0 (by omega) (by omega)) qu334750
                                      obtain ⟨z334769, hz334769⟩ : ∃ z : Int32, z = g334618 + Int32.ofInt 1 := ⟨_, rfl⟩
                                      have ez334769 : z334769.toInt = g334618.toInt + 1 := gI_inc hz334769 (by decide) bg334618' (by decide) (by decide)
                                      have bz334769 : gB z334769 1 32 := ⟨by omega, by omega⟩
                                      refine G_iinc (L' := [(10, .int z334769), (9, .int 0), (8, .int p333347), (7, .int o333390), (6, .ref q333330), (5, .int g333285), (4, .ref q331491), (3, .int g330812), (0, .ref q276665), (1, .ref q276666), (2, .int p276667)]) z334769 0 dr_cX17_graph_237 rfl hz334769.symm (Nat.le_of_ble_eq_true rfl) rfl ?_
                                      refine G_goto 210 dr_cX17_graph_240 (by decide +kernel) ?_
                                      have hT334770 : RS D I P276663 F334751 γ el := RS_set hT334620 n334753 ht334739 (by decide) ⟨f334754, he334765, wf334754⟩
                                      exact ih210_334623 F334751 z334769 (gB_w bz334769 (by decide) (by decide)) hT334770 hs334766 (by rw [kp334768]; exact x334622) kp334767 (fun k e1 ht => kt210_334624 k e1 (fun R c1 c2 => c2 F334619 g334618 q334738 f334743 u334744 f334748 u334749 u334750 f334754 F334751 z334769 k e1 bg334618 hT334620 hs334621 x334622 x334623 r334732 fq334733 hx334740 he334742 hu334744 fq334745 he334747 hu334749 hu334750 hf334754 n334753 he334765 ez334769 (ht R c1 c2))) (mz_up ez334769 (Int.le_trans bg334618'.2 (by decide)) hm210_334623)
                                exact hlp210_334623 (((33 : Int) - 0).toNat + 1) F333365 0 (gB_w (gBl (show Int32.toInt 0 = 0 by decide)) (by decide) (by decide)) hT333366 hs333375 gr333381 kp333376 (fun k e1 ht => ht) (Nat.lt_succ_self _)
                              · change G _ _ _ _ _ _ _ (.int 1 :: _) _ _ _
                                refine G_widen (cs' := 0) (sl' := 0) (by omega) (by omega) ?_
                                refine G_if_eq 204 dr_cX17_graph_197 (by decide +kernel) (fun hc => absurd hc (by decide)) (fun _ => ?_)
                                refine G_iconst 1 dr_cX17_graph_200 (by decide +kernel) ?_
                                refine G_goto 205 dr_cX17_graph_201 (by decide +kernel) ?_
                                refine G_istore (L' := [(9, .int 1), (8, .int p333347), (7, .int o333390), (6, .ref q333330), (5, .int g333285), (4, .ref q331491), (3, .int g330812), (0, .ref q276665), (1, .ref q276666), (2, .int p276667)]) dr_cX17_graph_205 (Nat.le_of_ble_eq_true rfl) rfl ?_
                                refine G_iconst 0 dr_cX17_graph_207 (by decide +kernel) ?_
                                refine G_istore (L' := [(10, .int 0), (9, .int 1), (8, .int p333347), (7, .int o333390), (6, .ref q333330), (5, .int g333285), (4, .ref q331491), (3, .int g330812), (0, .ref q276665), (1, .ref q276666), (2, .int p276667)]) dr_cX17_graph_208 (Nat.le_of_ble_eq_true rfl) rfl ?_
                                have hlp210_334889 : ∀ (n210_334889 : Nat) (F334885 : Nat → va_E) (g334884 : Int32), gB g334884 0 32 → RS D I P276663 F334885 γ el → rStr γ [] F276664 F334885 → (gIp (p276667.toInt = 0) (rGr γ el F276664 q276666 (γ 6 (γ 1 q276666)) (cB (F334885 (γ 9 3))) (vB (g330812.toInt : Int).toNat (g333285.toInt : Int).toNat))) → (F334885 q276665 = F276664 q276665) → (∀ (k : Nat) (e1 : Nat → va_E), tl_RModel_graph_210_6 D I γ el P276663 F276664 p276667 q276666 g330812 g333285 q276665 o333390 F334885 g334884 k e1 → tl_RModel_graph_210_6 D I γ el P276663 F276664 p276667 q276666 g330812 g333285 q276665 o333390 F333365 (0 : Int32) k e1) → ((33 : Int) - g334884.toInt).toNat < n210_334889 → G (gV D I) l (gRm 5 111 0 0) (gMA (gV D I) (pt_276669_SpillForgeModel_graph D I γ el P276663 F276664 q276665 q276666 p276667) gNA 0 0) ky_276669_SpillForgeModel_graph 210 [(10, .int g334884), (9, .int 1), (8, .int p333347), (7, .int o333390), (6, .ref q333330), (5, .int g333285), (4, .ref q331491), (3, .int g330812), (0, .ref q276665), (1, .ref q276666), (2, .int p276667)] [] (va_pl P276663 F334885) 0 0 := by
                                  intro n210_334889
                                  induction n210_334889 with
                                  | zero => intro F334885 g334884 bg334884 hT334886 hs334887 x334888 x334889 kt210_334890 hm210_334889; exact absurd hm210_334889 (Nat.not_lt_zero _)
                                  | succ n210_334889 ih210_334889 =>
                                    intro F334885 g334884 bg334884 hT334886 hs334887 x334888 x334889 kt210_334890 hm210_334889
                                    have hs334891 : rStr γ [] F333365 F334885 := fun b h0 hb hw => (hs334887 b h0 hb hw).trans (hs333375 b h0 hb hw).symm
                                    have he334892 : F334885 q276666 = .inr (18, [.ref q330825, .ref q330826, .int p330827, .int p330828]) := (hs334891 q276666 (rT0 htq276666 (by decide)) (rT1 htq276666 (by decide)) (rT2 htq276666 (by decide))).trans he333368
                                    have he334893 : F334885 q330825 = .inr (4, [.int p331472, .ref q331474, .int p331473]) := (hs334891 q330825 (rT0 ht330829 (by decide)) (rT1 ht330829 (by decide)) (rT2 ht330829 (by decide))).trans he333369
                                    have he334894 : F334885 q331474 = .inl (I (.object "java/lang/Object"), n331488, .inr (.inr (.inr (.inr f331489)))) := (hs334891 q331474 (rT0 r331480 (by decide)) (rT1 r331480 (by decide)) (rT2 r331480 (by decide))).trans he333370
                                    have he334895 : F334885 q331491 = .inr (17, [.ref q331501, .ref q331502, .int p331503, .int p331504]) := (hs334891 q331491 (rT0 ht331497 (by decide)) (rT1 ht331497 (by decide)) (rT2 ht331497 (by decide))).trans he333371
                                    have he334896 : F334885 q331501 = .inr (4, [.int p333311, .ref q333313, .int p333312]) := (hs334891 q331501 (rT0 ht331505 (by decide)) (rT1 ht331505 (by decide)) (rT2 ht331505 (by decide))).trans he333372
                                    have he334897 : F334885 q333313 = .inl (I (.object "java/lang/Object"), n333327, .inr (.inr (.inr (.inr f333328)))) := (hs334891 q333313 (rT0 r333319 (by decide)) (rT1 r333319 (by decide)) (rT2 r333319 (by decide))).trans he333373
                                    have he334898 : F334885 q333330 = .inr (20, [.int p333345, .int p333346, .int p333347, .int p333348, .int p333349, .int p333350, .int p333351]) := (hs334891 q333330 (rT0 ht333333 (by decide)) (rT1 ht333333 (by decide)) (rT2 ht333333 (by decide))).trans he333374
                                    have hs334899 : rStr γ [] F276664 F334885 := rStr_tr hs333375 hs334891
                                    have he334900 : F334885 q276665 = .inr (22, [.ref (γ 9 0), .ref (γ 9 1), .ref (γ 9 2), .ref (γ 9 3), .ref (γ 9 4), .ref (γ 9 5), .ref (γ 9 6), .ref (γ 9 7), .ref (γ 9 8), .int p276674, .int p276675, .int p276676, .int p276677, .int p276678, .int p276679, .ref (γ 9 15), .ref (γ 9 16), .ref (γ 9 17), .ref (γ 9 18), .ref (γ 9 19), .ref (γ 9 20), .ref (γ 9 21), .ref (γ 9 22), .int p276680, .int p276681, .int p276682, .int p276683, .int p276684, .ref q276672, .ref (γ 9 29), .int p276685, .ref (γ 9 31), .int p276686, .int p276687, .int p276688, .ref q276673]) := x334889.trans he276671
                                    have hm334901 : q276665 ∈ P276663 := RS_m hT334886 htq276665 (by decide)
                                    refine G_iload 0 dr_cX17_graph_210 rfl ?_
                                    refine G_bipush 32 dr_cX17_graph_212 (by decide +kernel) ?_
                                    refine G_icmp_ge 243 dr_cX17_graph_214 (by decide +kernel) (fun hc334902 => ?_) (fun hc334902 => ?_)
                                    · have r334903 : 32 ≤ g334884.toInt := gj_leL hc334902 (show Int32.toInt 32 = 32 by decide)
                                      have bg334884' : gB g334884 32 32 := ⟨by omega, by omega⟩
                                      have hx334904 : tl_RModel_graph_210_6 D I γ el P276663 F276664 p276667 q276666 g330812 g333285 q276665 o333390 F333365 (0 : Int32) 243 F334885 := kt210_334890 243 F334885 (fun R c1 c2 => c1 F334885 g334884 bg334884 hT334886 hs334887 x334888 x334889 r334903)
                                      refine G_iload 2 dr_cX17_graph_243 rfl ?_
                                      refine G_if_lt 265 dr_cX17_graph_245 (by decide +kernel) (fun hc => absurd (show False by have := gj_lt hc (show Int32.toInt 0 = 0 by decide); omega) not_false) (fun _ => ?_)
                                      refine G_iload 1 dr_cX17_graph_248 rfl ?_
                                      refine G_if_ne 265 dr_cX17_graph_250 (by decide +kernel) (fun _ => ?_) (fun hc => absurd hc (by decide))
                                      refine G_aload_n 8 dr_cX17_graph_265 rfl ?_
                                      have fq334905 : fR (F334885 q276665) 1 = (γ 9 1) := by rw [he334900]; rfl
                                      refine Gp_get 1 hm334901 he334900 dr_cX17_graph_266 (gk_X17 D I) (Nat.le_of_ble_eq_true rfl) wr_7_75 rfl ?_
                                      refine G_iload 3 dr_cX17_graph_269 rfl ?_
                                      have hm334906 : (γ 9 1) ∈ P276663 := RS_m hT334886 ht276692 (by decide)
                                      obtain ⟨f334908, he334907, hg334909⟩ := show rk_13 I γ (F334885 (γ 9 1)) from RS_o hT334886 ht276692
                                      obtain ⟨q334910, hx334912⟩ : ∃ x, x = γ 11 o333390.toInt.toNat := ⟨_, rfl⟩
                                      have ht334911 : rKd γ q334910 36 := by rw [hx334912]; exact (hg334909 _ (show o333390.toInt.toNat < 2000 by omega)).2.1
                                      refine Gp_aald 5 hm334906 he334907 dr_cX17_graph_271 rfl rfl (gB_in bo333390' (by decide) (by decide)) ?_
                                      rw [show f334908 o333390.toNatClampNeg = some q334910 from (hg334909 _ (show o333390.toInt.toNat < 2000 by omega)).1.trans (by rw [hx334912])]
                                      change G _ _ _ _ _ _ _ (.ref q334910 :: _) _ _ _
                                      refine G_iload 3 dr_cX17_graph_272 rfl ?_
                                      have hm334913 : q334910 ∈ P276663 := RS_m hT334886 ht334911 (by decide)
                                      obtain ⟨f334915, he334914, wf334915⟩ := show rk_36 I (F334885 q334910) from RS_o hT334886 ht334911
                                      refine Gw_callS (As := [.ref q334910, .int o333390]) (gV_ok D I) (cp_1880_SpillForgeModel_clear l hl0 D I P276663 F334885 q334910 o333390 f334915 hm334913 he334914 bo333390' wf334915) dr_cX17_graph_274 ⟨wr_10_185, wr_1_14, wr_10_187, by decide, rfl, (Nat.le_of_ble_eq_true rfl), (Nat.le_of_ble_eq_true rfl)⟩ wr_10_186 (show 0 + 0 ≤ 0 by first | omega | decide) (show 0 + 0 ≤ 0 by first | omega | decide) (Nat.le_of_ble_eq_true rfl) (fun r334919 w334920 dc334916 ds334917 hp334918 => ?_) (fun _ _ _ _ _ z => z.elim)
                                      obtain ⟨F334924, f334921, rfl, rfl, hfr334926, he334927, hdc, hds, x334922, ht334923⟩ := hp334918
                                      have he334928 : F334924 q276666 = .inr (18, [.ref q330825, .ref q330826, .int p330827, .int p330828]) := (hfr334926 q276666 hm330823 (nm_c (rn_oa he334892 he334914) nm_n)).trans he334892
                                      have he334929 : F334924 q330825 = .inr (4, [.int p331472, .ref q331474, .int p331473]) := (hfr334926 q330825 hm331470 (nm_c (rn_oa he334893 he334914) nm_n)).trans he334893
                                      have he334930 : F334924 q331474 = .inl (I (.object "java/lang/Object"), n331488, .inr (.inr (.inr (.inr f331489)))) := (hfr334926 q331474 hm331490 (nm_c (rn_ref_long he334894 he334914) nm_n)).trans he334894
                                      have he334931 : F334924 q331491 = .inr (17, [.ref q331501, .ref q331502, .int p331503, .int p331504]) := (hfr334926 q331491 hm331499 (nm_c (rn_oa he334895 he334914) nm_n)).trans he334895
                                      have he334932 : F334924 q331501 = .inr (4, [.int p333311, .ref q333313, .int p333312]) := (hfr334926 q331501 hm333309 (nm_c (rn_oa he334896 he334914) nm_n)).trans he334896
                                      have he334933 : F334924 q333313 = .inl (I (.object "java/lang/Object"), n333327, .inr (.inr (.inr (.inr f333328)))) := (hfr334926 q333313 hm333329 (nm_c (rn_ref_long he334897 he334914) nm_n)).trans he334897
                                      have he334934 : F334924 q333330 = .inr (20, [.int p333345, .int p333346, .int p333347, .int p333348, .int p333349, .int p333350, .int p333351]) := (hfr334926 q333330 hm333343 (nm_c (rn_oa he334898 he334914) nm_n)).trans he334898
                                      have he334935 : F334924 q276665 = .inr (22, [.ref (γ 9 0), .ref (γ 9 1), .ref (γ 9 2), .ref (γ 9 3), .ref (γ 9 4), .ref (γ 9 5), .ref (γ 9 6), .ref (γ 9 7), .ref (γ 9 8), .int p276674, .int p276675, .int p276676, .int p276677, .int p276678, .int p276679, .ref (γ 9 15), .ref (γ 9 16), .ref (γ 9 17), .ref (γ 9 18), .ref (γ 9 19), .ref (γ 9 20), .ref (γ 9 21), .ref (γ 9 22), .int p276680, .int p276681, .int p276682, .int p276683, .int p276684, .ref q276672, .ref (γ 9 29), .int p276685, .ref (γ 9 31), .int p276686, .int p276687, .int p276688, .ref q276673]) := (hfr334926 q276665 hm334901 (nm_c (rn_oa he334900 he334914) nm_n)).trans he334900
                                      have he334936 : F334924 (γ 9 1) = .inl (I (.array .long), 2000, .inr (.inr (.inr (.inr f334908)))) := (hfr334926 (γ 9 1) hm334906 (nm_c (rn_ref_long he334907 he334914) nm_n)).trans he334907
                                      have hfr334937 : rFr [q334910] P276663 F334885 F334924 := rFr_call (rSub_rf (P := P276663)) (rFr_rf (W := []) (P := P276663) (F := F334885)) hfr334926 (fun b hb hn => ⟨nm_n, (nm_c (fun e => hn (e ▸ List.mem_cons_self)) nm_n)⟩)
                                      change G _ _ _ _ _ _ _ _ _ _ _
                                      refine G_widen (cs' := 0) (sl' := 0) (by omega) (by omega) ?_
                                      have hT334938 : RS D I P276663 F334924 γ el := RS_fr hT334886 hfr334937 ht334911 (by decide) ⟨f334921, he334927, x334922⟩
                                      have hs334939 : rStr γ [] F276664 F334924 := rStr_fr hT334886 hs334887 hfr334937 ht334911 (by decide)
                                      have kp334940 : F334924 q276665 = F276664 q276665 := (hfr334937 q276665 (RS_m hT334886 htq276665 (by decide)) (nm_c (rn_ty htq276665 ht334911 (by decide)) nm_n)).trans x334889
                                      have kp334941 : F334924 (γ 9 3) = F334885 (γ 9 3) := hfr334937 (γ 9 3) (RS_m hT334886 ht276694 (by decide)) (nm_c (rn_ty ht276694 ht334911 (by decide)) nm_n)
                                      refine G_aload_n 8 dr_cX17_graph_277 rfl ?_
                                      refine G_aload 4 dr_cX17_graph_278 rfl ?_
                                      refine G_iload_n 10 dr_cX17_graph_280 rfl ?_
                                      refine Gw_callV (As := [.ref q333330, .int p276667]) (gV_ok D I) (ct_283500_SpillForgeModel_back l hl0 D I γ el P276663 F334924 q276665 q333330 p276667 hT334938 htq276665 ht333333 (gB_w bp276667' (by decide) (by decide))) dr_cX17_graph_281 ⟨wr_10_174, wr_1_14, wr_10_177, by decide, rfl, (Nat.le_of_ble_eq_true rfl), (Nat.le_of_ble_eq_true rfl)⟩ wr_10_176 wr_p_96 hm334901 he334935 rfl (show 0 + 0 ≤ 0 by first | omega | decide) (show 0 + 0 ≤ 0 by first | omega | decide) (Nat.le_of_ble_eq_true rfl) (fun r334945 w334946 dc334942 ds334943 hp334944 => ?_) (fun _ _ _ _ _ z => z.elim)
                                      obtain ⟨F334950, rfl, rfl, hT334951, hs334952, hdc, hds, x334947, x334948, ht334949⟩ := hp334944
                                      have he334953 : F334950 q276666 = .inr (18, [.ref q330825, .ref q330826, .int p330827, .int p330828]) := (hs334952 q276666 (rT0 htq276666 (by decide)) (rT1 htq276666 (by decide)) (rT2 htq276666 (by decide))).trans he334928
                                      have he334954 : F334950 q330825 = .inr (4, [.int p331472, .ref q331474, .int p331473]) := (hs334952 q330825 (rT0 ht330829 (by decide)) (rT1 ht330829 (by decide)) (rT2 ht330829 (by decide))).trans he334929
                                      have he334955 : F334950 q331474 = .inl (I (.object "java/lang/Object"), n331488, .inr (.inr (.inr (.inr f331489)))) := (hs334952 q331474 (rT0 r331480 (by decide)) (rT1 r331480 (by decide)) (rT2 r331480 (by decide))).trans he334930
                                      have he334956 : F334950 q331491 = .inr (17, [.ref q331501, .ref q331502, .int p331503, .int p331504]) := (hs334952 q331491 (rT0 ht331497 (by decide)) (rT1 ht331497 (by decide)) (rT2 ht331497 (by decide))).trans he334931
                                      have he334957 : F334950 q331501 = .inr (4, [.int p333311, .ref q333313, .int p333312]) := (hs334952 q331501 (rT0 ht331505 (by decide)) (rT1 ht331505 (by decide)) (rT2 ht331505 (by decide))).trans he334932
                                      have he334958 : F334950 q333313 = .inl (I (.object "java/lang/Object"), n333327, .inr (.inr (.inr (.inr f333328)))) := (hs334952 q333313 (rT0 r333319 (by decide)) (rT1 r333319 (by decide)) (rT2 r333319 (by decide))).trans he334933
                                      have he334959 : F334950 q333330 = .inr (20, [.int p333345, .int p333346, .int p333347, .int p333348, .int p333349, .int p333350, .int p333351]) := (hs334952 q333330 (rT0 ht333333 (by decide)) (rT1 ht333333 (by decide)) (rT2 ht333333 (by decide))).trans he334934
                                      have hs334960 : rStr γ [] F276664 F334950 := rStr_tr hs334939 hs334952
                                      have kp334961 : F334950 q276665 = F276664 q276665 := (x334947).trans kp334940
                                      have kp334962 : F334950 (γ 9 3) = F334885 (γ 9 3) := (x334948).trans kp334941
                                      have he334963 : F334950 q276665 = .inr (22, [.ref (γ 9 0), .ref (γ 9 1), .ref (γ 9 2), .ref (γ 9 3), .ref (γ 9 4), .ref (γ 9 5), .ref (γ 9 6), .ref (γ 9 7), .ref (γ 9 8), .int p276674, .int p276675, .int p276676, .int p276677, .int p276678, .int p276679, .ref (γ 9 15), .ref (γ 9 16), .ref (γ 9 17), .ref (γ 9 18), .ref (γ 9 19), .ref (γ 9 20), .ref (γ 9 21), .ref (γ 9 22), .int p276680, .int p276681, .int p276682, .int p276683, .int p276684, .ref q276672, .ref (γ 9 29), .int p276685, .ref (γ 9 31), .int p276686, .int p276687, .int p276688, .ref q276673]) := (x334947).trans he334935
                                      change G _ _ _ _ _ _ _ _ _ _ _
                                      refine G_widen (cs' := 0) (sl' := 0) (by omega) (by omega) ?_
                                      obtain ⟨z334964, hz334964⟩ : ∃ z : Int32, z = g333285 + Int32.ofInt (-1) := ⟨_, rfl⟩
                                      have ez334964 : z334964.toInt = g333285.toInt + (-1) := gI_inc hz334964 (by decide) bg333285' (by decide) (by decide)
                                      have bz334964 : gB z334964 (-1) 999998 := ⟨by omega, by omega⟩
                                      refine G_iinc (L' := [(5, .int z334964), (10, .int g334884), (9, .int 1), (8, .int p333347), (7, .int o333390), (6, .ref q333330), (4, .ref q331491), (3, .int g330812), (0, .ref q276665), (1, .ref q276666), (2, .int p276667)]) z334964 5 dr_cX17_graph_284 rfl hz334964.symm (Nat.le_of_ble_eq_true rfl) rfl ?_
                                      refine G_goto 109 dr_cX17_graph_287 (by decide +kernel) ?_
                                      refine G_lv (L' := [(5, .int z334964), (4, .ref q331491), (3, .int g330812), (0, .ref q276665), (1, .ref q276666), (2, .int p276667)]) [0, 6, 7, 8, 9, 10] rfl ?_
                                      exact ih109_333291 F334950 z334964 (gB_w bz334964 (by decide) (by decide)) hT334951 hs334960 (by omega) (fun h0 => by have z := x334888 h0; rw [← kp334962] at z; rw [show ((g333285.toInt : Int).toNat : Nat) = (z334964.toInt + 1 : Int).toNat by omega] at z; exact z) kp334961 (fun k e1 ht => kt109_333292 k e1 (fun R c1 c2 c3 c4 c5 c6 c7 c8 c9 c10 c11 => c11 F333286 g333285 q331501 q333330 p333312 F333365 p333345 p333346 p333349 o333390 p333350 p333347 q334447 f334452 F334885 q334910 f334915 f334921 F334924 F334950 z334964 k e1 bg333285 hT333287 hs333288 x333289 x333290 x333291 r333306 fq333307 hx333331 fq333335 ht333341 hT333366 hs333367 x333362 x333363 ht333364 fq333382 fq333383 fq333384 bo333390 ht333391 r333653 r333915 fq333916 r334178 fq334179 r334205 r334441 fq334442 hx334449 he334451 r334471 hx334904 fq334905 hx334912 he334914 ht334923 hfr334937 he334927 hT334938 hT334951 hs334952 x334947 x334948 ht334949 ez334964 (ht R c1 c2 c3 c4 c5 c6 c7 c8 c9 c10 c11))) (mz_dn ez334964 (Int.le_trans (by decide) bg333285'.1) hm109_333291)
                                    · have r334965 : g334884.toInt < 32 := gj_nleL hc334902 (show Int32.toInt 32 = 32 by decide)
                                      have bg334884' : gB g334884 0 31 := ⟨by omega, by omega⟩
                                      refine G_aload_n 8 dr_cX17_graph_217 rfl ?_
                                      have fq334966 : fR (F334885 q276665) 1 = (γ 9 1) := by rw [he334900]; rfl
                                      refine Gp_get 1 hm334901 he334900 dr_cX17_graph_218 (gk_X17 D I) (Nat.le_of_ble_eq_true rfl) wr_7_75 rfl ?_
                                      refine G_iload 3 dr_cX17_graph_221 rfl ?_
                                      have hm334967 : (γ 9 1) ∈ P276663 := RS_m hT334886 ht276692 (by decide)
                                      obtain ⟨f334969, he334968, hg334970⟩ := show rk_13 I γ (F334885 (γ 9 1)) from RS_o hT334886 ht276692
                                      obtain ⟨q334971, hx334973⟩ : ∃ x, x = γ 11 o333390.toInt.toNat := ⟨_, rfl⟩
                                      have ht334972 : rKd γ q334971 36 := by rw [hx334973]; exact (hg334970 _ (show o333390.toInt.toNat < 2000 by omega)).2.1
                                      refine Gp_aald 5 hm334967 he334968 dr_cX17_graph_223 rfl rfl (gB_in bo333390' (by decide) (by decide)) ?_
                                      rw [show f334969 o333390.toNatClampNeg = some q334971 from (hg334970 _ (show o333390.toInt.toNat < 2000 by omega)).1.trans (by rw [hx334973])]
                                      change G _ _ _ _ _ _ _ (.ref q334971 :: _) _ _ _
                                      refine G_iload 0 dr_cX17_graph_224 rfl ?_
                                      refine G_dup2_11 dr_cX17_graph_226 rfl rfl ?_
                                      have hm334974 : q334971 ∈ P276663 := RS_m hT334886 ht334972 (by decide)
                                      obtain ⟨f334976, he334975, wf334976⟩ := show rk_36 I (F334885 q334971) from RS_o hT334886 ht334972
                                      refine Gp_lald 2 hm334974 he334975 dr_cX17_graph_227 rfl (gB_in bg334884' (by decide) (by decide)) (G_namL fun u334977 hu334977 => ?_)
                                      have qu334977 : lb_Q u334977 (2000 - 64 * g334884.toInt) := lb_Wld hu334977 wf334976 (by omega) (by omega) (lb_Mod0 (by omega) (by omega))
                                      refine G_aload_n 8 dr_cX17_graph_228 rfl ?_
                                      have fq334978 : fR (F334885 q276665) 2 = (γ 9 2) := by rw [he334900]; rfl
                                      refine Gp_get 2 hm334901 he334900 dr_cX17_graph_229 (gk_X17 D I) (Nat.le_of_ble_eq_true rfl) wr_7_76 rfl ?_
                                      refine G_iload 0 dr_cX17_graph_232 rfl ?_
                                      have hm334979 : (γ 9 2) ∈ P276663 := RS_m hT334886 ht276693 (by decide)
                                      obtain ⟨f334981, he334980, wf334981⟩ := show rk_35 I (F334885 (γ 9 2)) from RS_o hT334886 ht276693
                                      refine Gp_lald 2 hm334979 he334980 dr_cX17_graph_234 rfl (gB_in bg334884' (by decide) (by decide)) (G_namL fun u334982 hu334982 => ?_)
                                      have qu334982 : lb_Q u334982 (2000 - 64 * g334884.toInt) := lb_Wld hu334982 wf334981 (by omega) (by omega) (lb_Mod0 (by omega) (by omega))
                                      refine G_lor dr_cX17_graph_235 (G_namL fun u334983 hu334983 => ?_)
                                      have qu334983 : lb_Q u334983 (2000 - 64 * g334884.toInt) := lb_Qor hu334983 qu334977 qu334982
                                      refine Gp_last 2 hm334974 he334975 dr_cX17_graph_236 rfl (gB_in bg334884' (by decide) (by decide)) (fun F334984 e334985 n334986 => ?_)
                                      obtain ⟨f334987, hf334987⟩ : ∃ z, z = vp_updL f334976 g334884.toNatClampNeg u334983 := ⟨_, rfl⟩
                                      rw [← hf334987] at e334985
                                      have he334988 : F334984 q276666 = .inr (18, [.ref q330825, .ref q330826, .int p330827, .int p330828]) := (n334986 q276666 (rn_oa he334892 he334975)).trans he334892
                                      have he334989 : F334984 q330825 = .inr (4, [.int p331472, .ref q331474, .int p331473]) := (n334986 q330825 (rn_oa he334893 he334975)).trans he334893
                                      have he334990 : F334984 q331474 = .inl (I (.object "java/lang/Object"), n331488, .inr (.inr (.inr (.inr f331489)))) := (n334986 q331474 (rn_ref_long he334894 he334975)).trans he334894
                                      have he334991 : F334984 q331491 = .inr (17, [.ref q331501, .ref q331502, .int p331503, .int p331504]) := (n334986 q331491 (rn_oa he334895 he334975)).trans he334895
                                      have he334992 : F334984 q331501 = .inr (4, [.int p333311, .ref q333313, .int p333312]) := (n334986 q331501 (rn_oa he334896 he334975)).trans he334896
                                      have he334993 : F334984 q333313 = .inl (I (.object "java/lang/Object"), n333327, .inr (.inr (.inr (.inr f333328)))) := (n334986 q333313 (rn_ref_long he334897 he334975)).trans he334897
                                      have he334994 : F334984 q333330 = .inr (20, [.int p333345, .int p333346, .int p333347, .int p333348, .int p333349, .int p333350, .int p333351]) := (n334986 q333330 (rn_oa he334898 he334975)).trans he334898
                                      have he334995 : F334984 q276665 = .inr (22, [.ref (γ 9 0), .ref (γ 9 1), .ref (γ 9 2), .ref (γ 9 3), .ref (γ 9 4), .ref (γ 9 5), .ref (γ 9 6), .ref (γ 9 7), .ref (γ 9 8), .int p276674, .int p276675, .int p276676, .int p276677, .int p276678, .int p276679, .ref (γ 9 15), .ref (γ 9 16), .ref (γ 9 17), .ref (γ 9 18), .ref (γ 9 19), .ref (γ 9 20), .ref (γ 9 21), .ref (γ 9 22), .int p276680, .int p276681, .int p276682, .int p276683, .int p276684, .ref q276672, .ref (γ 9 29), .int p276685, .ref (γ 9 31), .int p276686, .int p276687, .int p276688, .ref q276673]) := (n334986 q276665 (rn_oa he334900 he334975)).trans he334900
                                      have he334996 : F334984 (γ 9 1) = .inl (I (.array .long), 2000, .inr (.inr (.inr (.inr f334969)))) := (n334986 (γ 9 1) (rn_ref_long he334968 he334975)).trans he334968
                                      have he334997 : F334984 (γ 9 2) = .inl (I .long, 32, .inr (.inl f334981)) := (n334986 (γ 9 2) (rn_ty ht276693 ht334972 (by decide))).trans he334980
                                      have he334998 : F334984 q334971 = .inl (I .long, 32, .inr (.inl f334987)) := e334985
                                      have hs334999 : rStr γ [] F276664 F334984 := rStr_put hs334887 n334986 ht334972 (by decide)
                                      have kp335000 : F334984 q276665 = F276664 q276665 := (n334986 q276665 (rn_ty htq276665 ht334972 (by decide))).trans x334889
                                      have kp335001 : F334984 (γ 9 3) = F334885 (γ 9 3) := n334986 (γ 9 3) (rn_ty ht276694 ht334972 (by decide))
                                      have wf334987 : lb_W f334987 (32) (32) (2000) := lb_Wst hf334987 wf334976 (by omega) (lb_Mod0 (by omega) (by omega)) qu334983
                                      obtain ⟨z335002, hz335002⟩ : ∃ z : Int32, z = g334884 + Int32.ofInt 1 := ⟨_, rfl⟩
                                      have ez335002 : z335002.toInt = g334884.toInt + 1 := gI_inc hz335002 (by decide) bg334884' (by decide) (by decide)
                                      have bz335002 : gB z335002 1 32 := ⟨by omega, by omega⟩
                                      refine G_iinc (L' := [(10, .int z335002), (9, .int 1), (8, .int p333347), (7, .int o333390), (6, .ref q333330), (5, .int g333285), (4, .ref q331491), (3, .int g330812), (0, .ref q276665), (1, .ref q276666), (2, .int p276667)]) z335002 0 dr_cX17_graph_237 rfl hz335002.symm (Nat.le_of_ble_eq_true rfl) rfl ?_
                                      refine G_goto 210 dr_cX17_graph_240 (by decide +kernel) ?_
                                      have hT335003 : RS D I P276663 F334984 γ el := RS_set hT334886 n334986 ht334972 (by decide) ⟨f334987, he334998, wf334987⟩
                                      exact ih210_334889 F334984 z335002 (gB_w bz335002 (by decide) (by decide)) hT335003 hs334999 (by rw [kp335001]; exact x334888) kp335000 (fun k e1 ht => kt210_334890 k e1 (fun R c1 c2 => c2 F334885 g334884 q334971 f334976 u334977 f334981 u334982 u334983 f334987 F334984 z335002 k e1 bg334884 hT334886 hs334887 x334888 x334889 r334965 fq334966 hx334973 he334975 hu334977 fq334978 he334980 hu334982 hu334983 hf334987 n334986 he334998 ez335002 (ht R c1 c2))) (mz_up ez335002 (Int.le_trans bg334884'.2 (by decide)) hm210_334889)
                                exact hlp210_334889 (((33 : Int) - 0).toNat + 1) F333365 0 (gB_w (gBl (show Int32.toInt 0 = 0 by decide)) (by decide) (by decide)) hT333366 hs333375 gr333381 kp333376 (fun k e1 ht => ht) (Nat.lt_succ_self _)
              exact hlp109_333291 (((z331603.toInt : Int) - (-2)).toNat + 1) F331573 z331603 bz331603 hT331574 hs331580 (by omega) (fun h0 => by have z := gr331563 h0; rw [← kp331582] at z; rw [show (γ 2 q331501 : Nat) = (z331603.toInt + 1 : Int).toNat by omega] at z; exact z) kp331581 (fun k e1 ht => ht) (Nat.lt_succ_self _)
        exact hlp56_330817 (((1000001 : Int) - 0).toNat + 1) F326659 0 (gB_w (gBl (show Int32.toInt 0 = 0 by decide)) (by decide) (by decide)) hT326660 hs326661 (fun _ => gq_0 (fun m hm => x326662 m (by omega))) x326663 (fun k e1 ht => ht) (Nat.lt_succ_self _)
      · have r335004 : g326658.toInt < 2000 := gj_nleL hc326669 (show Int32.toInt 2000 = 2000 by decide)
        have bg326658' : gB g326658 0 1999 := ⟨by omega, by omega⟩
        refine G_aload_n 1 dr_cX17_graph_15 rfl ?_
        have fq335005 : fR (F326659 q276665) 3 = (γ 9 3) := by rw [he326667]; rfl
        refine Gp_get 3 hm326668 he326667 dr_cX17_graph_16 (gk_X17 D I) (Nat.le_of_ble_eq_true rfl) wr_7_77 rfl ?_
        refine G_iload_n 0 dr_cX17_graph_19 rfl ?_
        refine G_iconst 0 dr_cX17_graph_20 (by decide +kernel) ?_
        have hm335006 : (γ 9 3) ∈ P276663 := RS_m hT326660 ht276694 (by decide)
        obtain ⟨f335008, he335007, bf335008⟩ := show rk_14 I (F326659 (γ 9 3)) from RS_o hT326660 ht276694
        refine Gp_zast 3 hm335006 he335007 dr_cX17_graph_21 rfl (gB_in bg326658' (by decide) (by decide)) (fun F335009 e335010 n335011 => ?_)
        obtain ⟨f335012, hf335012⟩ : ∃ z, z = upd f335008 g326658.toNatClampNeg (vp_nar .boolean 0) := ⟨_, rfl⟩
        rw [← hf335012] at e335010
        have he335013 : F335009 q276665 = .inr (22, [.ref (γ 9 0), .ref (γ 9 1), .ref (γ 9 2), .ref (γ 9 3), .ref (γ 9 4), .ref (γ 9 5), .ref (γ 9 6), .ref (γ 9 7), .ref (γ 9 8), .int p276674, .int p276675, .int p276676, .int p276677, .int p276678, .int p276679, .ref (γ 9 15), .ref (γ 9 16), .ref (γ 9 17), .ref (γ 9 18), .ref (γ 9 19), .ref (γ 9 20), .ref (γ 9 21), .ref (γ 9 22), .int p276680, .int p276681, .int p276682, .int p276683, .int p276684, .ref q276672, .ref (γ 9 29), .int p276685, .ref (γ 9 31), .int p276686, .int p276687, .int p276688, .ref q276673]) := (n335011 q276665 (rn_oa he326667 he335007)).trans he326667
        have he335014 : F335009 (γ 9 3) = .inl (I .boolean, 2000, .inl f335012) := e335010
        have hs335015 : rStr γ [] F276664 F335009 := rStr_put hs326661 n335011 ht276694 (by decide)
        have kp335016 : F335009 q276665 = F276664 q276665 := (n335011 q276665 (rn_ty htq276665 ht276694 (by decide))).trans x326663
        have bf335012 : gF f335012 0 1 := gF_upd hf335012 bf335008 (gB_w (gBl (show Int32.toInt 0 = 0 by decide)) (by decide) (by decide))
        refine G_iconst 0 dr_cX17_graph_22 (by decide +kernel) ?_
        refine G_istore (L' := [(4, .int 0), (3, .int g326658), (0, .ref q276665), (1, .ref q276666), (2, .int p276667)]) dr_cX17_graph_23 (Nat.le_of_ble_eq_true rfl) rfl ?_
        have hT335017 : RS D I P276663 F335009 γ el := RS_set hT326660 n335011 ht276694 (by decide) ⟨f335012, he335014, bf335012⟩
        have hlp25_335057 : ∀ (n25_335057 : Nat) (F335053 : Nat → va_E) (g335052 : Int32), gB g335052 0 32 → RS D I P276663 F335053 γ el → rStr γ [] F276664 F335053 → (∀ n : Nat, (n : Int) < g326658.toInt + 1 → ¬ rSd (cB (F335053 (γ 9 3))) n) → (F335053 q276665 = F276664 q276665) → (∀ (k : Nat) (e1 : Nat → va_E), tl_RModel_graph_25 D I γ el P276663 F276664 g326658 q276665 F335053 g335052 k e1 → tl_RModel_graph_25 D I γ el P276663 F276664 g326658 q276665 F335009 (0 : Int32) k e1) → ((33 : Int) - g335052.toInt).toNat < n25_335057 → G (gV D I) l (gRm 5 111 0 0) (gMA (gV D I) (pt_276669_SpillForgeModel_graph D I γ el P276663 F276664 q276665 q276666 p276667) gNA 0 0) ky_276669_SpillForgeModel_graph 25 [(4, .int g335052), (3, .int g326658), (0, .ref q276665), (1, .ref q276666), (2, .int p276667)] [] (va_pl P276663 F335053) 0 0 := by
          intro n25_335057
          induction n25_335057 with
          | zero => intro F335053 g335052 bg335052 hT335054 hs335055 x335056 x335057 kt25_335058 hm25_335057; exact absurd hm25_335057 (Nat.not_lt_zero _)
          | succ n25_335057 ih25_335057 =>
            intro F335053 g335052 bg335052 hT335054 hs335055 x335056 x335057 kt25_335058 hm25_335057
            have hs335059 : rStr γ [] F335009 F335053 := fun b h0 hb hw => (hs335055 b h0 hb hw).trans (hs335015 b h0 hb hw).symm
            have hs335060 : rStr γ [] F276664 F335053 := rStr_tr hs335015 hs335059
            have he335061 : F335053 q276665 = .inr (22, [.ref (γ 9 0), .ref (γ 9 1), .ref (γ 9 2), .ref (γ 9 3), .ref (γ 9 4), .ref (γ 9 5), .ref (γ 9 6), .ref (γ 9 7), .ref (γ 9 8), .int p276674, .int p276675, .int p276676, .int p276677, .int p276678, .int p276679, .ref (γ 9 15), .ref (γ 9 16), .ref (γ 9 17), .ref (γ 9 18), .ref (γ 9 19), .ref (γ 9 20), .ref (γ 9 21), .ref (γ 9 22), .int p276680, .int p276681, .int p276682, .int p276683, .int p276684, .ref q276672, .ref (γ 9 29), .int p276685, .ref (γ 9 31), .int p276686, .int p276687, .int p276688, .ref q276673]) := x335057.trans he276671
            have hm335062 : q276665 ∈ P276663 := RS_m hT335054 htq276665 (by decide)
            refine G_iload 0 dr_cX17_graph_25 rfl ?_
            refine G_bipush 32 dr_cX17_graph_27 (by decide +kernel) ?_
            refine G_icmp_ge 48 dr_cX17_graph_29 (by decide +kernel) (fun hc335063 => ?_) (fun hc335063 => ?_)
            · have r335064 : 32 ≤ g335052.toInt := gj_leL hc335063 (show Int32.toInt 32 = 32 by decide)
              have bg335052' : gB g335052 32 32 := ⟨by omega, by omega⟩
              have hx335065 : tl_RModel_graph_25 D I γ el P276663 F276664 g326658 q276665 F335009 (0 : Int32) 48 F335053 := kt25_335058 48 F335053 (fun R c1 c2 => c1 F335053 g335052 bg335052 hT335054 hs335055 x335056 x335057 r335064)
              obtain ⟨z335066, hz335066⟩ : ∃ z : Int32, z = g326658 + Int32.ofInt 1 := ⟨_, rfl⟩
              have ez335066 : z335066.toInt = g326658.toInt + 1 := gI_inc hz335066 (by decide) bg326658' (by decide) (by decide)
              have bz335066 : gB z335066 1 2000 := ⟨by omega, by omega⟩
              refine G_iinc (L' := [(3, .int z335066), (4, .int g335052), (0, .ref q276665), (1, .ref q276666), (2, .int p276667)]) z335066 1 dr_cX17_graph_48 rfl hz335066.symm (Nat.le_of_ble_eq_true rfl) rfl ?_
              refine G_goto 8 dr_cX17_graph_51 (by decide +kernel) ?_
              refine G_lv (L' := [(3, .int z335066), (0, .ref q276665), (1, .ref q276666), (2, .int p276667)]) [0, 2, 3, 4] rfl ?_
              exact ih8_326663 F335053 z335066 (gB_w bz335066 (by decide) (by decide)) hT335054 hs335055 (by rw [ez335066]; exact x335056) x335057 (fun k e1 ht => kt8_326664 k e1 (fun R c1 c2 => c2 F326659 g326658 f335008 f335012 F335009 F335053 z335066 k e1 bg326658 hT326660 hs326661 x326662 x326663 r335004 fq335005 he335007 hf335012 n335011 he335014 hx335065 ez335066 (ht R c1 c2))) (mz_up ez335066 (Int.le_trans bg326658'.2 (by decide)) hm8_326663)
            · have r335067 : g335052.toInt < 32 := gj_nleL hc335063 (show Int32.toInt 32 = 32 by decide)
              have bg335052' : gB g335052 0 31 := ⟨by omega, by omega⟩
              refine G_aload_n 2 dr_cX17_graph_32 rfl ?_
              have fq335068 : fR (F335053 q276665) 1 = (γ 9 1) := by rw [he335061]; rfl
              refine Gp_get 1 hm335062 he335061 dr_cX17_graph_33 (gk_X17 D I) (Nat.le_of_ble_eq_true rfl) wr_7_75 rfl ?_
              refine G_iload_n 1 dr_cX17_graph_36 rfl ?_
              have hm335069 : (γ 9 1) ∈ P276663 := RS_m hT335054 ht276692 (by decide)
              obtain ⟨f335071, he335070, hg335072⟩ := show rk_13 I γ (F335053 (γ 9 1)) from RS_o hT335054 ht276692
              obtain ⟨q335073, hx335075⟩ : ∃ x, x = γ 11 g326658.toInt.toNat := ⟨_, rfl⟩
              have ht335074 : rKd γ q335073 36 := by rw [hx335075]; exact (hg335072 _ (show g326658.toInt.toNat < 2000 by omega)).2.1
              refine Gp_aald 5 hm335069 he335070 dr_cX17_graph_37 rfl rfl (gB_in bg326658' (by decide) (by decide)) ?_
              rw [show f335071 g326658.toNatClampNeg = some q335073 from (hg335072 _ (show g326658.toInt.toNat < 2000 by omega)).1.trans (by rw [hx335075])]
              change G _ _ _ _ _ _ _ (.ref q335073 :: _) _ _ _
              refine G_iload 0 dr_cX17_graph_38 rfl ?_
              refine G_lconst 0 dr_cX17_graph_40 rfl ?_
              have hm335076 : q335073 ∈ P276663 := RS_m hT335054 ht335074 (by decide)
              obtain ⟨f335078, he335077, wf335078⟩ := show rk_36 I (F335053 q335073) from RS_o hT335054 ht335074
              refine Gp_last 2 hm335076 he335077 dr_cX17_graph_41 rfl (gB_in bg335052' (by decide) (by decide)) (fun F335079 e335080 n335081 => ?_)
              obtain ⟨f335082, hf335082⟩ : ∃ z, z = vp_updL f335078 g335052.toNatClampNeg 0 := ⟨_, rfl⟩
              rw [← hf335082] at e335080
              have he335083 : F335079 q276665 = .inr (22, [.ref (γ 9 0), .ref (γ 9 1), .ref (γ 9 2), .ref (γ 9 3), .ref (γ 9 4), .ref (γ 9 5), .ref (γ 9 6), .ref (γ 9 7), .ref (γ 9 8), .int p276674, .int p276675, .int p276676, .int p276677, .int p276678, .int p276679, .ref (γ 9 15), .ref (γ 9 16), .ref (γ 9 17), .ref (γ 9 18), .ref (γ 9 19), .ref (γ 9 20), .ref (γ 9 21), .ref (γ 9 22), .int p276680, .int p276681, .int p276682, .int p276683, .int p276684, .ref q276672, .ref (γ 9 29), .int p276685, .ref (γ 9 31), .int p276686, .int p276687, .int p276688, .ref q276673]) := (n335081 q276665 (rn_oa he335061 he335077)).trans he335061
              have he335084 : F335079 (γ 9 1) = .inl (I (.array .long), 2000, .inr (.inr (.inr (.inr f335071)))) := (n335081 (γ 9 1) (rn_ref_long he335070 he335077)).trans he335070
              have he335085 : F335079 q335073 = .inl (I .long, 32, .inr (.inl f335082)) := e335080
              have hs335086 : rStr γ [] F276664 F335079 := rStr_put hs335055 n335081 ht335074 (by decide)
              have kp335087 : F335079 q276665 = F276664 q276665 := (n335081 q276665 (rn_ty htq276665 ht335074 (by decide))).trans x335057
              have kp335088 : F335079 (γ 9 3) = F335053 (γ 9 3) := n335081 (γ 9 3) (rn_ty ht276694 ht335074 (by decide))
              have wf335082 : lb_W f335082 (32) (32) (2000) := lb_Wst hf335082 wf335078 (by omega) (lb_Mod0 (by omega) (by omega)) lb_Q0
              obtain ⟨z335089, hz335089⟩ : ∃ z : Int32, z = g335052 + Int32.ofInt 1 := ⟨_, rfl⟩
              have ez335089 : z335089.toInt = g335052.toInt + 1 := gI_inc hz335089 (by decide) bg335052' (by decide) (by decide)
              have bz335089 : gB z335089 1 32 := ⟨by omega, by omega⟩
              refine G_iinc (L' := [(4, .int z335089), (3, .int g326658), (0, .ref q276665), (1, .ref q276666), (2, .int p276667)]) z335089 0 dr_cX17_graph_42 rfl hz335089.symm (Nat.le_of_ble_eq_true rfl) rfl ?_
              refine G_goto 25 dr_cX17_graph_45 (by decide +kernel) ?_
              have hT335090 : RS D I P276663 F335079 γ el := RS_set hT335054 n335081 ht335074 (by decide) ⟨f335082, he335085, wf335082⟩
              exact ih25_335057 F335079 z335089 (gB_w bz335089 (by decide) (by decide)) hT335090 hs335086 (by rw [kp335088]; exact x335056) kp335087 (fun k e1 ht => kt25_335058 k e1 (fun R c1 c2 => c2 F335053 g335052 q335073 f335078 f335082 F335079 z335089 k e1 bg335052 hT335054 hs335055 x335056 x335057 r335067 fq335068 hx335075 he335077 hf335082 n335081 he335085 ez335089 (ht R c1 c2))) (mz_up ez335089 (Int.le_trans bg335052'.2 (by decide)) hm25_335057)
        exact hlp25_335057 (((33 : Int) - 0).toNat + 1) F335009 0 (gB_w (gBl (show Int32.toInt 0 = 0 by decide)) (by decide) (by decide)) hT335017 hs335015 (by rw [cB_of he335014]; exact sd_z hf335012 (by omega) (by have q := x326662; rw [cB_of he335007] at q; exact q)) kp335016 (fun k e1 ht => ht) (Nat.lt_succ_self _)
  exact hlp8_326663 (((2001 : Int) - 0).toNat + 1) F276724 0 (gB_w (gBl (show Int32.toInt 0 = 0 by decide)) (by decide) (by decide)) hT276725 hs276727 (fun n hn => absurd hn (by have qa : Int32.toInt 0 = 0 := (by decide); omega)) kp276728 (fun k e1 ht => ht) (Nat.lt_succ_self _)
