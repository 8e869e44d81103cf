theorem dr_cX17_spill_0 : decode cX17_spill 0 = .ok (.iconst 0, 1) := by decide +kernel
theorem dr_cX17_spill_1 : decode cX17_spill 1 = .ok (.istore_n 2, 1) := by decide +kernel
theorem dr_cX17_spill_2 : decode cX17_spill 2 = .ok (.iload_n 2, 1) := by decide +kernel
theorem dr_cX17_spill_3 : decode cX17_spill 3 = .ok (.sipush 2000, 3) := by decide +kernel
theorem dr_cX17_spill_6 : decode cX17_spill 6 = .ok (.if_icmp .ge 65, 3) := by decide +kernel
theorem dr_cX17_spill_71 : decode cX17_spill 71 = .ok (.iconst 0, 1) := by decide +kernel
theorem dr_cX17_spill_72 : decode cX17_spill 72 = .ok (.istore_n 2, 1) := by decide +kernel
theorem dr_cX17_spill_73 : decode cX17_spill 73 = .ok (.iload_n 2, 1) := by decide +kernel
theorem dr_cX17_spill_74 : decode cX17_spill 74 = .ok (.aload_n 1, 1) := by decide +kernel
theorem dr_cX17_spill_75 : decode cX17_spill 75 = .ok (.invokevirtual 96, 3) := by decide +kernel
theorem dr_cX17_spill_78 : decode cX17_spill 78 = .ok (.if_icmp .ge 353, 3) := by decide +kernel
theorem dr_cX17_spill_431 : decode cX17_spill 431 = .ok (.aload_n 1, 1) := by decide +kernel
theorem dr_cX17_spill_432 : decode cX17_spill 432 = .ok (.invokevirtual 234, 3) := by decide +kernel
theorem wr_10_229 : (Jvm.Cond.methodLink "SpillForgeModel" (234 : Nat) ({ cls := "SpillForgeModel$Code", name := "countRows", desc := "()I" } : Jvm.MethodName)) ∈ gw := gw_10 229 rfl rfl
theorem wr_10_232 : (Jvm.Cond.code ({ cls := "SpillForgeModel$Code", name := "countRows", desc := "()I" } : Jvm.MethodName) prog_16_method_7_code (3 : Nat) (Option.some Jvm.ClassFile.FieldType.int)) ∈ gw := gw_10 232 rfl rfl
theorem wr_10_230 : (Jvm.Cond.instanceMethod ({ cls := "SpillForgeModel$Code", name := "countRows", desc := "()I" } : Jvm.MethodName)) ∈ gw := gw_10 230 rfl rfl
theorem wr_10_231 : (Jvm.Cond.selects "SpillForgeModel$Code" ({ cls := "SpillForgeModel$Code", name := "countRows", desc := "()I" } : Jvm.MethodName) ({ cls := "SpillForgeModel$Code", name := "countRows", desc := "()I" } : Jvm.MethodName)) ∈ gw := gw_10 231 rfl rfl
theorem dr_cX17_spill_435 : decode cX17_spill 435 = .ok (.sipush 4000, 3) := by decide +kernel
theorem dr_cX17_spill_438 : decode cX17_spill 438 = .ok (.if_icmp .gt 7, 3) := by decide +kernel
theorem dr_cX17_spill_445 : decode cX17_spill 445 = .ok (.iconst 0, 1) := by decide +kernel
theorem dr_cX17_spill_446 : decode cX17_spill 446 = .ok (.ireturn, 1) := by decide +kernel
theorem dr_cX17_spill_441 : decode cX17_spill 441 = .ok (.iconst 1, 1) := by decide +kernel
theorem dr_cX17_spill_442 : decode cX17_spill 442 = .ok (.goto 4, 3) := by decide +kernel
theorem dr_cX17_spill_81 : decode cX17_spill 81 = .ok (.aload_n 1, 1) := by decide +kernel
theorem dr_cX17_spill_82 : decode cX17_spill 82 = .ok (.iload_n 2, 1) := by decide +kernel
theorem dr_cX17_spill_83 : decode cX17_spill 83 = .ok (.invokevirtual 101, 3) := by decide +kernel
theorem dr_cX17_spill_86 : decode cX17_spill 86 = .ok (.astore_n 3, 1) := by decide +kernel
theorem dr_cX17_spill_87 : decode cX17_spill 87 = .ok (.iconst 0, 1) := by decide +kernel
theorem dr_cX17_spill_88 : decode cX17_spill 88 = .ok (.istore 4, 2) := by decide +kernel
theorem dr_cX17_spill_90 : decode cX17_spill 90 = .ok (.iload 4, 2) := by decide +kernel
theorem dr_cX17_spill_92 : decode cX17_spill 92 = .ok (.aload_n 3, 1) := by decide +kernel
theorem dr_cX17_spill_93 : decode cX17_spill 93 = .ok (.getfield 117, 3) := by decide +kernel
theorem dr_cX17_spill_96 : decode cX17_spill 96 = .ok (.invokevirtual 121, 3) := by decide +kernel
theorem dr_cX17_spill_99 : decode cX17_spill 99 = .ok (.if_icmp .gt 326, 3) := by decide +kernel
theorem dr_cX17_spill_425 : decode cX17_spill 425 = .ok (.iinc 2 1, 3) := by decide +kernel
theorem dr_cX17_spill_428 : decode cX17_spill 428 = .ok (.goto (-355), 3) := by decide +kernel
theorem dr_cX17_spill_292 : decode cX17_spill 292 = .ok (.aload 5, 2) := by decide +kernel
theorem dr_cX17_spill_294 : decode cX17_spill 294 = .ok (.invokevirtual 48, 3) := by decide +kernel
theorem dr_cX17_spill_297 : decode cX17_spill 297 = .ok (.ifCond .eq 122, 3) := by decide +kernel
theorem dr_cX17_spill_419 : decode cX17_spill 419 = .ok (.iinc 4 1, 3) := by decide +kernel
theorem dr_cX17_spill_422 : decode cX17_spill 422 = .ok (.goto (-332), 3) := by decide +kernel
theorem dr_cX17_spill_300 : decode cX17_spill 300 = .ok (.aload 5, 2) := by decide +kernel
theorem dr_cX17_spill_302 : decode cX17_spill 302 = .ok (.getfield 39, 3) := by decide +kernel
theorem dr_cX17_spill_305 : decode cX17_spill 305 = .ok (.bipush 21, 2) := by decide +kernel
theorem dr_cX17_spill_307 : decode cX17_spill 307 = .ok (.if_icmp .eq 112, 3) := by decide +kernel
theorem dr_cX17_spill_310 : decode cX17_spill 310 = .ok (.aload_n 0, 1) := by decide +kernel
theorem dr_cX17_spill_311 : decode cX17_spill 311 = .ok (.getfield 221, 3) := by decide +kernel
theorem dr_cX17_spill_314 : decode cX17_spill 314 = .ok (.aload 5, 2) := by decide +kernel
theorem dr_cX17_spill_316 : decode cX17_spill 316 = .ok (.getfield 52, 3) := by decide +kernel
theorem dr_cX17_spill_319 : decode cX17_spill 319 = .ok (.iaload, 1) := by decide +kernel
theorem dr_cX17_spill_320 : decode cX17_spill 320 = .ok (.ifCond .ge 6, 3) := by decide +kernel
theorem dr_cX17_spill_326 : decode cX17_spill 326 = .ok (.aload_n 0, 1) := by decide +kernel
theorem dr_cX17_spill_327 : decode cX17_spill 327 = .ok (.getfield 221, 3) := by decide +kernel
theorem dr_cX17_spill_330 : decode cX17_spill 330 = .ok (.aload 5, 2) := by decide +kernel
theorem dr_cX17_spill_332 : decode cX17_spill 332 = .ok (.getfield 52, 3) := by decide +kernel
theorem dr_cX17_spill_335 : decode cX17_spill 335 = .ok (.iaload, 1) := by decide +kernel
theorem dr_cX17_spill_336 : decode cX17_spill 336 = .ok (.istore 8, 2) := by decide +kernel
theorem dr_cX17_spill_338 : decode cX17_spill 338 = .ok (.aload_n 0, 1) := by decide +kernel
theorem dr_cX17_spill_339 : decode cX17_spill 339 = .ok (.getfield 231, 3) := by decide +kernel
theorem dr_cX17_spill_342 : decode cX17_spill 342 = .ok (.sipush 2000, 3) := by decide +kernel
theorem dr_cX17_spill_345 : decode cX17_spill 345 = .ok (.if_icmp .ne 5, 3) := by decide +kernel
theorem dr_cX17_spill_350 : decode cX17_spill 350 = .ok (.aload 5, 2) := by decide +kernel
theorem dr_cX17_spill_352 : decode cX17_spill 352 = .ok (.aload_n 0, 1) := by decide +kernel
theorem dr_cX17_spill_353 : decode cX17_spill 353 = .ok (.getfield 231, 3) := by decide +kernel
theorem dr_cX17_spill_356 : decode cX17_spill 356 = .ok (.putfield 52, 3) := by decide +kernel
theorem dr_cX17_spill_359 : decode cX17_spill 359 = .ok (.aload_n 0, 1) := by decide +kernel
theorem dr_cX17_spill_360 : decode cX17_spill 360 = .ok (.dup, 1) := by decide +kernel
theorem dr_cX17_spill_361 : decode cX17_spill 361 = .ok (.getfield 231, 3) := by decide +kernel
theorem dr_cX17_spill_364 : decode cX17_spill 364 = .ok (.iconst 1, 1) := by decide +kernel
theorem dr_cX17_spill_365 : decode cX17_spill 365 = .ok (.iadd, 1) := by decide +kernel
theorem dr_cX17_spill_366 : decode cX17_spill 366 = .ok (.putfield 231, 3) := by decide +kernel
theorem dr_cX17_spill_369 : decode cX17_spill 369 = .ok (.aload_n 1, 1) := by decide +kernel
theorem dr_cX17_spill_370 : decode cX17_spill 370 = .ok (.invokevirtual 177, 3) := by decide +kernel
theorem dr_cX17_spill_373 : decode cX17_spill 373 = .ok (.astore 9, 2) := by decide +kernel
theorem dr_cX17_spill_375 : decode cX17_spill 375 = .ok (.aload 9, 2) := by decide +kernel
theorem dr_cX17_spill_377 : decode cX17_spill 377 = .ok (.bipush 23, 2) := by decide +kernel
theorem dr_cX17_spill_379 : decode cX17_spill 379 = .ok (.putfield 39, 3) := by decide +kernel
theorem dr_cX17_spill_382 : decode cX17_spill 382 = .ok (.aload 9, 2) := by decide +kernel
theorem dr_cX17_spill_384 : decode cX17_spill 384 = .ok (.iload 8, 2) := by decide +kernel
theorem dr_cX17_spill_386 : decode cX17_spill 386 = .ok (.putfield 45, 3) := by decide +kernel
theorem dr_cX17_spill_389 : decode cX17_spill 389 = .ok (.aload 9, 2) := by decide +kernel
theorem dr_cX17_spill_391 : decode cX17_spill 391 = .ok (.aload 5, 2) := by decide +kernel
theorem dr_cX17_spill_393 : decode cX17_spill 393 = .ok (.getfield 52, 3) := by decide +kernel
theorem dr_cX17_spill_396 : decode cX17_spill 396 = .ok (.putfield 73, 3) := by decide +kernel
theorem dr_cX17_spill_399 : decode cX17_spill 399 = .ok (.aload 9, 2) := by decide +kernel
theorem dr_cX17_spill_401 : decode cX17_spill 401 = .ok (.iconst 1, 1) := by decide +kernel
theorem dr_cX17_spill_402 : decode cX17_spill 402 = .ok (.putfield 141, 3) := by decide +kernel
theorem dr_cX17_spill_405 : decode cX17_spill 405 = .ok (.iinc 4 1, 3) := by decide +kernel
theorem dr_cX17_spill_408 : decode cX17_spill 408 = .ok (.aload_n 3, 1) := by decide +kernel
theorem dr_cX17_spill_409 : decode cX17_spill 409 = .ok (.getfield 117, 3) := by decide +kernel
theorem dr_cX17_spill_412 : decode cX17_spill 412 = .ok (.iload 4, 2) := by decide +kernel
theorem dr_cX17_spill_414 : decode cX17_spill 414 = .ok (.aload 9, 2) := by decide +kernel
theorem dr_cX17_spill_416 : decode cX17_spill 416 = .ok (.invokevirtual 181, 3) := by decide +kernel
theorem dr_cX17_spill_348 : decode cX17_spill 348 = .ok (.iconst 0, 1) := by decide +kernel
theorem dr_cX17_spill_349 : decode cX17_spill 349 = .ok (.ireturn, 1) := by decide +kernel
theorem dr_cX17_spill_323 : decode cX17_spill 323 = .ok (.goto 96, 3) := by decide +kernel
theorem dr_cX17_spill_236 : decode cX17_spill 236 = .ok (.iload 7, 2) := by decide +kernel
theorem dr_cX17_spill_238 : decode cX17_spill 238 = .ok (.ifCond .lt 54, 3) := by decide +kernel
theorem dr_cX17_spill_241 : decode cX17_spill 241 = .ok (.iload 7, 2) := by decide +kernel
theorem dr_cX17_spill_243 : decode cX17_spill 243 = .ok (.iload 6, 2) := by decide +kernel
theorem dr_cX17_spill_245 : decode cX17_spill 245 = .ok (.if_icmp .eq 47, 3) := by decide +kernel
theorem dr_cX17_spill_248 : decode cX17_spill 248 = .ok (.aload_n 0, 1) := by decide +kernel
theorem dr_cX17_spill_249 : decode cX17_spill 249 = .ok (.getfield 221, 3) := by decide +kernel
theorem dr_cX17_spill_252 : decode cX17_spill 252 = .ok (.iload 7, 2) := by decide +kernel
theorem dr_cX17_spill_254 : decode cX17_spill 254 = .ok (.iaload, 1) := by decide +kernel
theorem dr_cX17_spill_255 : decode cX17_spill 255 = .ok (.ifCond .lt 37, 3) := by decide +kernel
theorem dr_cX17_spill_258 : decode cX17_spill 258 = .ok (.aload_n 0, 1) := by decide +kernel
theorem dr_cX17_spill_259 : decode cX17_spill 259 = .ok (.aload_n 1, 1) := by decide +kernel
theorem dr_cX17_spill_260 : decode cX17_spill 260 = .ok (.aload_n 3, 1) := by decide +kernel
theorem dr_cX17_spill_261 : decode cX17_spill 261 = .ok (.iload 4, 2) := by decide +kernel
theorem dr_cX17_spill_263 : decode cX17_spill 263 = .ok (.aload_n 0, 1) := by decide +kernel
theorem dr_cX17_spill_264 : decode cX17_spill 264 = .ok (.getfield 221, 3) := by decide +kernel
theorem dr_cX17_spill_267 : decode cX17_spill 267 = .ok (.iload 7, 2) := by decide +kernel
theorem dr_cX17_spill_269 : decode cX17_spill 269 = .ok (.iaload, 1) := by decide +kernel
theorem dr_cX17_spill_270 : decode cX17_spill 270 = .ok (.invokevirtual 227, 3) := by decide +kernel
theorem wr_11_67 : (Jvm.Cond.methodLink "SpillForgeModel" (227 : Nat) ({ cls := "SpillForgeModel", name := "load", desc := "(LSpillForgeModel$Code;LSpillForgeModel$Block;II)I" } : Jvm.MethodName)) ∈ gw := gw_11 67 rfl rfl
theorem wr_11_70 : (Jvm.Cond.code ({ cls := "SpillForgeModel", name := "load", desc := "(LSpillForgeModel$Code;LSpillForgeModel$Block;II)I" } : Jvm.MethodName) prog_14_method_23_code (6 : Nat) (Option.some Jvm.ClassFile.FieldType.int)) ∈ gw := gw_11 70 rfl rfl
theorem wr_11_69 : (Jvm.Cond.instanceMethod ({ cls := "SpillForgeModel", name := "load", desc := "(LSpillForgeModel$Code;LSpillForgeModel$Block;II)I" } : Jvm.MethodName)) ∈ gw := gw_11 69 rfl rfl
theorem wr_p_111 : Cond.selects "SpillForgeModel" ⟨"SpillForgeModel", "load", "(LSpillForgeModel$Code;LSpillForgeModel$Block;II)I"⟩ ⟨"SpillForgeModel", "load", "(LSpillForgeModel$Code;LSpillForgeModel$Block;II)I"⟩ ∈ gw := gw_p _ 111 rfl rfl rfl
theorem dr_cX17_spill_273 : decode cX17_spill 273 = .ok (.istore 8, 2) := by decide +kernel
theorem dr_cX17_spill_275 : decode cX17_spill 275 = .ok (.iload 8, 2) := by decide +kernel
theorem dr_cX17_spill_277 : decode cX17_spill 277 = .ok (.ifCond .ge 5, 3) := by decide +kernel
theorem dr_cX17_spill_282 : decode cX17_spill 282 = .ok (.iinc 4 1, 3) := by decide +kernel
theorem dr_cX17_spill_285 : decode cX17_spill 285 = .ok (.aload 5, 2) := by decide +kernel
theorem dr_cX17_spill_287 : decode cX17_spill 287 = .ok (.iload 8, 2) := by decide +kernel
theorem dr_cX17_spill_289 : decode cX17_spill 289 = .ok (.putfield 79, 3) := by decide +kernel
theorem dr_cX17_spill_280 : decode cX17_spill 280 = .ok (.iconst 0, 1) := by decide +kernel
theorem dr_cX17_spill_281 : decode cX17_spill 281 = .ok (.ireturn, 1) := by decide +kernel
theorem dr_cX17_spill_102 : decode cX17_spill 102 = .ok (.iload 4, 2) := by decide +kernel
theorem dr_cX17_spill_104 : decode cX17_spill 104 = .ok (.aload_n 3, 1) := by decide +kernel
theorem dr_cX17_spill_105 : decode cX17_spill 105 = .ok (.getfield 117, 3) := by decide +kernel
theorem dr_cX17_spill_108 : decode cX17_spill 108 = .ok (.invokevirtual 121, 3) := by decide +kernel
theorem dr_cX17_spill_111 : decode cX17_spill 111 = .ok (.if_icmp .ge 18, 3) := by decide +kernel
theorem dr_cX17_spill_129 : decode cX17_spill 129 = .ok (.aload_n 3, 1) := by decide +kernel
theorem dr_cX17_spill_130 : decode cX17_spill 130 = .ok (.getfield 109, 3) := by decide +kernel
theorem dr_cX17_spill_133 : decode cX17_spill 133 = .ok (.astore 5, 2) := by decide +kernel
theorem dr_cX17_spill_135 : decode cX17_spill 135 = .ok (.aload 5, 2) := by decide +kernel
theorem dr_cX17_spill_137 : decode cX17_spill 137 = .ok (.invokevirtual 70, 3) := by decide +kernel
theorem dr_cX17_spill_140 : decode cX17_spill 140 = .ok (.ifCond .eq 11, 3) := by decide +kernel
theorem dr_cX17_spill_151 : decode cX17_spill 151 = .ok (.iconst (-1), 1) := by decide +kernel
theorem dr_cX17_spill_152 : decode cX17_spill 152 = .ok (.istore 6, 2) := by decide +kernel
theorem dr_cX17_spill_154 : decode cX17_spill 154 = .ok (.aload 5, 2) := by decide +kernel
theorem dr_cX17_spill_156 : decode cX17_spill 156 = .ok (.invokevirtual 76, 3) := by decide +kernel
theorem dr_cX17_spill_159 : decode cX17_spill 159 = .ok (.ifCond .eq 11, 3) := by decide +kernel
theorem dr_cX17_spill_170 : decode cX17_spill 170 = .ok (.iconst (-1), 1) := by decide +kernel
theorem dr_cX17_spill_171 : decode cX17_spill 171 = .ok (.istore 7, 2) := by decide +kernel
theorem dr_cX17_spill_173 : decode cX17_spill 173 = .ok (.iload 6, 2) := by decide +kernel
theorem dr_cX17_spill_175 : decode cX17_spill 175 = .ok (.ifCond .lt 61, 3) := by decide +kernel
theorem dr_cX17_spill_162 : decode cX17_spill 162 = .ok (.aload 5, 2) := by decide +kernel
theorem dr_cX17_spill_164 : decode cX17_spill 164 = .ok (.getfield 79, 3) := by decide +kernel
theorem dr_cX17_spill_167 : decode cX17_spill 167 = .ok (.goto 4, 3) := by decide +kernel
theorem dr_cX17_spill_143 : decode cX17_spill 143 = .ok (.aload 5, 2) := by decide +kernel
theorem dr_cX17_spill_145 : decode cX17_spill 145 = .ok (.getfield 73, 3) := by decide +kernel
theorem dr_cX17_spill_148 : decode cX17_spill 148 = .ok (.goto 4, 3) := by decide +kernel
theorem dr_cX17_spill_178 : decode cX17_spill 178 = .ok (.aload_n 0, 1) := by decide +kernel
theorem dr_cX17_spill_179 : decode cX17_spill 179 = .ok (.getfield 221, 3) := by decide +kernel
theorem dr_cX17_spill_182 : decode cX17_spill 182 = .ok (.iload 6, 2) := by decide +kernel
theorem dr_cX17_spill_184 : decode cX17_spill 184 = .ok (.iaload, 1) := by decide +kernel
theorem dr_cX17_spill_185 : decode cX17_spill 185 = .ok (.ifCond .lt 51, 3) := by decide +kernel
theorem dr_cX17_spill_188 : decode cX17_spill 188 = .ok (.aload_n 0, 1) := by decide +kernel
theorem dr_cX17_spill_189 : decode cX17_spill 189 = .ok (.aload_n 1, 1) := by decide +kernel
theorem dr_cX17_spill_190 : decode cX17_spill 190 = .ok (.aload_n 3, 1) := by decide +kernel
theorem dr_cX17_spill_191 : decode cX17_spill 191 = .ok (.iload 4, 2) := by decide +kernel
theorem dr_cX17_spill_193 : decode cX17_spill 193 = .ok (.aload_n 0, 1) := by decide +kernel
theorem dr_cX17_spill_194 : decode cX17_spill 194 = .ok (.getfield 221, 3) := by decide +kernel
theorem dr_cX17_spill_197 : decode cX17_spill 197 = .ok (.iload 6, 2) := by decide +kernel
theorem dr_cX17_spill_199 : decode cX17_spill 199 = .ok (.iaload, 1) := by decide +kernel
theorem dr_cX17_spill_200 : decode cX17_spill 200 = .ok (.invokevirtual 227, 3) := by decide +kernel
theorem dr_cX17_spill_203 : decode cX17_spill 203 = .ok (.istore 8, 2) := by decide +kernel
theorem dr_cX17_spill_205 : decode cX17_spill 205 = .ok (.iload 8, 2) := by decide +kernel
theorem dr_cX17_spill_207 : decode cX17_spill 207 = .ok (.ifCond .ge 5, 3) := by decide +kernel
theorem dr_cX17_spill_212 : decode cX17_spill 212 = .ok (.iinc 4 1, 3) := by decide +kernel
theorem dr_cX17_spill_215 : decode cX17_spill 215 = .ok (.aload 5, 2) := by decide +kernel
theorem dr_cX17_spill_217 : decode cX17_spill 217 = .ok (.iload 8, 2) := by decide +kernel
theorem dr_cX17_spill_219 : decode cX17_spill 219 = .ok (.putfield 73, 3) := by decide +kernel
theorem dr_cX17_spill_222 : decode cX17_spill 222 = .ok (.iload 7, 2) := by decide +kernel
theorem dr_cX17_spill_224 : decode cX17_spill 224 = .ok (.iload 6, 2) := by decide +kernel
theorem dr_cX17_spill_226 : decode cX17_spill 226 = .ok (.if_icmp .ne 10, 3) := by decide +kernel
theorem dr_cX17_spill_210 : decode cX17_spill 210 = .ok (.iconst 0, 1) := by decide +kernel
theorem dr_cX17_spill_211 : decode cX17_spill 211 = .ok (.ireturn, 1) := by decide +kernel
theorem dr_cX17_spill_229 : decode cX17_spill 229 = .ok (.aload 5, 2) := by decide +kernel
theorem dr_cX17_spill_231 : decode cX17_spill 231 = .ok (.iload 8, 2) := by decide +kernel
theorem dr_cX17_spill_233 : decode cX17_spill 233 = .ok (.putfield 79, 3) := by decide +kernel
theorem dr_cX17_spill_114 : decode cX17_spill 114 = .ok (.aload_n 3, 1) := by decide +kernel
theorem dr_cX17_spill_115 : decode cX17_spill 115 = .ok (.getfield 117, 3) := by decide +kernel
theorem dr_cX17_spill_118 : decode cX17_spill 118 = .ok (.iload 4, 2) := by decide +kernel
theorem dr_cX17_spill_120 : decode cX17_spill 120 = .ok (.invokevirtual 124, 3) := by decide +kernel
theorem dr_cX17_spill_123 : decode cX17_spill 123 = .ok (.checkcast 40, 3) := by decide +kernel
theorem dr_cX17_spill_126 : decode cX17_spill 126 = .ok (.goto 7, 3) := by decide +kernel
theorem dr_cX17_spill_9 : decode cX17_spill 9 = .ok (.aload_n 0, 1) := by decide +kernel
theorem dr_cX17_spill_10 : decode cX17_spill 10 = .ok (.getfield 221, 3) := by decide +kernel
theorem dr_cX17_spill_13 : decode cX17_spill 13 = .ok (.iload_n 2, 1) := by decide +kernel
theorem dr_cX17_spill_14 : decode cX17_spill 14 = .ok (.iconst (-1), 1) := by decide +kernel
theorem dr_cX17_spill_15 : decode cX17_spill 15 = .ok (.iastore, 1) := by decide +kernel
theorem dr_cX17_spill_16 : decode cX17_spill 16 = .ok (.aload_n 0, 1) := by decide +kernel
theorem dr_cX17_spill_17 : decode cX17_spill 17 = .ok (.getfield 131, 3) := by decide +kernel
theorem dr_cX17_spill_20 : decode cX17_spill 20 = .ok (.iload_n 2, 1) := by decide +kernel
theorem dr_cX17_spill_21 : decode cX17_spill 21 = .ok (.baload, 1) := by decide +kernel
theorem dr_cX17_spill_22 : decode cX17_spill 22 = .ok (.ifCond .eq 43, 3) := by decide +kernel
theorem dr_cX17_spill_65 : decode cX17_spill 65 = .ok (.iinc 2 1, 3) := by decide +kernel
theorem dr_cX17_spill_68 : decode cX17_spill 68 = .ok (.goto (-66), 3) := by decide +kernel
theorem dr_cX17_spill_25 : decode cX17_spill 25 = .ok (.aload_n 0, 1) := by decide +kernel
theorem dr_cX17_spill_26 : decode cX17_spill 26 = .ok (.getfield 212, 3) := by decide +kernel
theorem dr_cX17_spill_29 : decode cX17_spill 29 = .ok (.iload_n 2, 1) := by decide +kernel
theorem dr_cX17_spill_30 : decode cX17_spill 30 = .ok (.iaload, 1) := by decide +kernel
theorem dr_cX17_spill_31 : decode cX17_spill 31 = .ok (.ifCond .lt 6, 3) := by decide +kernel
theorem dr_cX17_spill_37 : decode cX17_spill 37 = .ok (.iload_n 2, 1) := by decide +kernel
theorem dr_cX17_spill_38 : decode cX17_spill 38 = .ok (.bipush 100, 2) := by decide +kernel
theorem dr_cX17_spill_40 : decode cX17_spill 40 = .ok (.if_icmp .lt 5, 3) := by decide +kernel
theorem dr_cX17_spill_45 : decode cX17_spill 45 = .ok (.aload_n 0, 1) := by decide +kernel
theorem dr_cX17_spill_46 : decode cX17_spill 46 = .ok (.getfield 221, 3) := by decide +kernel
theorem dr_cX17_spill_49 : decode cX17_spill 49 = .ok (.iload_n 2, 1) := by decide +kernel
theorem dr_cX17_spill_50 : decode cX17_spill 50 = .ok (.aload_n 0, 1) := by decide +kernel
theorem dr_cX17_spill_51 : decode cX17_spill 51 = .ok (.getfield 224, 3) := by decide +kernel
theorem dr_cX17_spill_54 : decode cX17_spill 54 = .ok (.iastore, 1) := by decide +kernel
theorem dr_cX17_spill_55 : decode cX17_spill 55 = .ok (.aload_n 0, 1) := by decide +kernel
theorem dr_cX17_spill_56 : decode cX17_spill 56 = .ok (.dup, 1) := by decide +kernel
theorem dr_cX17_spill_57 : decode cX17_spill 57 = .ok (.getfield 224, 3) := by decide +kernel
theorem dr_cX17_spill_60 : decode cX17_spill 60 = .ok (.iconst 1, 1) := by decide +kernel
theorem dr_cX17_spill_61 : decode cX17_spill 61 = .ok (.iadd, 1) := by decide +kernel
theorem dr_cX17_spill_62 : decode cX17_spill 62 = .ok (.putfield 224, 3) := by decide +kernel
theorem dr_cX17_spill_43 : decode cX17_spill 43 = .ok (.iconst 0, 1) := by decide +kernel
theorem dr_cX17_spill_44 : decode cX17_spill 44 = .ok (.ireturn, 1) := by decide +kernel
theorem dr_cX17_spill_34 : decode cX17_spill 34 = .ok (.goto 31, 3) := by decide +kernel
abbrev ky_561374_SpillForgeModel_spill : gKey := (cX17_spill, 10, "SpillForgeModel", (some FieldType.boolean), [], "spill", fun _ _ => True)
def pg_561374_SpillForgeModel_spill (D : va_G) (I : FieldType → ClassId) (γ0 el0 : Nat → Nat → Nat) (f : Nat) (B : Nat) (P561364 : List Nat) (F561365 : Nat → va_E) (q561366 : Nat) (q561367 : Nat) : Option Value → va_W → Nat → Nat → Prop := fun r w dc ds => ∃ (P601766 : List Nat) (F601767 : Nat → va_E) (γ el : Nat → Nat → Nat) (o601765 : Int32), r = some (.int o601765) ∧ w = va_pl P601766 F601767 ∧ rSk f [101] ([1, 3, 5, 6, 8, 9, 101] ++ npk) D I P561364 F561365 γ0 el0 P601766 F601767 γ el ∧ (18 * dc + rPh γ0 el0 f ≤ rPh γ el f ∧ ds + rPh γ0 el0 f ≤ rPh γ el f) ∧ rBd γ el f B ∧ gB o601765 0 1 ∧ γ 6 f = γ0 6 f ∧ (o601765.toInt = 0 ∨ (γ 6 f = γ0 6 f ∧ γ 18 f = γ0 18 f ∧ ((γ 7 f : Nat) : Int) = (fI (F601767 q561366) 11).toInt ∧ ((γ 16 f : Nat) : Int) + 2000 ≤ (B : Int) + (fI (F601767 q561366) 14).toInt ∧ 100 ≤ (fI (F601767 q561366) 14).toInt ∧ rNI γ el F601767 q561367 (γ 6 f) (fI (F601767 q561366) 11).toInt)) ∧ (F601767 (γ0 9 3) = F561365 (γ0 9 3)) ∧ mKp (F561365 q561366) (F601767 q561366)
set_option maxRecDepth 100000 in
set_option maxHeartbeats 20000000 in
theorem cg_561374_SpillForgeModel_spill (l : Launch) (hl0 : l.stackTraces = false) (D : va_G) (I : FieldType → ClassId) (γ0 el0 : Nat → Nat → Nat) (f : Nat) (B : Nat) (P561364 : List Nat) (F561365 : Nat → va_E) (q561366 : Nat) (q561367 : Nat) (hT0 : RS D I P561364 F561365 γ0 el0) (hzq561366 : rKd γ0 q561366 10) (hzq561367 : rKd γ0 q561367 9) (hf0 : γ0 1 q561367 = f) (hB0 : rBd γ0 el0 f B) (hBk : B ≤ 100000) (x561368 : 0 < γ0 6 f) (x561369 : ((γ0 7 f : Nat) : Int) = (fI (F561365 q561366) 11).toInt) (x561370 : ((γ0 16 f : Nat) : Int) + 2000 ≤ (B : Int) + (fI (F561365 q561366) 14).toInt) (x561371 : (fI (F561365 q561366) 11).toInt + (rcn (cB (F561365 (γ0 9 3))) 100 : Nat) ≤ 100) (x561372 : rPl γ0 el0 F561365 q561367 (γ0 6 f) (fun _ _ => rNx (rSd (cB (F561365 (γ0 9 3)))))) (x561373 : 100 ≤ (fI (F561365 q561366) 14).toInt) : CtA (gV D I) l yX17_spill cX17_spill 10 (some FieldType.boolean) 9 195 (((387 * B + 6000) - rPh γ0 el0 f) / 18) ((387 * B + 6000) - rPh γ0 el0 f) [.ref q561366, .ref q561367] (va_pl P561364 F561365) (pg_561374_SpillForgeModel_spill D I γ0 el0 f B P561364 F561365 q561366 q561367) gNA := by
  refine CtA_of hl0 (by decide) (Nat.le_of_ble_eq_true rfl) ?_
  obtain ⟨γ, hγ0⟩ : ∃ z, z = γ0 := ⟨_, rfl⟩
  obtain ⟨el, hel0⟩ : ∃ z, z = el0 := ⟨_, rfl⟩
  have hT : RS D I P561364 F561365 γ el := by rw [hγ0, hel0]; exact hT0
  have hst : rSk f [101] ([1, 3, 5, 6, 8, 9, 101] ++ npk) D I P561364 F561365 γ0 el0 P561364 F561365 γ el := by rw [hγ0, hel0]; exact rSk_rf hT0
  have hph : rPh γ0 el0 f ≤ rPh γ el f := by rw [hγ0, hel0]; exact Nat.le_refl _
  have hB : rBd γ el f B := by rw [hγ0, hel0]; exact hB0
  have htq561366 : rKd γ q561366 10 := by rw [hγ0]; exact hzq561366
  have htq561367 : rKd γ q561367 9 := by rw [hγ0]; exact hzq561367
  have hf1 : γ 1 q561367 = f := by rw [hγ0]; exact hf0
  have x561368n : 0 < γ 6 f := by rw [hγ0]; exact x561368
  have x561369n : ((γ 7 f : Nat) : Int) = (fI (F561365 q561366) 11).toInt := by rw [hγ0]; exact x561369
  have x561370n : ((γ 16 f : Nat) : Int) + 2000 ≤ (B : Int) + (fI (F561365 q561366) 14).toInt := by rw [hγ0]; exact x561370
  have x561371n : (fI (F561365 q561366) 11).toInt + (rcn (cB (F561365 (γ 9 3))) 100 : Nat) ≤ 100 := by rw [hγ0]; exact x561371
  have x561372n : rPl γ el F561365 q561367 (γ 6 f) (fun _ _ => rNx (rSd (cB (F561365 (γ 9 3))))) := by rw [hγ0, hel0]; exact x561372
  have pk561375 : rPh γ el f ≤ 387 * B + 6000 := rm_pk (rM_ge hT htq561367 hf1).1 (rM_bd hB)
  refine G_widen (cs' := ((rPh γ el f - rPh γ0 el0 f) / 18)) (sl' := (rPh γ el f - rPh γ0 el0 f)) (Nat.zero_le _) (Nat.zero_le _) ?_
  have lz0 : Int32.toInt 0 = 0 := by decide
  have r561376 : γ 6 f = γ0 6 f := by rw [hγ0]
  have r561377 : γ 7 f = γ0 7 f := by rw [hγ0]
  have r561378 : γ 16 f = γ0 16 f := by rw [hγ0]
  have r561379 : γ 18 f = γ0 18 f := by rw [hγ0]
  have r561380 : γ 19 f = γ0 19 f := by rw [hγ0]
  have hm561381 : q561366 ∈ P561364 := RS_m hT htq561366 (by decide)
  refine rk10_e (show rk_10 γ (F561365 q561366) from RS_o hT htq561366) (fun q561383 q561384 p561385 p561386 p561387 p561388 p561389 p561390 p561391 p561392 p561393 p561394 p561395 p561396 p561397 p561398 p561399 he561382 hB561426 ht561400 ht561401 ht561402 ht561403 ht561404 ht561405 ht561406 ht561407 ht561408 ht561409 ht561410 ht561411 ht561412 ht561413 ht561414 ht561415 ht561416 ht561417 ht561418 ht561419 ht561420 ht561421 ht561422 ht561423 hB561427 => ?_)
  have ac0_11 : (fI (F561365 q561366) 11).toInt = p561387.toInt := by rw [he561382]; rfl
  have ac0_14 : (fI (F561365 q561366) 14).toInt = p561390.toInt := by rw [he561382]; rfl
  have bp561387 : gB p561387 0 100 := (hB561426.2.2.1)
  have bp561390 : gB p561390 0 2000 := (hB561426.2.2.2.1)
  have k0_3 : rKd γ0 (γ0 9 3) 14 := by rw [← hγ0]; exact ht561405
  have k0_17 : rKd γ0 (γ0 9 17) 20 := by rw [← hγ0]; exact ht561413
  have k0_19 : rKd γ0 (γ0 9 19) 21 := by rw [← hγ0]; exact ht561415
  refine G_iconst 0 dr_cX17_spill_0 (by decide +kernel) ?_
  refine G_istore_n (L' := [(2, .int 0), (0, .ref q561366), (1, .ref q561367)]) dr_cX17_spill_1 (Nat.le_of_ble_eq_true rfl) rfl ?_
  have hlp2_595235 : ∀ (n2_595235 : Nat) (P595221 : List Nat) (F595222 : Nat → va_E) (γ el : Nat → Nat → Nat) (g595220 : Int32), gB g595220 0 2000 → RS D I P595221 F595222 γ el → rSk f [101] ([1, 3, 5, 6, 8, 9, 101] ++ npk) D I P561364 F561365 γ0 el0 P595221 F595222 γ el → rPh γ0 el0 f ≤ rPh γ el f → rBd γ el f B → γ 6 f = γ0 6 f → γ 7 f = γ0 7 f → γ 16 f = γ0 16 f → γ 18 f = γ0 18 f → (fI (F595222 q561366) 14).toInt = (fI (F561365 q561366) 14).toInt → spI (cB (F561365 (γ0 9 3))) (cB (F595222 (γ0 9 19))) (g595220.toInt : Int).toNat (fI (F561365 q561366) 11).toInt (fI (F595222 q561366) 11).toInt → rPl γ el F595222 q561367 (γ 6 f) (fun _ _ => rNx (rSd (cB (F561365 (γ0 9 3))))) → (F595222 (γ0 9 3) = F561365 (γ0 9 3)) → mKp (F561365 q561366) (F595222 q561366) → ((2001 : Int) - g595220.toInt).toNat < n2_595235 → G (gV D I) l (gRm 9 195 (((387 * B + 6000) - rPh γ0 el0 f) / 18) ((387 * B + 6000) - rPh γ0 el0 f)) (gMA (gV D I) (pg_561374_SpillForgeModel_spill D I γ0 el0 f B P561364 F561365 q561366 q561367) gNA (((387 * B + 6000) - rPh γ0 el0 f) / 18) ((387 * B + 6000) - rPh γ0 el0 f)) ky_561374_SpillForgeModel_spill 2 [(2, .int g595220), (0, .ref q561366), (1, .ref q561367)] [] (va_pl P595221 F595222) ((rPh γ el f - rPh γ0 el0 f) / 18) (rPh γ el f - rPh γ0 el0 f) := by
    intro n2_595235
    induction n2_595235 with
    | zero => intro P595221 F595222 γ el g595220 bg595220 hT595223 hs595224 hph595225 hB595226 x595227 x595228 x595229 x595230 x595231 x595232 x595233 x595234 x595235 hm2_595235; exact absurd hm2_595235 (Nat.not_lt_zero _)
    | succ n2_595235 ih2_595235 =>
      intro P595221 F595222 γ el g595220 bg595220 hT595223 hs595224 hph595225 hB595226 x595227 x595228 x595229 x595230 x595231 x595232 x595233 x595234 x595235 hm2_595235
      clear r561376 r561377 r561378 r561379 r561380
      have ht595237 : rKd γ q561366 10 := rSk_k hs595224 hzq561366 (by decide) (by decide)
      have ht595238 : rKd γ q561367 9 := rSk_k hs595224 hzq561367 (by decide) (by decide)
      have hf595239 : γ 1 q561367 = f := rSk_1 hs595224 hzq561367 (by decide) hf0
      have pk595240 : rPh γ el f ≤ 387 * B + 6000 := rm_pk (rM_ge hT595223 ht595238 hf595239).1 (rM_bd hB595226)
      have hm595241 : q561366 ∈ P595221 := RS_m hT595223 ht595237 (by decide)
      refine rk10_e (show rk_10 γ (F595222 q561366) from RS_o hT595223 ht595237) (fun q595243 q595244 p595245 p595246 p595247 p595248 p595249 p595250 p595251 p595252 p595253 p595254 p595255 p595256 p595257 p595258 p595259 he595242 hB595286 ht595260 ht595261 ht595262 ht595263 ht595264 ht595265 ht595266 ht595267 ht595268 ht595269 ht595270 ht595271 ht595272 ht595273 ht595274 ht595275 ht595276 ht595277 ht595278 ht595279 ht595280 ht595281 ht595282 ht595283 hB595287 => ?_)
      have ac595288 : (fI (F595222 q561366) 11).toInt = p595247.toInt := by rw [he595242]; rfl
      have bp595247 : gB p595247 0 100 := (hB595286.2.2.1)
      have ac595289 : (fI (F595222 q561366) 14).toInt = p595250.toInt := by rw [he595242]; rfl
      have bp595250 : gB p595250 0 2000 := (hB595286.2.2.2.1)
      have r595290 : 0 < γ 6 (γ 1 q561367) := by rw [hf595239]; omega
      have hm595291 : (γ 9 3) ∈ P595221 := RS_m hT595223 ht595265 (by decide)
      obtain ⟨f595293, he595292, bf595293⟩ := show rk_14 I (F595222 (γ 9 3)) from RS_o hT595223 ht595265
      have c9_595294 : cB (F561365 (γ0 9 3)) = f595293 := by rw [← x595234, ← congrFun (rSk_9 hs595224) 3]; exact cB_of he595292
      have hm595295 : (γ 9 19) ∈ P595221 := RS_m hT595223 ht595275 (by decide)
      obtain ⟨f595297, he595296, bf595297⟩ := show rk_21 I (F595222 (γ 9 19)) from RS_o hT595223 ht595275
      have c9_595298 : cB (F595222 (γ0 9 19)) = f595297 := by rw [← congrFun (rSk_9 hs595224) 19]; exact cB_of he595296
      have hm595299 : (γ 9 17) ∈ P595221 := RS_m hT595223 ht595273 (by decide)
      obtain ⟨f595301, he595300, bf595301⟩ := show rk_20 I (F595222 (γ 9 17)) from RS_o hT595223 ht595273
      have cq595302 := x595232
      rw [c9_595294, c9_595298, ac595288] at cq595302
      refine G_iload_n 0 dr_cX17_spill_2 rfl ?_
      refine G_sipush 2000 dr_cX17_spill_3 (by decide +kernel) ?_
      refine G_icmp_ge 71 dr_cX17_spill_6 (by decide +kernel) (fun hc595303 => ?_) (fun hc595303 => ?_)
      · have r595304 : 2000 ≤ g595220.toInt := gj_leL hc595303 (show Int32.toInt 2000 = 2000 by decide)
        have bg595220' : gB g595220 2000 2000 := ⟨by omega, by omega⟩
        have ac595305 : (fI (F595222 q561366) 11).toInt = p595247.toInt := by rw [he595242]; rfl
        have ac595306 : (fI (F595222 q561366) 14).toInt = p595250.toInt := by rw [he595242]; rfl
        have spi595307 := x595232
        rw [show (g595220.toInt : Int).toNat = 2000 by omega] at spi595307
        have r595308 := cq595302.1
        have hv595309 := St_slots (f := f) (n := p595247.toInt.toNat) hT595223 ht595238 hf595239 (by omega)
        obtain ⟨γ, hg595310⟩ : ∃ z, z = gVal γ 7 f p595247.toInt.toNat := ⟨_, rfl⟩
        rw [← hg595310] at hv595309
        have hk595311 := rSk_of hv595309.1
        have r595312 := hv595309.2.1
        have hT595313 := hk595311.1
        have hs595314 := rSk_tr hs595224 hk595311 (by decide) (by decide) (by decide)
        have kp595315 : F595222 (γ0 9 3) = F561365 (γ0 9 3) := (rSk_F hk595311 (rSk_k hs595224 k0_3 (by decide) (by decide)) (by decide) (by decide)).trans x595234
        have kp595316 : F595222 (γ0 9 19) = F595222 (γ0 9 19) := rSk_F hk595311 (rSk_k hs595224 k0_19 (by decide) (by decide)) (by decide) (by decide)
        have r595317 := rSk_F hk595311 ht595237 (by decide) (by decide)
        have ht595318 : rKd γ q561366 10 := rSk_k hk595311 ht595237 (by decide) (by decide)
        have ht595319 : rKd γ q561367 9 := rSk_k hk595311 ht595238 (by decide) (by decide)
        have hf595320 : γ 1 q561367 = f := rSk_1 hk595311 ht595238 (by decide) hf595239
        have mk595321 : mKp (F561365 q561366) (F595222 q561366) := mKp_tr x595235 (mKp_eq (rSk_F hk595311 ht595237 (by decide) (by decide)))
        have hm595322 : q561366 ∈ P595221 := RS_m hT595313 ht595318 (by decide)
        refine rk10_e (show rk_10 γ (F595222 q561366) from RS_o hT595313 ht595318) (fun q595324 q595325 p595326 p595327 p595328 p595329 p595330 p595331 p595332 p595333 p595334 p595335 p595336 p595337 p595338 p595339 p595340 he595323 hB595367 ht595341 ht595342 ht595343 ht595344 ht595345 ht595346 ht595347 ht595348 ht595349 ht595350 ht595351 ht595352 ht595353 ht595354 ht595355 ht595356 ht595357 ht595358 ht595359 ht595360 ht595361 ht595362 ht595363 ht595364 hB595368 => ?_)
        have r595369 : p595328.toInt = p595247.toInt := by have z : p595328 = p595247 := congrArg (fun e => fI e 11) (he595323.symm.trans (r595317.trans he595242)); rw [z]
        have bp595328 : gB p595328 0 100 := (hB595367.2.2.1)
        have r595370 : p595331.toInt = p595250.toInt := by have z : p595331 = p595250 := congrArg (fun e => fI e 14) (he595323.symm.trans (r595317.trans he595242)); rw [z]
        have bp595331 : gB p595331 0 2000 := (hB595367.2.2.2.1)
        have hB595371 : rBd γ el f B := hv595309.2.2.2 B hB595226
        have hph595372 : rPh γ0 el0 f ≤ rPh γ el f := by rw [r595312]; exact hph595225
        have pk595373 : rPh γ el f ≤ 387 * B + 6000 := rm_pk (rM_ge hT595313 ht595319 hf595320).1 (rM_bd hB595371)
        refine G_widen (cs' := ((rPh γ el f - rPh γ0 el0 f) / 18)) (sl' := (rPh γ el f - rPh γ0 el0 f)) (rm_ec r595312) (rm_es r595312) ?_
        have r595374 := gVal_7 hg595310
        have pl595375 := sp_0 (h := cB (F595222 (γ0 9 19))) (rPl_val hT595223 ht595238 hf595239 hk595311 hg595310 x595233)
        have r595376 : 0 < γ 6 (γ 1 q561367) := by rw [hf595320]; omega
        have ac595377 : (fI (F595222 q561366) 11).toInt = p595328.toInt := by rw [he595323]; rfl
        have ac595378 : (fI (F595222 q561366) 14).toInt = p595331.toInt := by rw [he595323]; rfl
        refine G_iconst 0 dr_cX17_spill_71 (by decide +kernel) ?_
        refine G_istore_n (L' := [(2, .int 0), (0, .ref q561366), (1, .ref q561367)]) dr_cX17_spill_72 (Nat.le_of_ble_eq_true rfl) rfl ?_
        have hlp73_598397 : ∀ (n73_598397 : Nat) (P598382 : List Nat) (F598383 : Nat → va_E) (γ el : Nat → Nat → Nat) (g598381 : Int32), gB g598381 0 1000000 → RS D I P598382 F598383 γ el → rSk f [101] ([1, 3, 5, 6, 8, 9, 101] ++ npk) D I P561364 F561365 γ0 el0 P598382 F598383 γ el → rPh γ0 el0 f ≤ rPh γ el f → rBd γ el f B → γ 6 f = γ0 6 f → γ 18 f = γ0 18 f → ((γ 7 f : Nat) : Int) = (fI (F598383 q561366) 11).toInt → (fI (F598383 q561366) 11).toInt = (fI (F595222 q561366) 11).toInt → ((γ 16 f : Nat) : Int) + 2000 ≤ (B : Int) + (fI (F598383 q561366) 14).toInt → 100 ≤ (fI (F598383 q561366) 14).toInt → (F598383 (γ0 9 19) = F595222 (γ0 9 19)) → rPl γ el F598383 q561367 (γ 6 f) (spQ (cB (F561365 (γ0 9 3))) (cB (F595222 (γ0 9 19))) (g598381.toInt : Int).toNat 0) → (F598383 (γ0 9 3) = F561365 (γ0 9 3)) → mKp (F561365 q561366) (F598383 q561366) → ((1000001 : Int) - g598381.toInt).toNat < n73_598397 → G (gV D I) l (gRm 9 195 (((387 * B + 6000) - rPh γ0 el0 f) / 18) ((387 * B + 6000) - rPh γ0 el0 f)) (gMA (gV D I) (pg_561374_SpillForgeModel_spill D I γ0 el0 f B P561364 F561365 q561366 q561367) gNA (((387 * B + 6000) - rPh γ0 el0 f) / 18) ((387 * B + 6000) - rPh γ0 el0 f)) ky_561374_SpillForgeModel_spill 73 [(2, .int g598381), (0, .ref q561366), (1, .ref q561367)] [] (va_pl P598382 F598383) ((rPh γ el f - rPh γ0 el0 f) / 18) (rPh γ el f - rPh γ0 el0 f) := by
          intro n73_598397
          induction n73_598397 with
          | zero => intro P598382 F598383 γ el g598381 bg598381 hT598384 hs598385 hph598386 hB598387 x598388 x598389 x598390 x598391 x598392 x598393 x598394 x598395 x598396 x598397 hm73_598397; exact absurd hm73_598397 (Nat.not_lt_zero _)
          | succ n73_598397 ih73_598397 =>
            intro P598382 F598383 γ el g598381 bg598381 hT598384 hs598385 hph598386 hB598387 x598388 x598389 x598390 x598391 x598392 x598393 x598394 x598395 x598396 x598397 hm73_598397
            clear r595308 r595312 r595317 r595369 r595370 hph595372 pk595373 r595374 r595376
            have ht598399 : rKd γ q561366 10 := rSk_k hs598385 hzq561366 (by decide) (by decide)
            have ht598400 : rKd γ q561367 9 := rSk_k hs598385 hzq561367 (by decide) (by decide)
            have hf598401 : γ 1 q561367 = f := rSk_1 hs598385 hzq561367 (by decide) hf0
            have pk598402 : rPh γ el f ≤ 387 * B + 6000 := rm_pk (rM_ge hT598384 ht598400 hf598401).1 (rM_bd hB598387)
            have r598403 : 0 < γ 6 (γ 1 q561367) := by rw [hf598401]; omega
            have hm598404 : q561366 ∈ P598382 := RS_m hT598384 ht598399 (by decide)
            refine rk10_e (show rk_10 γ (F598383 q561366) from RS_o hT598384 ht598399) (fun q598406 q598407 p598408 p598409 p598410 p598411 p598412 p598413 p598414 p598415 p598416 p598417 p598418 p598419 p598420 p598421 p598422 he598405 hB598449 ht598423 ht598424 ht598425 ht598426 ht598427 ht598428 ht598429 ht598430 ht598431 ht598432 ht598433 ht598434 ht598435 ht598436 ht598437 ht598438 ht598439 ht598440 ht598441 ht598442 ht598443 ht598444 ht598445 ht598446 hB598450 => ?_)
            have ac598451 : (fI (F598383 q561366) 11).toInt = p598410.toInt := by rw [he598405]; rfl
            have bp598410 : gB p598410 0 100 := (hB598449.2.2.1)
            have ac598452 : (fI (F598383 q561366) 14).toInt = p598413.toInt := by rw [he598405]; rfl
            have bp598413 : gB p598413 0 2000 := (hB598449.2.2.2.1)
            refine G_iload_n 0 dr_cX17_spill_73 rfl ?_
            refine G_aload_n 2 dr_cX17_spill_74 rfl ?_
            have hm598453 : q561367 ∈ P598382 := RS_m hT598384 ht598400 (by decide)
            obtain ⟨q598455, q598456, p598457, p598458, he598454, ht598474, ht598459, ht598460, ht598461, ht598462, r598463, r598464, r598465, r598466, r598467, r598468, r598469, r598470, r598471, r598472, r598473⟩ := show rk_9 γ el q561367 (F598383 q561367) from RS_o hT598384 ht598400
            have bp598457 : gB p598457 0 1000000 := ⟨by omega, by omega⟩
            have bp598458 : gB p598458 0 1000000 := ⟨by omega, by omega⟩
            have hf598475 : γ 1 q598455 = f := (show γ 1 q598455 = γ 1 q561367 from ht598460).trans hf598401
            have hf598476 : γ 1 q598456 = f := (show γ 1 q598456 = γ 1 q561367 from ht598462).trans hf598401
            have r598477 : γ 6 (γ 1 q561367) = γ 6 f := by rw [hf598401]
            have r598478 : γ 16 (γ 1 q561367) = γ 16 f := by rw [hf598401]
            have r598479 : p598458.toInt = γ 6 f ∧ p598458.toInt ≤ 40 := by omega
            clear r598469
            refine Gw_callV (As := []) (gV_ok D I) (cp_12451_Code_size l hl0 D I P598382 F598383 q561367 q598455 q598456 p598457 p598458 hm598453 he598454) dr_cX17_spill_75 ⟨wr_10_160, wr_1_15, wr_9_131, by decide, rfl, (Nat.le_of_ble_eq_true rfl), (Nat.le_of_ble_eq_true rfl)⟩ wr_9_129 wr_9_130 hm598453 he598454 rfl (rm_zc pk598402) (rm_zs pk598402) (Nat.le_of_ble_eq_true rfl) (fun r598483 w598484 dc598480 ds598481 hp598482 => ?_) (fun _ _ _ _ _ z => z.elim)
            obtain ⟨rfl, rfl, hdc, hds⟩ := hp598482
            change G _ _ _ _ _ _ _ (.int p598458 :: _) _ _ _
            refine G_widen (cs' := ((rPh γ el f - rPh γ0 el0 f) / 18)) (sl' := (rPh γ el f - rPh γ0 el0 f)) (rm_d0 hdc) (rm_d0 hds) ?_
            refine G_icmp_ge 431 dr_cX17_spill_78 (by decide +kernel) (fun hc598485 => ?_) (fun hc598485 => ?_)
            · have r598486 : p598458.toInt ≤ g598381.toInt := gC_le hc598485
              have ac598487 : (fI (F598383 q561366) 11).toInt = p598410.toInt := by rw [he598405]; rfl
              have ac598488 : (fI (F598383 q561366) 14).toInt = p598413.toInt := by rw [he598405]; rfl
              have ni598489 : rNI γ el F598383 q561367 (γ 6 f) (fI (F598383 q561366) 11).toInt := by rw [show (fI (F598383 q561366) 11).toInt = (fI (F595222 q561366) 11).toInt by omega]; exact spI_e rfl spi595307 x561371 (sp_end x598395 (by omega))
              refine G_aload_n 2 dr_cX17_spill_431 rfl ?_
              refine Gw_callV (As := []) (gV_ok D I) (ct_7632_Code_countRows l hl0 D I γ el P598382 F598383 q561367 hT598384 ht598400 (by omega)) dr_cX17_spill_432 ⟨wr_10_229, wr_1_15, wr_10_232, by decide, rfl, (Nat.le_of_ble_eq_true rfl), (Nat.le_of_ble_eq_true rfl)⟩ wr_10_230 wr_10_231 hm598453 he598454 rfl (rm_zc pk598402) (rm_zs pk598402) (Nat.le_of_ble_eq_true rfl) (fun r598493 w598494 dc598490 ds598491 hp598492 => ?_) (fun _ _ _ _ _ z => z.elim)
              obtain ⟨o598495, rfl, rfl, hdc, hds⟩ := hp598492
              have bo598495 := gB_any o598495
              change G _ _ _ _ _ _ _ (.int o598495 :: _) _ _ _
              refine G_widen (cs' := ((rPh γ el f - rPh γ0 el0 f) / 18)) (sl' := (rPh γ el f - rPh γ0 el0 f)) (rm_d0 hdc) (rm_d0 hds) ?_
              refine G_sipush 4000 dr_cX17_spill_435 (by decide +kernel) ?_
              refine G_icmp_gt 445 dr_cX17_spill_438 (by decide +kernel) (fun hc598496 => ?_) (fun hc598496 => ?_)
              · have r598497 : 4000 < o598495.toInt := gj_ltL hc598496 (show Int32.toInt 4000 = 4000 by decide)
                have bo598495' : gB o598495 4001 2147483647 := ⟨by omega, by omega⟩
                refine G_iconst 0 dr_cX17_spill_445 (by decide +kernel) ?_
                exact G_zretA FieldType.boolean dr_cX17_spill_446 rfl rfl (show ((rPh γ el f - rPh γ0 el0 f) / 18) ≤ (((387 * B + 6000) - rPh γ0 el0 f) / 18) by omega) (show (rPh γ el f - rPh γ0 el0 f) ≤ ((387 * B + 6000) - rPh γ0 el0 f) by omega) ⟨P598382, F598383, γ, el, 0, rfl, rfl, hs598385, ⟨by omega, by omega⟩, hB598387, (gB_w (gBl (show Int32.toInt 0 = 0 by decide)) (by decide) (by decide)), (by have qa0 : Int32.toInt 0 = 0 := (by decide); omega), (Or.inl (by decide)), x598396, x598397⟩
              · have r598498 : o598495.toInt ≤ 4000 := gj_nltL hc598496 (show Int32.toInt 4000 = 4000 by decide)
                have bo598495' : gB o598495 (-2147483648) 4000 := ⟨by omega, by omega⟩
                refine G_iconst 1 dr_cX17_spill_441 (by decide +kernel) ?_
                refine G_goto 446 dr_cX17_spill_442 (by decide +kernel) ?_
                exact G_zretA FieldType.boolean dr_cX17_spill_446 rfl rfl (show ((rPh γ el f - rPh γ0 el0 f) / 18) ≤ (((387 * B + 6000) - rPh γ0 el0 f) / 18) by omega) (show (rPh γ el f - rPh γ0 el0 f) ≤ ((387 * B + 6000) - rPh γ0 el0 f) by omega) ⟨P598382, F598383, γ, el, 1, rfl, rfl, hs598385, ⟨by omega, by omega⟩, hB598387, (gB_w (gBl (show Int32.toInt 1 = 1 by decide)) (by decide) (by decide)), (by have qa0 : Int32.toInt 1 = 1 := (by decide); omega), (Or.inr ⟨by omega, by omega, by omega, by omega, by omega, ni598489⟩), x598396, x598397⟩
            · have r598499 : g598381.toInt < p598458.toInt := gC_nle hc598485
              have bg598381' : gB g598381 0 999999 := ⟨by omega, by omega⟩
              have bp598458' : gB p598458 1 1000000 := ⟨by omega, by omega⟩
              refine G_aload_n 2 dr_cX17_spill_81 rfl ?_
              refine G_iload_n 0 dr_cX17_spill_82 rfl ?_
              have hm598500 : q598455 ∈ P598382 := RS_m hT598384 ht598459 (by decide)
              obtain ⟨⟨p598502, p598503, q598504, he598501, r598505, r598506, r598507, r598509⟩, r598508⟩ := show rk_4 D I γ el F598383 q598455 from RS_o hT598384 ht598459
              have bp598502 := gB_any p598502
              have bp598503 : gB p598503 0 1000000 := ⟨by omega, by omega⟩
              obtain ⟨r598510, r598511, n598518, f598519, r598512, r598513, r598514, r598515, r598516, r598517⟩ := rLC_n r598507 (by omega)
              have hm598520 : q598504 ∈ P598382 := RS_m hT598384 r598510 (by decide)
              obtain ⟨q598521, hx598522⟩ : ∃ x, x = el q598455 g598381.toInt.toNat := ⟨_, rfl⟩
              have hx598523 : f598519 g598381.toNatClampNeg = some q598521 := (r598516 _ (show g598381.toInt.toNat < γ 2 q598455 by first | assumption | omega)).trans (by rw [hx598522])
              have ht598526 : rKd γ q598521 2 := by rw [hx598522]; exact (r598470 _ (by omega)).resolve_right (fun z => absurd z.1 (by omega))
              have ht598527 : rFm γ q598521 q598455 := by rw [hx598522]; exact (r598508 _ (show g598381.toInt.toNat < γ 2 q598455 by omega)).2.1
              have hm598528 : q598521 ∈ P598382 := RS_m hT598384 ht598526 (by decide)
              obtain ⟨q598530, q598531, p598532, p598533, he598529, ht598540, ht598534, ht598535, ht598536, ht598537, ht598538, bp598532, bp598533, r598539, r598541, r598542⟩ := show rk_2 γ q598521 (F598383 q598521) from RS_o hT598384 ht598526
              refine Gw_callV (As := [.int g598381]) (gV_ok D I) (cp_7723_Code_get l hl0 D I P598382 F598383 q561367 q598455 q598504 g598381 q598456 p598457 p598458 p598502 p598503 f598519 n598518 q598521 q598530 q598531 p598532 p598533 hm598453 hm598500 hm598520 hm598528 he598454 he598501 r598512 he598529 (gB_w bg598381' (by decide) (by decide)) (gB_w bp598503 (by decide) (by decide)) (by omega) (by omega) (by assumption) (by omega)) dr_cX17_spill_83 ⟨wr_10_161, wr_1_15, wr_10_141, by decide, rfl, (Nat.le_of_ble_eq_true rfl), (Nat.le_of_ble_eq_true rfl)⟩ wr_10_139 wr_10_140 hm598453 he598454 rfl (rm_zc pk598402) (rm_zs pk598402) (Nat.le_of_ble_eq_true rfl) (fun r598546 w598547 dc598543 ds598544 hp598545 => ?_) (fun _ _ _ _ _ z => z.elim)
              obtain ⟨rfl, rfl, hdc, hds⟩ := hp598545
              change G _ _ _ _ _ _ _ (.ref q598521 :: _) _ _ _
              refine G_widen (cs' := ((rPh γ el f - rPh γ0 el0 f) / 18)) (sl' := (rPh γ el f - rPh γ0 el0 f)) (rm_d0 hdc) (rm_d0 hds) ?_
              have hf598548 : γ 1 q598521 = f := (show γ 1 q598521 = γ 1 q598455 from ht598527).trans ((show γ 1 q598455 = γ 1 q561367 from ht598460).trans hf598401)
              have hf598549 : γ 1 q598530 = f := (show γ 1 q598530 = γ 1 q598521 from ht598535).trans hf598548
              have hf598550 : γ 1 q598531 = f := (show γ 1 q598531 = γ 1 q598521 from ht598537).trans hf598548
              have r598551 : γ 6 (γ 1 q598521) = γ 6 f := by rw [hf598548]
              have r598552 : γ 7 (γ 1 q598521) = γ 7 f := by rw [hf598548]
              have r598553 : γ 19 (γ 1 q598521) = γ 19 f := by rw [hf598548]
              have r598554 := r598539.resolve_left (by omega)
              clear r598539
              have r598555 : γ 2 (γ 14 q598521) = γ 2 q598530 := by rw [ht598540.1]
              have r598556 : g598381.toInt.toNat < γ 2 (γ 14 q561367) := by rw [ht598474.1]; omega
              have r598557 : el (γ 14 q561367) g598381.toInt.toNat = q598521 := by rw [ht598474.1, hx598522]
              refine G_astore_n (L' := [(3, .ref q598521), (2, .int g598381), (0, .ref q561366), (1, .ref q561367)]) dr_cX17_spill_86 (Nat.le_of_ble_eq_true rfl) rfl ?_
              refine G_iconst 0 dr_cX17_spill_87 (by decide +kernel) ?_
              refine G_istore (L' := [(4, .int 0), (3, .ref q598521), (2, .int g598381), (0, .ref q561366), (1, .ref q561367)]) dr_cX17_spill_88 (Nat.le_of_ble_eq_true rfl) rfl ?_
              have hlp90_599992 : ∀ (n90_599992 : Nat) (P599971 : List Nat) (F599972 : Nat → va_E) (γ el : Nat → Nat → Nat) (g599970 : Int32), gB g599970 0 1000003 → RS D I P599971 F599972 γ el → rSk f [101] ([1, 3, 5, 6, 8, 9, 101] ++ npk) D I P561364 F561365 γ0 el0 P599971 F599972 γ el → rPh γ0 el0 f ≤ rPh γ el f → rBd γ el f B → rKd γ q598521 2 → γ 1 q598521 = f → g598381.toInt.toNat < γ 2 (γ 14 q561367) → el (γ 14 q561367) g598381.toInt.toNat = q598521 → γ 6 f = γ0 6 f → γ 18 f = γ0 18 f → ((γ 7 f : Nat) : Int) = (fI (F599972 q561366) 11).toInt → (fI (F599972 q561366) 11).toInt = (fI (F595222 q561366) 11).toInt → ((γ 16 f : Nat) : Int) + 2000 ≤ (B : Int) + (fI (F599972 q561366) 14).toInt → 100 ≤ (fI (F599972 q561366) 14).toInt → (F599972 (γ0 9 19) = F595222 (γ0 9 19)) → rPl γ el F599972 q561367 (γ 6 f) (spQ (cB (F561365 (γ0 9 3))) (cB (F595222 (γ0 9 19))) (g598381.toInt : Int).toNat (g599970.toInt : Int).toNat) → (g599970.toInt : Int) ≤ γ 2 (γ 14 q598521) + 1 → (g598381.toInt : Int) < γ 6 f → (F599972 (γ0 9 3) = F561365 (γ0 9 3)) → mKp (F561365 q561366) (F599972 q561366) → (γ 2 (γ 14 q598521) + 1 - (g599970.toInt : Int).toNat) < n90_599992 → G (gV D I) l (gRm 9 195 (((387 * B + 6000) - rPh γ0 el0 f) / 18) ((387 * B + 6000) - rPh γ0 el0 f)) (gMA (gV D I) (pg_561374_SpillForgeModel_spill D I γ0 el0 f B P561364 F561365 q561366 q561367) gNA (((387 * B + 6000) - rPh γ0 el0 f) / 18) ((387 * B + 6000) - rPh γ0 el0 f)) ky_561374_SpillForgeModel_spill 90 [(4, .int g599970), (3, .ref q598521), (2, .int g598381), (0, .ref q561366), (1, .ref q561367)] [] (va_pl P599971 F599972) ((rPh γ el f - rPh γ0 el0 f) / 18) (rPh γ el f - rPh γ0 el0 f) := by
                intro n90_599992
                induction n90_599992 with
                | zero => intro P599971 F599972 γ el g599970 bg599970 hT599973 hs599974 hph599975 hB599976 ht599977 hf599978 r599979 r599980 x599981 x599982 x599983 x599984 x599985 x599986 x599987 x599988 x599989 x599990 x599991 x599992 hm90_599992; exact absurd hm90_599992 (Nat.not_lt_zero _)
                | succ n90_599992 ih90_599992 =>
                  intro P599971 F599972 γ el g599970 bg599970 hT599973 hs599974 hph599975 hB599976 ht599977 hf599978 r599979 r599980 x599981 x599982 x599983 x599984 x599985 x599986 x599987 x599988 x599989 x599990 x599991 x599992 hm90_599992
                  clear r598463 r598464 r598465 r598466 r598467 r598468 r598470 r598471 r598472 r598473 bp598457 bp598458 bp598532 bp598533 r598541 r598542 r598477 r598478 r598479 r598505 r598506 r598507 r598509 r598508 r598510 r598511 r598512 r598513 r598514 r598515 r598516 r598517 r598551 r598552 r598553 r598554 r598555 r598556 r598557
                  have ht599994 : rKd γ q561366 10 := rSk_k hs599974 hzq561366 (by decide) (by decide)
                  have ht599995 : rKd γ q561367 9 := rSk_k hs599974 hzq561367 (by decide) (by decide)
                  have hf599996 : γ 1 q561367 = f := rSk_1 hs599974 hzq561367 (by decide) hf0
                  have pk599997 : rPh γ el f ≤ 387 * B + 6000 := rm_pk (rM_ge hT599973 ht599995 hf599996).1 (rM_bd hB599976)
                  have r599998 : 0 < γ 6 (γ 1 q561367) := by rw [hf599996]; omega
                  have hm599999 : q561366 ∈ P599971 := RS_m hT599973 ht599994 (by decide)
                  refine rk10_e (show rk_10 γ (F599972 q561366) from RS_o hT599973 ht599994) (fun q600001 q600002 p600003 p600004 p600005 p600006 p600007 p600008 p600009 p600010 p600011 p600012 p600013 p600014 p600015 p600016 p600017 he600000 hB600044 ht600018 ht600019 ht600020 ht600021 ht600022 ht600023 ht600024 ht600025 ht600026 ht600027 ht600028 ht600029 ht600030 ht600031 ht600032 ht600033 ht600034 ht600035 ht600036 ht600037 ht600038 ht600039 ht600040 ht600041 hB600045 => ?_)
                  have ac600046 : (fI (F599972 q561366) 11).toInt = p600005.toInt := by rw [he600000]; rfl
                  have bp600005 : gB p600005 0 100 := (hB600044.2.2.1)
                  have ac600047 : (fI (F599972 q561366) 14).toInt = p600008.toInt := by rw [he600000]; rfl
                  have bp600008 : gB p600008 0 2000 := (hB600044.2.2.2.1)
                  refine G_iload 0 dr_cX17_spill_90 rfl ?_
                  refine G_aload_n 1 dr_cX17_spill_92 rfl ?_
                  have hm600048 : q598521 ∈ P599971 := RS_m hT599973 ht599977 (by decide)
                  obtain ⟨q600050, q600051, p600052, p600053, he600049, ht600060, ht600054, ht600055, ht600056, ht600057, ht600058, bp600052, bp600053, r600059, r600061, r600062⟩ := show rk_2 γ q598521 (F599972 q598521) from RS_o hT599973 ht599977
                  have hf600063 : γ 1 q600050 = f := (show γ 1 q600050 = γ 1 q598521 from ht600055).trans hf599978
                  have hf600064 : γ 1 q600051 = f := (show γ 1 q600051 = γ 1 q598521 from ht600057).trans hf599978
                  have r600065 : γ 6 (γ 1 q598521) = γ 6 f := by rw [hf599978]
                  have r600066 : γ 7 (γ 1 q598521) = γ 7 f := by rw [hf599978]
                  have r600067 : γ 19 (γ 1 q598521) = γ 19 f := by rw [hf599978]
                  have r600068 := r600059.resolve_left (by omega)
                  clear r600059
                  have r600069 : γ 2 (γ 14 q598521) = γ 2 q600050 := by rw [ht600060.1]
                  refine Gp_get 0 hm600048 he600049 dr_cX17_spill_93 (gk_X12 D I) (Nat.le_of_ble_eq_true rfl) wr_9_220 rfl ?_
                  have hm600070 : q600050 ∈ P599971 := RS_m hT599973 ht600054 (by decide)
                  obtain ⟨⟨p600072, p600073, q600074, he600071, r600075, r600076, r600077, r600079⟩, r600078⟩ := show rk_3 D I γ el F599972 q600050 from RS_o hT599973 ht600054
                  have bp600072 := gB_any p600072
                  have bp600073 : gB p600073 0 1000000 := ⟨by omega, by omega⟩
                  refine Gw_callV (As := []) (gV_ok D I) (cp_7_ArrayList_size l hl0 D I P599971 F599972 q600050 p600072 q600074 p600073 hm600070 he600071 (gB_w bp600073 (by decide) (by decide))) dr_cX17_spill_96 ⟨wr_10_200, wr_1_18, wr_9_160, by decide, rfl, (Nat.le_of_ble_eq_true rfl), (Nat.le_of_ble_eq_true rfl)⟩ wr_9_158 wr_9_159 hm600070 he600071 rfl (rm_zc pk599997) (rm_zs pk599997) (Nat.le_of_ble_eq_true rfl) (fun r600083 w600084 dc600080 ds600081 hp600082 => ?_) (fun _ _ _ _ _ z => z.elim)
                  obtain ⟨rfl, rfl, hdc, hds⟩ := hp600082
                  change G _ _ _ _ _ _ _ (.int p600073 :: _) _ _ _
                  refine G_widen (cs' := ((rPh γ el f - rPh γ0 el0 f) / 18)) (sl' := (rPh γ el f - rPh γ0 el0 f)) (rm_d0 hdc) (rm_d0 hds) ?_
                  refine G_icmp_gt 425 dr_cX17_spill_99 (by decide +kernel) (fun hc600085 => ?_) (fun hc600085 => ?_)
                  · have r600086 : p600073.toInt < g599970.toInt := gC_lt hc600085
                    have bg599970' : gB g599970 1 1000003 := ⟨by omega, by omega⟩
                    obtain ⟨z600087, hz600087⟩ : ∃ z : Int32, z = g598381 + Int32.ofInt 1 := ⟨_, rfl⟩
                    have ez600087 : z600087.toInt = g598381.toInt + 1 := gI_inc hz600087 (by decide) bg598381' (by decide) (by decide)
                    have bz600087 : gB z600087 1 1000000 := ⟨by omega, by omega⟩
                    refine G_iinc (L' := [(2, .int z600087), (4, .int g599970), (3, .ref q598521), (0, .ref q561366), (1, .ref q561367)]) z600087 2 dr_cX17_spill_425 rfl hz600087.symm (Nat.le_of_ble_eq_true rfl) rfl ?_
                    refine G_goto 73 dr_cX17_spill_428 (by decide +kernel) ?_
                    refine G_lv (L' := [(2, .int z600087), (0, .ref q561366), (1, .ref q561367)]) [0, 3, 4] rfl ?_
                    have ac600088 : (fI (F599972 q561366) 11).toInt = p600005.toInt := by rw [he600000]; rfl
                    have ac600089 : (fI (F599972 q561366) 14).toInt = p600008.toInt := by rw [he600000]; rfl
                    exact ih73_598397 P599971 F599972 γ el z600087 (gB_w bz600087 (by decide) (by decide)) hT599973 hs599974 hph599975 hB599976 (by omega) (by omega) (by omega) (by omega) (by omega) (by omega) x599987 (sp_nx x599988 (by unfold rwL; rw [r599980]; omega) (by omega)) x599991 x599992 (by omega)
                  · have r600090 : g599970.toInt ≤ p600073.toInt := gC_nlt hc600085
                    have bg599970' : gB g599970 0 1000000 := ⟨by omega, by omega⟩
                    have jn292_600119 : ∀ (P600093 : List Nat) (F600094 : Nat → va_E) (γ el : Nat → Nat → Nat) (g600091 : Int32) (q600092 : Nat), gB g600091 0 1000001 → RS D I P600093 F600094 γ el → rSk f [101] ([1, 3, 5, 6, 8, 9, 101] ++ npk) D I P561364 F561365 γ0 el0 P600093 F600094 γ el → rPh γ0 el0 f ≤ rPh γ el f → rBd γ el f B → rKd γ q598521 2 → γ 1 q598521 = f → g598381.toInt.toNat < γ 2 (γ 14 q561367) → el (γ 14 q561367) g598381.toInt.toNat = q598521 → rKd γ q600092 1 → γ 1 q600092 = f → γ 6 f = γ0 6 f → γ 18 f = γ0 18 f → ((γ 7 f : Nat) : Int) = (fI (F600094 q561366) 11).toInt → (fI (F600094 q561366) 11).toInt = (fI (F595222 q561366) 11).toInt → ((γ 16 f : Nat) : Int) + 2000 ≤ (B : Int) + (fI (F600094 q561366) 14).toInt → 100 ≤ (fI (F600094 q561366) 14).toInt → (F600094 (γ0 9 19) = F595222 (γ0 9 19)) → rPl γ el F600094 q561367 (γ 6 f) (spX (cB (F561365 (γ0 9 3))) (cB (F595222 (γ0 9 19))) (g598381.toInt : Int).toNat (g600091.toInt : Int).toNat) → rAt γ el q561367 (g598381.toInt : Int).toNat (g600091.toInt : Int).toNat = q600092 → rS2 (cB (F561365 (γ0 9 3))) (cB (F595222 (γ0 9 19))) (F600094 q600092) → (g600091.toInt : Int) ≤ γ 2 (γ 14 q598521) → (g598381.toInt : Int) < γ 6 f → (γ 2 (γ 14 q598521) + 1 - (g600091.toInt : Int).toNat) < n90_599992 + 1 → (F600094 (γ0 9 3) = F561365 (γ0 9 3)) → mKp (F561365 q561366) (F600094 q561366) → G (gV D I) l (gRm 9 195 (((387 * B + 6000) - rPh γ0 el0 f) / 18) ((387 * B + 6000) - rPh γ0 el0 f)) (gMA (gV D I) (pg_561374_SpillForgeModel_spill D I γ0 el0 f B P561364 F561365 q561366 q561367) gNA (((387 * B + 6000) - rPh γ0 el0 f) / 18) ((387 * B + 6000) - rPh γ0 el0 f)) ky_561374_SpillForgeModel_spill 292 [(0, .ref q561366), (1, .ref q561367), (2, .int g598381), (3, .ref q598521), (4, .int g600091), (5, .ref q600092)] [] (va_pl P600093 F600094) ((rPh γ el f - rPh γ0 el0 f) / 18) (rPh γ el f - rPh γ0 el0 f) := by
                      intro P600093 F600094 γ el g600091 q600092 bg600091 hT600095 hs600096 hph600097 hB600098 ht600099 hf600100 r600101 r600102 ht600103 hf600104 x600105 x600106 x600107 x600108 x600109 x600110 x600111 x600112 x600113 x600114 x600115 x600116 x600117 x600118 x600119
                      clear bp600052 bp600053 r600061 r600062 r600065 r600066 r600067 r600068 r600069 r600075 r600076 r600077 r600079 r600078
                      have ht600121 : rKd γ q561366 10 := rSk_k hs600096 hzq561366 (by decide) (by decide)
                      have ht600122 : rKd γ q561367 9 := rSk_k hs600096 hzq561367 (by decide) (by decide)
                      have hf600123 : γ 1 q561367 = f := rSk_1 hs600096 hzq561367 (by decide) hf0
                      have pk600124 : rPh γ el f ≤ 387 * B + 6000 := rm_pk (rM_ge hT600095 ht600122 hf600123).1 (rM_bd hB600098)
                      have r600125 : 0 < γ 6 (γ 1 q561367) := by rw [hf600123]; omega
                      have hm600126 : q561366 ∈ P600093 := RS_m hT600095 ht600121 (by decide)
                      refine rk10_e (show rk_10 γ (F600094 q561366) from RS_o hT600095 ht600121) (fun q600128 q600129 p600130 p600131 p600132 p600133 p600134 p600135 p600136 p600137 p600138 p600139 p600140 p600141 p600142 p600143 p600144 he600127 hB600171 ht600145 ht600146 ht600147 ht600148 ht600149 ht600150 ht600151 ht600152 ht600153 ht600154 ht600155 ht600156 ht600157 ht600158 ht600159 ht600160 ht600161 ht600162 ht600163 ht600164 ht600165 ht600166 ht600167 ht600168 hB600172 => ?_)
                      have ac600173 : (fI (F600094 q561366) 11).toInt = p600132.toInt := by rw [he600127]; rfl
                      have bp600132 : gB p600132 0 100 := (hB600171.2.2.1)
                      have ac600174 : (fI (F600094 q561366) 14).toInt = p600135.toInt := by rw [he600127]; rfl
                      have bp600135 : gB p600135 0 2000 := (hB600171.2.2.2.1)
                      have hm600175 : q600092 ∈ P600093 := RS_m hT600095 ht600103 (by decide)
                      obtain ⟨p600177, p600178, p600179, p600180, p600181, p600182, p600183, he600176, bp600177, bp600178, bp600181, bp600182, bp600183, r600184, r600185, r600186, r600187⟩ := show rk_1 γ q600092 (F600094 q600092) from RS_o hT600095 ht600103
                      have bp600179 := gB_any p600179
                      have bp600180 := gB_any p600180
                      have r600188 : γ 7 (γ 1 q600092) = γ 7 f := by rw [hf600104]
                      refine G_aload 5 dr_cX17_spill_292 rfl ?_
                      refine Gw_callV (As := []) (gV_ok D I) (cp_397392_Row_sets l hl0 D I P600093 F600094 q600092 p600177 p600178 p600179 p600180 p600181 p600182 p600183 hm600175 he600176 bp600177 bp600178 bp600181 bp600182 bp600183) dr_cX17_spill_294 ⟨wr_10_181, wr_1_39, wr_10_184, by decide, rfl, (Nat.le_of_ble_eq_true rfl), (Nat.le_of_ble_eq_true rfl)⟩ wr_10_182 wr_10_183 hm600175 he600176 rfl (rm_zc pk600124) (rm_zs pk600124) (Nat.le_of_ble_eq_true rfl) (fun r600192 w600193 dc600189 ds600190 hp600191 => ?_) (fun _ _ _ _ _ z => z.elim)
                      obtain ⟨o600194, rfl, rfl, hdc, hds, bo600194, x600195⟩ := hp600191
                      change G _ _ _ _ _ _ _ (.int o600194 :: _) _ _ _
                      refine G_widen (cs' := ((rPh γ el f - rPh γ0 el0 f) / 18)) (sl' := (rPh γ el f - rPh γ0 el0 f)) (rm_d0 hdc) (rm_d0 hds) ?_
                      refine G_if_eq 419 dr_cX17_spill_297 (by decide +kernel) (fun hc600196 => ?_) (fun hc600196 => ?_)
                      · have r600197 : o600194.toInt = 0 := gj_eq hc600196 (show Int32.toInt 0 = 0 by decide)
                        have bo600194' : gB o600194 0 0 := gB_t0 r600197
                        have rn600199 : rNx (nSp (cB (F561365 (γ0 9 3))) (cB (F595222 (γ0 9 19)))) (F600094 q600092) := rS2_n he600176 he600176 x600114 (fun h => (uS_0 x600195 (by omega) h).elim)
                        have pl600198 := sp_fin x600112 x600113 rn600199 (rfl : (g600091.toInt : Int).toNat + 1 = (g600091.toInt : Int).toNat + 1)
                        obtain ⟨z600200, hz600200⟩ : ∃ z : Int32, z = g600091 + Int32.ofInt 1 := ⟨_, rfl⟩
                        have ez600200 : z600200.toInt = g600091.toInt + 1 := gI_inc hz600200 (by decide) bg600091 (by decide) (by decide)
                        have bz600200 : gB z600200 1 1000002 := ⟨by omega, by omega⟩
                        refine G_iinc (L' := [(4, .int z600200), (0, .ref q561366), (1, .ref q561367), (2, .int g598381), (3, .ref q598521), (5, .ref q600092)]) z600200 4 dr_cX17_spill_419 rfl hz600200.symm (Nat.le_of_ble_eq_true rfl) rfl ?_
                        refine G_goto 90 dr_cX17_spill_422 (by decide +kernel) ?_
                        refine G_lv (L' := [(4, .int z600200), (3, .ref q598521), (2, .int g598381), (0, .ref q561366), (1, .ref q561367)]) [0, 4, 3, 1, 2] rfl ?_
                        have ac600201 : (fI (F600094 q561366) 11).toInt = p600132.toInt := by rw [he600127]; rfl
                        have ac600202 : (fI (F600094 q561366) 14).toInt = p600135.toInt := by rw [he600127]; rfl
                        exact ih90_599992 P600093 F600094 γ el z600200 (gB_w bz600200 (by decide) (by decide)) hT600095 hs600096 hph600097 hB600098 ht600099 hf600100 r600101 r600102 (by omega) (by omega) (by omega) (by omega) (by omega) (by omega) x600111 (by rw [(show (z600200.toInt : Int).toNat = ((g600091.toInt : Int).toNat + 1) from tn_eq1 (by omega) (by omega))]; exact pl600198) (by omega) (by omega) x600118 x600119 (ms_g x600117 (by omega) (by omega) (by omega))
                      · have r600203 : o600194.toInt ≠ 0 := gj_neq hc600196 (show Int32.toInt 0 = 0 by decide)
                        have bo600194' : gB o600194 1 1 := gB_t1 bo600194 r600203
                        refine G_aload 5 dr_cX17_spill_300 rfl ?_
                        refine Gp_get 0 hm600175 he600176 dr_cX17_spill_302 (gk_X15 D I) (Nat.le_of_ble_eq_true rfl) wr_9_177 rfl ?_
                        refine G_bipush 21 dr_cX17_spill_305 (by decide +kernel) ?_
                        refine G_icmp_eq 419 dr_cX17_spill_307 (by decide +kernel) (fun hc600204 => ?_) (fun hc600204 => ?_)
                        · have r600205 : p600177.toInt = 21 := gj_eq hc600204 (show Int32.toInt 21 = 21 by decide)
                          have bp600177' : gB p600177 21 21 := ⟨by omega, by omega⟩
                          have rn600207 : rNx (nSp (cB (F561365 (γ0 9 3))) (cB (F595222 (γ0 9 19)))) (F600094 q600092) := rS2_n he600176 he600176 x600114 (fun _ => Or.inr ⟨rfl, Or.inl (by omega)⟩)
                          have pl600206 := sp_fin x600112 x600113 rn600207 (rfl : (g600091.toInt : Int).toNat + 1 = (g600091.toInt : Int).toNat + 1)
                          obtain ⟨z600208, hz600208⟩ : ∃ z : Int32, z = g600091 + Int32.ofInt 1 := ⟨_, rfl⟩
                          have ez600208 : z600208.toInt = g600091.toInt + 1 := gI_inc hz600208 (by decide) bg600091 (by decide) (by decide)
                          have bz600208 : gB z600208 1 1000002 := ⟨by omega, by omega⟩
                          refine G_iinc (L' := [(4, .int z600208), (0, .ref q561366), (1, .ref q561367), (2, .int g598381), (3, .ref q598521), (5, .ref q600092)]) z600208 4 dr_cX17_spill_419 rfl hz600208.symm (Nat.le_of_ble_eq_true rfl) rfl ?_
                          refine G_goto 90 dr_cX17_spill_422 (by decide +kernel) ?_
                          refine G_lv (L' := [(4, .int z600208), (3, .ref q598521), (2, .int g598381), (0, .ref q561366), (1, .ref q561367)]) [0, 4, 3, 1, 2] rfl ?_
                          have ac600209 : (fI (F600094 q561366) 11).toInt = p600132.toInt := by rw [he600127]; rfl
                          have ac600210 : (fI (F600094 q561366) 14).toInt = p600135.toInt := by rw [he600127]; rfl
                          exact ih90_599992 P600093 F600094 γ el z600208 (gB_w bz600208 (by decide) (by decide)) hT600095 hs600096 hph600097 hB600098 ht600099 hf600100 r600101 r600102 (by omega) (by omega) (by omega) (by omega) (by omega) (by omega) x600111 (by rw [(show (z600208.toInt : Int).toNat = ((g600091.toInt : Int).toNat + 1) from tn_eq1 (by omega) (by omega))]; exact pl600206) (by omega) (by omega) x600118 x600119 (ms_g x600117 (by omega) (by omega) (by omega))
                        · have r600211 : p600177.toInt ≠ 21 := gj_neq hc600204 (show Int32.toInt 21 = 21 by decide)
                          refine G_aload_n 0 dr_cX17_spill_310 rfl ?_
                          refine Gp_get 19 hm600126 he600127 dr_cX17_spill_311 (gk_X17 D I) (Nat.le_of_ble_eq_true rfl) wr_7_93 rfl ?_
                          refine G_aload 5 dr_cX17_spill_314 rfl ?_
                          refine Gp_get 1 hm600175 he600176 dr_cX17_spill_316 (gk_X15 D I) (Nat.le_of_ble_eq_true rfl) wr_9_182 rfl ?_
                          have hm600212 : (γ 9 19) ∈ P600093 := RS_m hT600095 ht600160 (by decide)
                          obtain ⟨f600214, he600213, bf600214⟩ := show rk_21 I (F600094 (γ 9 19)) from RS_o hT600095 ht600160
                          refine Gp_iald 0 hm600212 he600213 dr_cX17_spill_319 rfl (gB_in bp600178 (by decide) (by decide)) (G_nam fun z600215 hz600215 => ?_)
                          have bz600215 : gB z600215 (-1) 1999 := by rw [hz600215]; exact bf600214 _
                          have c9_600216 : cB (F595222 (γ0 9 19)) = f600214 := by rw [← x600111, ← congrFun (rSk_9 hs600096) 19]; exact cB_of he600213
                          have hs600217 : (cB (F595222 (γ0 9 19)) p600178.toInt.toNat).toInt = z600215.toInt := by rw [c9_600216, hz600215]; rfl
                          refine G_if_ge 326 dr_cX17_spill_320 (by decide +kernel) (fun hc600219 => ?_) (fun hc600219 => ?_)
                          · have r600220 : 0 ≤ z600215.toInt := gj_leL hc600219 (show Int32.toInt 0 = 0 by decide)
                            have bz600215' : gB z600215 0 1999 := ⟨by omega, by omega⟩
                            refine G_aload_n 0 dr_cX17_spill_326 rfl ?_
                            refine Gp_get 19 hm600126 he600127 dr_cX17_spill_327 (gk_X17 D I) (Nat.le_of_ble_eq_true rfl) wr_7_93 rfl ?_
                            refine G_aload 5 dr_cX17_spill_330 rfl ?_
                            refine Gp_get 1 hm600175 he600176 dr_cX17_spill_332 (gk_X15 D I) (Nat.le_of_ble_eq_true rfl) wr_9_182 rfl ?_
                            refine Gp_iald 0 hm600212 he600213 dr_cX17_spill_335 rfl (gB_in bp600178 (by decide) (by decide)) (G_eqi (y := z600215) hz600215.symm ?_)
                            have r600221 := (spi595307.2.2.2 p600178.toInt.toNat (tn_lt (by omega) (by omega)) (by omega)).2.2
                            refine G_istore (L' := [(8, .int z600215), (0, .ref q561366), (1, .ref q561367), (2, .int g598381), (3, .ref q598521), (4, .int g600091), (5, .ref q600092)]) dr_cX17_spill_336 (Nat.le_of_ble_eq_true rfl) rfl ?_
                            refine G_aload_n 1 dr_cX17_spill_338 rfl ?_
                            refine Gp_get 14 hm600126 he600127 dr_cX17_spill_339 (gk_X17 D I) (Nat.le_of_ble_eq_true rfl) wr_7_88 rfl ?_
                            refine G_sipush 2000 dr_cX17_spill_342 (by decide +kernel) ?_
                            refine G_icmp_ne 350 dr_cX17_spill_345 (by decide +kernel) (fun hc600222 => ?_) (fun hc600222 => ?_)
                            · have r600223 : p600135.toInt ≠ 2000 := gj_neq hc600222 (show Int32.toInt 2000 = 2000 by decide)
                              have bp600135' : gB p600135 0 1999 := ⟨by omega, by omega⟩
                              refine G_aload 6 dr_cX17_spill_350 rfl ?_
                              refine G_aload_n 1 dr_cX17_spill_352 rfl ?_
                              refine Gp_get 14 hm600126 he600127 dr_cX17_spill_353 (gk_X17 D I) (Nat.le_of_ble_eq_true rfl) wr_7_88 rfl ?_
                              refine Gp_put 1 hm600175 he600176 dr_cX17_spill_356 (gk_X15 D I) (Nat.le_of_ble_eq_true rfl) wr_9_182 rfl rfl rfl (Nat.le_of_ble_eq_true rfl) (fun F600224 e600225 n600226 => ?_)
                              have he600227 : F600224 q561366 = .inr (22, [.ref (γ 9 0), .ref (γ 9 1), .ref (γ 9 2), .ref (γ 9 3), .ref (γ 9 4), .ref (γ 9 5), .ref (γ 9 6), .ref (γ 9 7), .ref (γ 9 8), .int p600130, .int p600131, .int p600132, .int p600133, .int p600134, .int p600135, .ref (γ 9 15), .ref (γ 9 16), .ref (γ 9 17), .ref (γ 9 18), .ref (γ 9 19), .ref (γ 9 20), .ref (γ 9 21), .ref (γ 9 22), .int p600136, .int p600137, .int p600138, .int p600139, .int p600140, .ref q600128, .ref (γ 9 29), .int p600141, .ref (γ 9 31), .int p600142, .int p600143, .int p600144, .ref q600129]) := (n600226 q561366 (rn_oo he600127 he600176 (by decide))).trans he600127
                              have he600228 : F600224 (γ 9 19) = .inl (I .int, 2000, .inl f600214) := (n600226 (γ 9 19) (rn_ao he600213 he600176)).trans he600213
                              have he600229 : F600224 q600092 = .inr (20, [.int p600177, .int p600135, .int p600179, .int p600180, .int p600181, .int p600182, .int p600183]) := e600225
                              have mk600230 : mKp (F561365 q561366) (F600224 q561366) := mKp_tr x600119 (mKp_eq (n600226 q561366 (rn_ty ht600121 ht600103 (by decide))))
                              have kp600231 : F600224 (γ0 9 3) = F561365 (γ0 9 3) := (n600226 (γ0 9 3) (rn_ty (rSk_k hs600096 k0_3 (by decide) (by decide)) ht600103 (by decide))).trans x600118
                              have kp600232 : F600224 (γ0 9 19) = F595222 (γ0 9 19) := (n600226 (γ0 9 19) (rn_ty (rSk_k hs600096 k0_19 (by decide) (by decide)) ht600103 (by decide))).trans x600111
                              have hT600233 : RS D I P600093 F600224 γ el := RS_set hT600095 n600226 ht600103 (by decide) ⟨p600177, p600135, p600179, p600180, p600181, p600182, p600183, he600229, bp600177, bp600135', bp600181, bp600182, bp600183, r600184, r600185, r600186, (by have z := r600187; omega)⟩
                              have hs600235 := rSk_put hs600096 hT600233 n600226 ht600103 (by decide) (by decide)
                              have hm600237 : q598521 ∈ P600093 := RS_m hT600233 ht600099 (by decide)
                              obtain ⟨q600239, q600240, p600241, p600242, he600238, ht600249, ht600243, ht600244, ht600245, ht600246, ht600247, bp600241, bp600242, r600248, r600250, r600251⟩ := show rk_2 γ q598521 (F600224 q598521) from RS_o hT600233 ht600099
                              have hf600252 : γ 1 q600239 = f := (show γ 1 q600239 = γ 1 q598521 from ht600244).trans hf600100
                              have hf600253 : γ 1 q600240 = f := (show γ 1 q600240 = γ 1 q598521 from ht600246).trans hf600100
                              have r600254 : γ 6 (γ 1 q598521) = γ 6 f := by rw [hf600100]
                              have r600255 : γ 7 (γ 1 q598521) = γ 7 f := by rw [hf600100]
                              have r600256 : γ 19 (γ 1 q598521) = γ 19 f := by rw [hf600100]
                              have r600257 := r600248.resolve_left (by omega)
                              clear r600248
                              have r600258 : γ 2 (γ 14 q598521) = γ 2 q600239 := by rw [ht600249.1]
                              have pl600236 := sp_put hT600095 ht600122 hf600123 x600112 n600226 x600113 (show (g598381.toInt : Int).toNat < γ 6 f from tn_lt (by omega) (by omega)) (by unfold rwL; rw [r600102]; exact tn_le0 (by omega) (by omega))
                              have rn600260 : rNx (nSp (cB (F561365 (γ0 9 3))) (cB (F595222 (γ0 9 19)))) (F600224 q600092) := rS2_n he600176 he600229 x600114 (fun _ => Or.inl (by omega))
                              have pl600259 := sp_fin pl600236 x600113 rn600260 (rfl : (g600091.toInt : Int).toNat + 1 = (g600091.toInt : Int).toNat + 1)
                              refine G_aload_n 1 dr_cX17_spill_359 rfl ?_
                              refine G_dup dr_cX17_spill_360 rfl ?_
                              refine Gp_get 14 hm600126 he600227 dr_cX17_spill_361 (gk_X17 D I) (Nat.le_of_ble_eq_true rfl) wr_7_88 rfl ?_
                              refine G_iconst 1 dr_cX17_spill_364 (by decide +kernel) ?_
                              refine G_iadd dr_cX17_spill_365 (G_nam fun z600261 hz600261 => ?_)
                              have ez600261 : z600261.toInt = p600135.toInt + 1 := by rw [gI_add hz600261 bp600135' (gBl (show Int32.toInt 1 = 1 by decide)) (by decide) (by decide), show Int32.toInt 1 = 1 from by decide]
                              have bz600261 : gB z600261 1 2000 := gB_add (gI_add hz600261 bp600135' (gBl (show Int32.toInt 1 = 1 by decide)) (by decide) (by decide)) bp600135' (gBl (show Int32.toInt 1 = 1 by decide)) (by decide) (by decide)
                              refine Gp_put 14 hm600126 he600227 dr_cX17_spill_366 (gk_X17 D I) (Nat.le_of_ble_eq_true rfl) wr_7_88 rfl rfl rfl (Nat.le_of_ble_eq_true rfl) (fun F600262 e600263 n600264 => ?_)
                              have he600265 : F600262 q600092 = .inr (20, [.int p600177, .int p600135, .int p600179, .int p600180, .int p600181, .int p600182, .int p600183]) := (n600264 q600092 (rn_oo he600229 he600227 (by decide))).trans he600229
                              have he600266 : F600262 (γ 9 19) = .inl (I .int, 2000, .inl f600214) := (n600264 (γ 9 19) (rn_ao he600228 he600227)).trans he600228
                              have he600267 : F600262 q598521 = .inr (17, [.ref q600239, .ref q600240, .int p600241, .int p600242]) := (n600264 q598521 (rn_oo he600238 he600227 (by decide))).trans he600238
                              have he600268 : F600262 q561366 = .inr (22, [.ref (γ 9 0), .ref (γ 9 1), .ref (γ 9 2), .ref (γ 9 3), .ref (γ 9 4), .ref (γ 9 5), .ref (γ 9 6), .ref (γ 9 7), .ref (γ 9 8), .int p600130, .int p600131, .int p600132, .int p600133, .int p600134, .int z600261, .ref (γ 9 15), .ref (γ 9 16), .ref (γ 9 17), .ref (γ 9 18), .ref (γ 9 19), .ref (γ 9 20), .ref (γ 9 21), .ref (γ 9 22), .int p600136, .int p600137, .int p600138, .int p600139, .int p600140, .ref q600128, .ref (γ 9 29), .int p600141, .ref (γ 9 31), .int p600142, .int p600143, .int p600144, .ref q600129]) := e600263
                              have mk600269 : mKp (F561365 q561366) (F600262 q561366) := mKp_tr mk600230 (by rw [he600227, he600268]; exact ⟨rfl, rfl⟩)
                              have kp600270 : F600262 (γ0 9 3) = F561365 (γ0 9 3) := (n600264 (γ0 9 3) (rn_ty (rSk_k hs600235 k0_3 (by decide) (by decide)) ht600121 (by decide))).trans kp600231
                              have kp600271 : F600262 (γ0 9 19) = F595222 (γ0 9 19) := (n600264 (γ0 9 19) (rn_ty (rSk_k hs600235 k0_19 (by decide) (by decide)) ht600121 (by decide))).trans kp600232
                              have hT600272 : RS D I P600093 F600262 γ el := RS_set hT600233 n600264 ht600121 (by decide) ⟨q600128, q600129, p600130, p600131, p600132, p600133, p600134, z600261, p600136, p600137, p600138, p600139, p600140, p600141, p600142, p600143, p600144, he600268, ⟨(hB600171.1), (hB600171.2.1), bp600132, (gB_w bz600261 (by decide) (by decide)), (hB600171.2.2.2.2.1), (hB600171.2.2.2.2.2.1), (hB600171.2.2.2.2.2.2.1), (hB600171.2.2.2.2.2.2.2.1), (hB600171.2.2.2.2.2.2.2.2)⟩, ht600145, ht600146, ht600147, ht600148, ht600149, ht600150, ht600151, ht600152, ht600153, ht600154, ht600155, ht600156, ht600157, ht600158, ht600159, ht600160, ht600161, ht600162, ht600163, ht600164, ht600165, ht600166, ht600167, ht600168, hB600172⟩
                              have hs600274 := rSk_put hs600235 hT600272 n600264 ht600121 (by decide) (by decide)
                              have pl600275 := rPl_fr hT600233 ht600122 hf600123 pl600259 (fun b hb _ => n600264 b (rn_ty (show rKd γ b 1 from hb) ht600121 (by decide)))
                              have ac600276 : (fI (F600262 q561366) 11).toInt = p600132.toInt := by rw [he600268]; rfl
                              have ac600277 : (fI (F600262 q561366) 14).toInt = z600261.toInt := by rw [he600268]; rfl
                              refine G_aload_n 2 dr_cX17_spill_369 rfl ?_
                              have rg600278 := rM_ge hT600272 ht600122 hf600123
                              have rm600279 := rM_bd hB600098
                              have bd600280 := rBd_c hT600272 ht600122 hf600123 hB600098
                              have rc600281 := rc_at hT600272 ht600122 hf600123
                              obtain ⟨q600288, hl600289⟩ : ∃ z, z = γ 14 q598521 := ⟨_, rfl⟩
                              have hl600290 : γ 0 q600288 = 3 ∨ γ 0 q600288 = 103 := by rw [hl600289, ← r600102]; exact (RS_lst hT600272 rc600281.2.1 r600101).1
                              refine Gt_row (c := q561367) (f := f) hl0 dr_cX17_spill_370 ⟨wr_10_206, wr_1_15, wr_10_82, by decide, rfl, (Nat.le_of_ble_eq_true rfl), (Nat.le_of_ble_eq_true rfl)⟩ wr_10_80 wr_10_81 hT600272 ht600122 hf600123 (Nat.le_trans bd600280.2.2.1 (Nat.le_trans hBk (by decide))) (rm_cs hph600097 rg600278.2.1 rm600279 (by decide)) (rm_sl hph600097 rg600278.2.1 rm600279 rm_s18) (Nat.le_of_ble_eq_true rfl) (fun P600282 F600283 γ el q600284 dc600285 ds600286 hq600287 => ?_)
                              have pl600291 := rPl_row hT600272 ht600122 hf600123 hq600287 pl600275
                              obtain ⟨hk600292, x0600293, x1600294, x22600295, x8600296, h16600297, h18600298, hnu600299, hot600300, h45600301, hf0600302, ⟨hr1600303, hr2600304⟩, hM600305, hBB600306⟩ := hq600287
                              have hk600307 := rSk_of hk600292
                              obtain ⟨nu600308, nu600309, nu600310, nu600311⟩ := hnu600299
                              have hT600312 := hk600307.1
                              have hs600313 := rSk_tr hs600274 hk600307 (by decide) (by decide) (by decide)
                              have kp600314 : F600283 (γ0 9 3) = F561365 (γ0 9 3) := (rSk_F hk600307 (rSk_k hs600274 k0_3 (by decide) (by decide)) (by decide) (by decide)).trans kp600270
                              have kp600315 : F600283 (γ0 9 19) = F595222 (γ0 9 19) := (rSk_F hk600307 (rSk_k hs600274 k0_19 (by decide) (by decide)) (by decide) (by decide)).trans kp600271
                              have r600316 := rSk_F hk600307 ht600121 (by decide) (by decide)
                              have ht600317 : rKd γ q561366 10 := rSk_k hk600307 ht600121 (by decide) (by decide)
                              have ht600318 : rKd γ q561367 9 := rSk_k hk600307 ht600122 (by decide) (by decide)
                              have hf600319 : γ 1 q561367 = f := rSk_1 hk600307 ht600122 (by decide) hf600123
                              have ht600320 : rKd γ q598521 2 := rSk_k hk600307 ht600099 (by decide) (by decide)
                              have hf600321 : γ 1 q598521 = f := rSk_1 hk600307 ht600099 (by decide) hf600100
                              have ht600322 : rKd γ q600092 1 := rSk_k hk600307 ht600103 (by decide) (by decide)
                              have hf600323 : γ 1 q600092 = f := rSk_1 hk600307 ht600103 (by decide) hf600104
                              have ht600324 : rKd γ q600239 3 := rSk_k hk600307 ht600243 (by decide) (by decide)
                              have hf600325 : γ 1 q600239 = f := rSk_1 hk600307 ht600243 (by decide) hf600252
                              have mk600326 : mKp (F561365 q561366) (F600283 q561366) := mKp_tr mk600269 (mKp_eq (rSk_F hk600307 ht600121 (by decide) (by decide)))
                              have r600327 := (rSk_s hk600307 ht600122 (by decide)).2.1
                              have r600328 := hot600300 _ (by rw [rc600281.2.1]; decide) (by rw [rc600281.2.1]; decide)
                              have r600329 : g598381.toInt.toNat < γ 2 (γ 14 q561367) := by rw [r600327, r600328.1]; exact r600101
                              have r600330 : el (γ 14 q561367) g598381.toInt.toNat = q598521 := by rw [r600327, r600328.2]; exact r600102
                              have he600331 : F600283 q600092 = .inr (20, [.int p600177, .int p600135, .int p600179, .int p600180, .int p600181, .int p600182, .int p600183]) := (rSk_F hk600307 ht600103 (by decide) (by decide)).trans he600265
                              have hm600332 : q600092 ∈ P600282 := RS_m hT600312 ht600322 (by decide)
                              clear bp600241 bp600242 r600250 r600251 rg600278 rm600279 bd600280 rc600281
                              have hm600333 : q561366 ∈ P600282 := RS_m hT600312 ht600317 (by decide)
                              refine rk10_e (show rk_10 γ (F600283 q561366) from RS_o hT600312 ht600317) (fun q600335 q600336 p600337 p600338 p600339 p600340 p600341 p600342 p600343 p600344 p600345 p600346 p600347 p600348 p600349 p600350 p600351 he600334 hB600378 ht600352 ht600353 ht600354 ht600355 ht600356 ht600357 ht600358 ht600359 ht600360 ht600361 ht600362 ht600363 ht600364 ht600365 ht600366 ht600367 ht600368 ht600369 ht600370 ht600371 ht600372 ht600373 ht600374 ht600375 hB600379 => ?_)
                              have r600380 : p600339.toInt = p600132.toInt := by have z : p600339 = p600132 := congrArg (fun e => fI e 11) (he600334.symm.trans (r600316.trans he600268)); rw [z]
                              have bp600339 : gB p600339 0 100 := (hB600378.2.2.1)
                              have r600381 : p600342.toInt = z600261.toInt := by have z : p600342 = z600261 := congrArg (fun e => fI e 14) (he600334.symm.trans (r600316.trans he600268)); rw [z]
                              have bp600342 : gB p600342 0 2000 := (hB600378.2.2.2.1)
                              have bp600342' : gB p600342 1 2000 := ⟨by omega, by omega⟩
                              have sz600382 := (rSk_s hk600307 ht600099 (by decide)).2.1
                              have sz600383 := congrArg (γ 2) sz600382
                              have sz600384 := (hot600300 q600288 (by omega) (by omega)).1
                              rw [hl600289] at sz600384
                              clear hl600290
                              have sz600385 := (hot600300 q600239 (rT0 ht600243 (by decide)) (by rw [show _ = 3 from ht600243]; decide)).1
                              have r600386 := hf0600302.2.2
                              have hB600387 : rBd γ el f B := hBB600306 B (by omega) hB600098
                              have ht600388 : rKd γ q600284 101 := x0600293
                              have r600389 : γ 8 q600284 < γ 16 f := rm_x8 x8600296 h16600297 rfl
                              have hph600390 : rPh γ0 el0 f ≤ rPh γ el f := rm_ph hph600097 hr2600304
                              have pk600391 : rPh γ el f ≤ 387 * B + 6000 := rm_pk (rM_ge hT600312 ht600318 hf600319).1 (rM_bd hB600387)
                              have hm600392 : q600284 ∈ P600282 := RS_m hT600312 ht600388 (by decide)
                              obtain ⟨p600394, p600395, p600396, p600397, p600398, p600399, p600400, he600393, bp600394, bp600395, bp600398, bp600399, bp600400, r600401, r600402, r600403⟩ := show rkR (F600283 q600284) from RS_o hT600312 ht600388
                              have bp600396 := gB_any p600396
                              have bp600397 := gB_any p600397
                              have r600404 : γ 7 (γ 1 q600284) = γ 7 f := by rw [x1600294]
                              have r600405 : p600399.toInt = 0 := by have z := hf0600302.1; rw [he600393] at z; exact z
                              have bp600399' : gB p600399 0 0 := gB_t0 r600405
                              have r600406 : p600400.toInt = 0 := by have z := hf0600302.2.1; rw [he600393] at z; exact z
                              have bp600400' : gB p600400 0 0 := gB_t0 r600406
                              refine G_widen (cs' := ((rPh γ el f - rPh γ0 el0 f) / 18)) (sl' := (rPh γ el f - rPh γ0 el0 f)) (rm_wc hph600097 hr1600303) (rm_ws hph600097 hr2600304) ?_
                              refine G_astore (L' := [(9, .ref q600284), (8, .int z600215), (0, .ref q561366), (1, .ref q561367), (2, .int g598381), (3, .ref q598521), (4, .int g600091), (5, .ref q600092)]) dr_cX17_spill_373 (Nat.le_of_ble_eq_true rfl) rfl ?_
                              refine G_aload 0 dr_cX17_spill_375 rfl ?_
                              refine G_bipush 23 dr_cX17_spill_377 (by decide +kernel) ?_
                              refine Gp_put 0 hm600392 he600393 dr_cX17_spill_379 (gk_X15 D I) (Nat.le_of_ble_eq_true rfl) wr_9_177 rfl rfl rfl (Nat.le_of_ble_eq_true rfl) (fun F600407 e600408 n600409 => ?_)
                              have he600410 : F600407 q600092 = .inr (20, [.int p600177, .int p600135, .int p600179, .int p600180, .int p600181, .int p600182, .int p600183]) := (n600409 q600092 (rn_ty ht600322 ht600388 (by decide))).trans he600331
                              have he600411 : F600407 q561366 = .inr (22, [.ref (γ 9 0), .ref (γ 9 1), .ref (γ 9 2), .ref (γ 9 3), .ref (γ 9 4), .ref (γ 9 5), .ref (γ 9 6), .ref (γ 9 7), .ref (γ 9 8), .int p600337, .int p600338, .int p600339, .int p600340, .int p600341, .int p600342, .ref (γ 9 15), .ref (γ 9 16), .ref (γ 9 17), .ref (γ 9 18), .ref (γ 9 19), .ref (γ 9 20), .ref (γ 9 21), .ref (γ 9 22), .int p600343, .int p600344, .int p600345, .int p600346, .int p600347, .ref q600335, .ref (γ 9 29), .int p600348, .ref (γ 9 31), .int p600349, .int p600350, .int p600351, .ref q600336]) := (n600409 q561366 (rn_oo he600334 he600393 (by decide))).trans he600334
                              have he600412 : F600407 q600284 = .inr (20, [.int 23, .int p600395, .int p600396, .int p600397, .int p600398, .int p600399, .int p600400]) := e600408
                              have mk600413 : mKp (F561365 q561366) (F600407 q561366) := mKp_tr mk600326 (mKp_eq (n600409 q561366 (rn_ty ht600317 ht600388 (by decide))))
                              have kp600414 : F600407 (γ0 9 3) = F561365 (γ0 9 3) := (n600409 (γ0 9 3) (rn_ty (rSk_k hs600313 k0_3 (by decide) (by decide)) ht600388 (by decide))).trans kp600314
                              have kp600415 : F600407 (γ0 9 19) = F595222 (γ0 9 19) := (n600409 (γ0 9 19) (rn_ty (rSk_k hs600313 k0_19 (by decide) (by decide)) ht600388 (by decide))).trans kp600315
                              refine G_aload 0 dr_cX17_spill_382 rfl ?_
                              refine G_iload 1 dr_cX17_spill_384 rfl ?_
                              refine Gp_put 4 hm600392 he600412 dr_cX17_spill_386 (gk_X15 D I) (Nat.le_of_ble_eq_true rfl) wr_9_193 rfl rfl rfl (Nat.le_of_ble_eq_true rfl) (fun F600416 e600417 n600418 => ?_)
                              have he600419 : F600416 q600092 = .inr (20, [.int p600177, .int p600135, .int p600179, .int p600180, .int p600181, .int p600182, .int p600183]) := (n600418 q600092 (rn_ty ht600322 ht600388 (by decide))).trans he600410
                              have he600420 : F600416 q561366 = .inr (22, [.ref (γ 9 0), .ref (γ 9 1), .ref (γ 9 2), .ref (γ 9 3), .ref (γ 9 4), .ref (γ 9 5), .ref (γ 9 6), .ref (γ 9 7), .ref (γ 9 8), .int p600337, .int p600338, .int p600339, .int p600340, .int p600341, .int p600342, .ref (γ 9 15), .ref (γ 9 16), .ref (γ 9 17), .ref (γ 9 18), .ref (γ 9 19), .ref (γ 9 20), .ref (γ 9 21), .ref (γ 9 22), .int p600343, .int p600344, .int p600345, .int p600346, .int p600347, .ref q600335, .ref (γ 9 29), .int p600348, .ref (γ 9 31), .int p600349, .int p600350, .int p600351, .ref q600336]) := (n600418 q561366 (rn_oo he600411 he600412 (by decide))).trans he600411
                              have he600421 : F600416 q600284 = .inr (20, [.int 23, .int p600395, .int p600396, .int p600397, .int z600215, .int p600399, .int p600400]) := e600417
                              have mk600422 : mKp (F561365 q561366) (F600416 q561366) := mKp_tr mk600413 (mKp_eq (n600418 q561366 (rn_ty ht600317 ht600388 (by decide))))
                              have n600423 : ∀ b, b ≠ q600284 → F600416 b = F600283 b := fun b hb => (n600418 b hb).trans (n600409 b hb)
                              have kp600424 : F600416 (γ0 9 3) = F561365 (γ0 9 3) := (n600418 (γ0 9 3) (rn_ty (rSk_k hs600313 k0_3 (by decide) (by decide)) ht600388 (by decide))).trans kp600414
                              have kp600425 : F600416 (γ0 9 19) = F595222 (γ0 9 19) := (n600418 (γ0 9 19) (rn_ty (rSk_k hs600313 k0_19 (by decide) (by decide)) ht600388 (by decide))).trans kp600415
                              refine G_aload 0 dr_cX17_spill_389 rfl ?_
                              refine G_aload 7 dr_cX17_spill_391 rfl ?_
                              refine Gp_get 1 hm600332 he600419 dr_cX17_spill_393 (gk_X15 D I) (Nat.le_of_ble_eq_true rfl) wr_9_182 rfl ?_
                              refine Gp_put 2 hm600392 he600421 dr_cX17_spill_396 (gk_X15 D I) (Nat.le_of_ble_eq_true rfl) wr_9_186 rfl rfl rfl (Nat.le_of_ble_eq_true rfl) (fun F600426 e600427 n600428 => ?_)
                              have he600429 : F600426 q600092 = .inr (20, [.int p600177, .int p600135, .int p600179, .int p600180, .int p600181, .int p600182, .int p600183]) := (n600428 q600092 (rn_ty ht600322 ht600388 (by decide))).trans he600419
                              have he600430 : F600426 q561366 = .inr (22, [.ref (γ 9 0), .ref (γ 9 1), .ref (γ 9 2), .ref (γ 9 3), .ref (γ 9 4), .ref (γ 9 5), .ref (γ 9 6), .ref (γ 9 7), .ref (γ 9 8), .int p600337, .int p600338, .int p600339, .int p600340, .int p600341, .int p600342, .ref (γ 9 15), .ref (γ 9 16), .ref (γ 9 17), .ref (γ 9 18), .ref (γ 9 19), .ref (γ 9 20), .ref (γ 9 21), .ref (γ 9 22), .int p600343, .int p600344, .int p600345, .int p600346, .int p600347, .ref q600335, .ref (γ 9 29), .int p600348, .ref (γ 9 31), .int p600349, .int p600350, .int p600351, .ref q600336]) := (n600428 q561366 (rn_oo he600420 he600421 (by decide))).trans he600420
                              have he600431 : F600426 q600284 = .inr (20, [.int 23, .int p600395, .int p600135, .int p600397, .int z600215, .int p600399, .int p600400]) := e600427
                              have mk600432 : mKp (F561365 q561366) (F600426 q561366) := mKp_tr mk600422 (mKp_eq (n600428 q561366 (rn_ty ht600317 ht600388 (by decide))))
                              have n600433 : ∀ b, b ≠ q600284 → F600426 b = F600283 b := fun b hb => (n600428 b hb).trans (n600423 b hb)
                              have kp600434 : F600426 (γ0 9 3) = F561365 (γ0 9 3) := (n600428 (γ0 9 3) (rn_ty (rSk_k hs600313 k0_3 (by decide) (by decide)) ht600388 (by decide))).trans kp600424
                              have kp600435 : F600426 (γ0 9 19) = F595222 (γ0 9 19) := (n600428 (γ0 9 19) (rn_ty (rSk_k hs600313 k0_19 (by decide) (by decide)) ht600388 (by decide))).trans kp600425
                              refine G_aload 0 dr_cX17_spill_399 rfl ?_
                              refine G_iconst 1 dr_cX17_spill_401 (by decide +kernel) ?_
                              refine Gp_put 5 hm600392 he600431 dr_cX17_spill_402 (gk_X15 D I) (Nat.le_of_ble_eq_true rfl) wr_9_197 rfl rfl rfl (Nat.le_of_ble_eq_true rfl) (fun F600436 e600437 n600438 => ?_)
                              have he600439 : F600436 q600092 = .inr (20, [.int p600177, .int p600135, .int p600179, .int p600180, .int p600181, .int p600182, .int p600183]) := (n600438 q600092 (rn_ty ht600322 ht600388 (by decide))).trans he600429
                              have he600440 : F600436 q561366 = .inr (22, [.ref (γ 9 0), .ref (γ 9 1), .ref (γ 9 2), .ref (γ 9 3), .ref (γ 9 4), .ref (γ 9 5), .ref (γ 9 6), .ref (γ 9 7), .ref (γ 9 8), .int p600337, .int p600338, .int p600339, .int p600340, .int p600341, .int p600342, .ref (γ 9 15), .ref (γ 9 16), .ref (γ 9 17), .ref (γ 9 18), .ref (γ 9 19), .ref (γ 9 20), .ref (γ 9 21), .ref (γ 9 22), .int p600343, .int p600344, .int p600345, .int p600346, .int p600347, .ref q600335, .ref (γ 9 29), .int p600348, .ref (γ 9 31), .int p600349, .int p600350, .int p600351, .ref q600336]) := (n600438 q561366 (rn_oo he600430 he600431 (by decide))).trans he600430
                              have he600441 : F600436 q600284 = .inr (20, [.int 23, .int p600395, .int p600135, .int p600397, .int z600215, .int 1, .int p600400]) := e600437
                              have mk600442 : mKp (F561365 q561366) (F600436 q561366) := mKp_tr mk600432 (mKp_eq (n600438 q561366 (rn_ty ht600317 ht600388 (by decide))))
                              have n600443 : ∀ b, b ≠ q600284 → F600436 b = F600283 b := fun b hb => (n600438 b hb).trans (n600433 b hb)
                              have kp600444 : F600436 (γ0 9 3) = F561365 (γ0 9 3) := (n600438 (γ0 9 3) (rn_ty (rSk_k hs600313 k0_3 (by decide) (by decide)) ht600388 (by decide))).trans kp600434
                              have kp600445 : F600436 (γ0 9 19) = F595222 (γ0 9 19) := (n600438 (γ0 9 19) (rn_ty (rSk_k hs600313 k0_19 (by decide) (by decide)) ht600388 (by decide))).trans kp600435
                              obtain ⟨z600446, hz600446⟩ : ∃ z : Int32, z = g600091 + Int32.ofInt 1 := ⟨_, rfl⟩
                              have ez600446 : z600446.toInt = g600091.toInt + 1 := gI_inc hz600446 (by decide) bg600091 (by decide) (by decide)
                              have bz600446 : gB z600446 1 1000002 := ⟨by omega, by omega⟩
                              refine G_iinc (L' := [(4, .int z600446), (9, .ref q600284), (8, .int z600215), (0, .ref q561366), (1, .ref q561367), (2, .int g598381), (3, .ref q598521), (5, .ref q600092)]) z600446 6 dr_cX17_spill_405 rfl hz600446.symm (Nat.le_of_ble_eq_true rfl) rfl ?_
                              refine G_aload_n 6 dr_cX17_spill_408 rfl ?_
                              have hT600447 : RS D I P600282 F600436 γ el := RS_set hT600312 n600443 ht600388 (by decide) ⟨23, p600395, p600135, p600397, z600215, 1, p600400, he600441, (gB_w (gBl (show Int32.toInt 23 = 23 by decide)) (by decide) (by decide)), bp600395, bz600215', (gB_w (gBl (show Int32.toInt 1 = 1 by decide)) (by decide) (by decide)), (gB_w bp600400' (by decide) (by decide)), (Or.inr (by decide)), (by have qa0 : Int32.toInt 1 = 1 := (by decide); have qa1 : Int32.toInt 23 = 23 := (by decide); omega), r600403⟩
                              have hs600449 := rSk_put hs600313 hT600447 n600443 ht600388 (by decide) (by decide)
                              have hm600450 : q598521 ∈ P600282 := RS_m hT600447 ht600320 (by decide)
                              obtain ⟨q600452, q600453, p600454, p600455, he600451, ht600462, ht600456, ht600457, ht600458, ht600459, ht600460, bp600454, bp600455, r600461, r600463, r600464⟩ := show rk_2 γ q598521 (F600436 q598521) from RS_o hT600447 ht600320
                              have hf600465 : γ 1 q600452 = f := (show γ 1 q600452 = γ 1 q598521 from ht600457).trans hf600321
                              have hf600466 : γ 1 q600453 = f := (show γ 1 q600453 = γ 1 q598521 from ht600459).trans hf600321
                              have r600467 : γ 6 (γ 1 q598521) = γ 6 f := by rw [hf600321]
                              have r600468 : γ 7 (γ 1 q598521) = γ 7 f := by rw [hf600321]
                              have r600469 : γ 19 (γ 1 q598521) = γ 19 f := by rw [hf600321]
                              have r600470 := r600461.resolve_left (by omega)
                              clear r600461
                              have r600471 : γ 2 (γ 14 q598521) = γ 2 q600452 := by rw [ht600462.1]
                              refine Gp_get 0 hm600450 he600451 dr_cX17_spill_409 (gk_X12 D I) (Nat.le_of_ble_eq_true rfl) wr_9_220 rfl ?_
                              refine G_iload 0 dr_cX17_spill_412 rfl ?_
                              refine G_aload 1 dr_cX17_spill_414 rfl ?_
                              have pl600472 := rPl_fr hT600312 ht600318 hf600319 pl600291 (fun b hb _ => n600443 b (rn_ty (show rKd γ b 1 from hb) ht600388 (by decide)))
                              have rg600473 := rM_ge hT600447 ht600318 hf600319
                              have rm600474 := rM_bd hB600387
                              have bd600475 := rBd_c hT600447 ht600318 hf600319 hB600387
                              have rc600476 := rc_at hT600447 ht600318 hf600319
                              have r600478 : γ 14 (el (γ 14 q561367) g598381.toInt.toNat) = q600452 := by rw [r600330]; exact ht600462.1
                              have r600479 := rg600473.2.2 _ r600329
                              rw [r600478] at r600479
                              have r600480 := bd600475.2.2.2 _ r600329
                              rw [r600478] at r600480
                              have r600481 : γ 7 (γ 1 q600284) = γ 7 f := by rw [x1600294]
                              have hx600482 : rk_1 γ q600284 (F600436 q600284) := ⟨23, p600395, p600135, p600397, z600215, 1, p600400, he600441, (gB_w (gBl (show Int32.toInt 23 = 23 by decide)) (by decide) (by decide)), bp600395, bz600215', (gB_w (gBl (show Int32.toInt 1 = 1 by decide)) (by decide) (by decide)), (gB_w bp600400' (by decide) (by decide)), (Or.inr (by decide)), (by have qa0 : Int32.toInt 1 = 1 := (by decide); have qa1 : Int32.toInt 23 = 23 := (by decide); omega), r600403, (Or.inr (by omega))⟩
                              refine Gt_ins (c := q561367) (f := f) hl0 dr_cX17_spill_416 ⟨wr_10_207, wr_1_18, wr_10_210, by decide, rfl, (Nat.le_of_ble_eq_true rfl), (Nat.le_of_ble_eq_true rfl)⟩ wr_10_208 wr_10_209 hT600447 ht600456 hf600465 ht600388 x1600294 x22600295 r600389 (by omega) ht600318 hf600319 r600329 r600478 hx600482 (by omega) (by omega) (Nat.le_trans r600480 (Nat.le_trans hBk (by decide))) (rm_cs hph600390 r600479 rm600474 (by decide)) (rm_sl hph600390 r600479 rm600474 rm_s11) (Nat.le_of_ble_eq_true rfl) (fun P600483 F600477 γ el dc600484 ds600485 hq600486 => ?_)
                              have pl600487 := sp_ins (j1 := ((g600091.toInt : Int).toNat + 1) + 1) hT600447 ht600318 hf600319 hq600486 r600478 (tn_lt (by omega) (by omega)) (tn_le0 (by omega) (by omega)) (by rw [(show z600446.toInt.toNat = ((g600091.toInt : Int).toNat + 1) from tn_eq1 (by omega) (by omega))]; exact pl600472) (nm_sto he600441 (by decide)).1 (nm_sto he600441 (by decide)).2 (tn_ge (show 100 ≤ p600135.toInt by omega)) rfl
                              obtain ⟨hk600488, x0600489, h2600490, hel600491, hot600492, h16600493, h18600494, hnu600495, hFx600496, hr600497, hM600498, hBB600499⟩ := hq600486
                              have hk600500 := rSk_of hk600488
                              have r600501 : (fI (F600477 q561367) 3).toInt = (fI (F600436 q561367) 3).toInt := by rw [rSk_F hk600500 ht600318 (by decide) (by decide)]
                              obtain ⟨nu600502, nu600503, nu600504, nu600505⟩ := hnu600495
                              have hT600506 := hk600500.1
                              have hs600507 := rSk_tr hs600449 hk600500 (by decide) (by decide) (by decide)
                              have kp600508 : F600477 (γ0 9 3) = F561365 (γ0 9 3) := (rSk_F hk600500 (rSk_k hs600449 k0_3 (by decide) (by decide)) (by decide) (by decide)).trans kp600444
                              have kp600509 : F600477 (γ0 9 19) = F595222 (γ0 9 19) := (rSk_F hk600500 (rSk_k hs600449 k0_19 (by decide) (by decide)) (by decide) (by decide)).trans kp600445
                              have r600510 := rSk_F hk600500 ht600317 (by decide) (by decide)
                              have ht600511 : rKd γ q561366 10 := rSk_k hk600500 ht600317 (by decide) (by decide)
                              have ht600512 : rKd γ q561367 9 := rSk_k hk600500 ht600318 (by decide) (by decide)
                              have hf600513 : γ 1 q561367 = f := rSk_1 hk600500 ht600318 (by decide) hf600319
                              have ht600514 : rKd γ q598521 2 := rSk_k hk600500 ht600320 (by decide) (by decide)
                              have hf600515 : γ 1 q598521 = f := rSk_1 hk600500 ht600320 (by decide) hf600321
                              have ht600516 : rKd γ q600092 1 := rSk_k hk600500 ht600322 (by decide) (by decide)
                              have hf600517 : γ 1 q600092 = f := rSk_1 hk600500 ht600322 (by decide) hf600323
                              have ht600518 : rKd γ q600239 3 := rSk_k hk600500 ht600324 (by decide) (by decide)
                              have hf600519 : γ 1 q600239 = f := rSk_1 hk600500 ht600324 (by decide) hf600325
                              have ht600520 : rKd γ q600452 3 := rSk_k hk600500 ht600456 (by decide) (by decide)
                              have hf600521 : γ 1 q600452 = f := rSk_1 hk600500 ht600456 (by decide) hf600465
                              have mk600522 : mKp (F561365 q561366) (F600477 q561366) := mKp_tr mk600442 (mKp_eq (rSk_F hk600500 ht600317 (by decide) (by decide)))
                              have r600523 := (rSk_s hk600500 ht600318 (by decide)).2.1
                              have r600524 := hot600492 _ (by rw [rc600476.2.1]; decide) (fun q => by rw [q, show _ = 3 from ht600456] at rc600476; exact absurd rc600476.2.1 (by decide))
                              have r600525 : g598381.toInt.toNat < γ 2 (γ 14 q561367) := by rw [r600523, r600524.1]; exact r600329
                              have r600526 : el (γ 14 q561367) g598381.toInt.toNat = q598521 := by rw [r600523, r600524.2]; exact r600330
                              have he600527 : F600477 q600092 = .inr (20, [.int p600177, .int p600135, .int p600179, .int p600180, .int p600181, .int p600182, .int p600183]) := (rSk_F hk600500 ht600322 (by decide) (by decide)).trans he600439
                              have hm600528 : q600092 ∈ P600483 := RS_m hT600506 ht600516 (by decide)
                              clear bp600394 bp600395 bp600398 bp600399 bp600400 bp600396 bp600397 bp600454 bp600455 r600463 r600464 rg600473 rm600474 bd600475 rc600476 r600479 r600480
                              clear r600401 r600402 r600403
                              have hm600529 : q561366 ∈ P600483 := RS_m hT600506 ht600511 (by decide)
                              refine rk10_e (show rk_10 γ (F600477 q561366) from RS_o hT600506 ht600511) (fun q600531 q600532 p600533 p600534 p600535 p600536 p600537 p600538 p600539 p600540 p600541 p600542 p600543 p600544 p600545 p600546 p600547 he600530 hB600574 ht600548 ht600549 ht600550 ht600551 ht600552 ht600553 ht600554 ht600555 ht600556 ht600557 ht600558 ht600559 ht600560 ht600561 ht600562 ht600563 ht600564 ht600565 ht600566 ht600567 ht600568 ht600569 ht600570 ht600571 hB600575 => ?_)
                              have r600576 : p600535.toInt = p600339.toInt := by have z : p600535 = p600339 := congrArg (fun e => fI e 11) (he600530.symm.trans (r600510.trans he600440)); rw [z]
                              have bp600535 : gB p600535 0 100 := (hB600574.2.2.1)
                              have r600577 : p600538.toInt = p600342.toInt := by have z : p600538 = p600342 := congrArg (fun e => fI e 14) (he600530.symm.trans (r600510.trans he600440)); rw [z]
                              have bp600538 : gB p600538 0 2000 := (hB600574.2.2.2.1)
                              have bp600538' : gB p600538 1 2000 := ⟨by omega, by omega⟩
                              first | have sz600578 := (hot600492 q600239 (rT0 ht600324 (by decide)) (by assumption)).1 | skip
                              have ht600579 : rKd γ q600284 1 := x0600489
                              have hB600580 : rBd γ el f B := hBB600499 B hB600387
                              have hph600581 : rPh γ0 el0 f ≤ rPh γ el f := rm_ph hph600390 hr600497.2
                              have pk600582 : rPh γ el f ≤ 387 * B + 6000 := rm_pk (rM_ge hT600506 ht600512 hf600513).1 (rM_bd hB600580)
                              refine G_widen (cs' := ((rPh γ el f - rPh γ0 el0 f) / 18)) (sl' := (rPh γ el f - rPh γ0 el0 f)) (rm_wc hph600390 hr600497.1) (rm_ws hph600390 hr600497.2) ?_
                              have r600583 : γ 14 q598521 = q600452 := ((rSk_s (rSk_of hk600488) ht600320 (by decide)).2.1).trans ht600462.1
                              have sz600584 : γ 2 (γ 14 q598521) = γ 2 q600452 := by rw [r600583]
                              obtain ⟨z600585, hz600585⟩ : ∃ z : Int32, z = z600446 + Int32.ofInt 1 := ⟨_, rfl⟩
                              have ez600585 : z600585.toInt = z600446.toInt + 1 := gI_inc hz600585 (by decide) bz600446 (by decide) (by decide)
                              have bz600585 : gB z600585 2 1000003 := ⟨by omega, by omega⟩
                              refine G_iinc (L' := [(4, .int z600585), (9, .ref q600284), (8, .int z600215), (0, .ref q561366), (1, .ref q561367), (2, .int g598381), (3, .ref q598521), (5, .ref q600092)]) z600585 0 dr_cX17_spill_419 rfl hz600585.symm (Nat.le_of_ble_eq_true rfl) rfl ?_
                              refine G_goto 90 dr_cX17_spill_422 (by decide +kernel) ?_
                              refine G_lv (L' := [(4, .int z600585), (3, .ref q598521), (2, .int g598381), (0, .ref q561366), (1, .ref q561367)]) [0, 6, 5, 3, 4] rfl ?_
                              have ac600586 : (fI (F600477 q561366) 11).toInt = p600535.toInt := by rw [he600530]; rfl
                              have ac600587 : (fI (F600477 q561366) 14).toInt = p600538.toInt := by rw [he600530]; rfl
                              exact ih90_599992 P600483 F600477 γ el z600585 (gB_w bz600585 (by decide) (by decide)) hT600506 hs600507 hph600581 hB600580 ht600514 hf600515 r600525 r600526 (by omega) (by omega) (by omega) (by omega) (by omega) (by omega) kp600509 (by rw [(show (z600585.toInt : Int).toNat = (((g600091.toInt : Int).toNat + 1) + 1) from tn_eq2 (by omega) (by omega))]; exact pl600487) (by omega) (by omega) kp600508 mk600522 (ms_g x600117 (by omega) (by omega) (by omega))
                            · have r600588 : p600135.toInt = 2000 := gj_eq hc600222 (show Int32.toInt 2000 = 2000 by decide)
                              have bp600135' : gB p600135 2000 2000 := ⟨by omega, by omega⟩
                              refine G_iconst 0 dr_cX17_spill_348 (by decide +kernel) ?_
                              exact G_zretA FieldType.boolean dr_cX17_spill_349 rfl rfl (show ((rPh γ el f - rPh γ0 el0 f) / 18) ≤ (((387 * B + 6000) - rPh γ0 el0 f) / 18) by omega) (show (rPh γ el f - rPh γ0 el0 f) ≤ ((387 * B + 6000) - rPh γ0 el0 f) by omega) ⟨P600093, F600094, γ, el, 0, rfl, rfl, hs600096, ⟨by omega, by omega⟩, hB600098, (gB_w (gBl (show Int32.toInt 0 = 0 by decide)) (by decide) (by decide)), (by have qa0 : Int32.toInt 0 = 0 := (by decide); omega), (Or.inl (by decide)), x600118, x600119⟩
                          · have r600589 : z600215.toInt < 0 := gj_nleL hc600219 (show Int32.toInt 0 = 0 by decide)
                            have bz600215' : gB z600215 (-1) (-1) := ⟨by omega, by omega⟩
                            refine G_goto 419 dr_cX17_spill_323 (by decide +kernel) ?_
                            have rn600591 : rNx (nSp (cB (F561365 (γ0 9 3))) (cB (F595222 (γ0 9 19)))) (F600094 q600092) := rS2_n he600176 he600176 x600114 (fun _ => Or.inr ⟨rfl, Or.inr (by omega)⟩)
                            have pl600590 := sp_fin x600112 x600113 rn600591 (rfl : (g600091.toInt : Int).toNat + 1 = (g600091.toInt : Int).toNat + 1)
                            obtain ⟨z600592, hz600592⟩ : ∃ z : Int32, z = g600091 + Int32.ofInt 1 := ⟨_, rfl⟩
                            have ez600592 : z600592.toInt = g600091.toInt + 1 := gI_inc hz600592 (by decide) bg600091 (by decide) (by decide)
                            have bz600592 : gB z600592 1 1000002 := ⟨by omega, by omega⟩
                            refine G_iinc (L' := [(4, .int z600592), (0, .ref q561366), (1, .ref q561367), (2, .int g598381), (3, .ref q598521), (5, .ref q600092)]) z600592 4 dr_cX17_spill_419 rfl hz600592.symm (Nat.le_of_ble_eq_true rfl) rfl ?_
                            refine G_goto 90 dr_cX17_spill_422 (by decide +kernel) ?_
                            refine G_lv (L' := [(4, .int z600592), (3, .ref q598521), (2, .int g598381), (0, .ref q561366), (1, .ref q561367)]) [0, 4, 3, 1, 2] rfl ?_
                            have ac600593 : (fI (F600094 q561366) 11).toInt = p600132.toInt := by rw [he600127]; rfl
                            have ac600594 : (fI (F600094 q561366) 14).toInt = p600135.toInt := by rw [he600127]; rfl
                            exact ih90_599992 P600093 F600094 γ el z600592 (gB_w bz600592 (by decide) (by decide)) hT600095 hs600096 hph600097 hB600098 ht600099 hf600100 r600101 r600102 (by omega) (by omega) (by omega) (by omega) (by omega) (by omega) x600111 (by rw [(show (z600592.toInt : Int).toNat = ((g600091.toInt : Int).toNat + 1) from tn_eq1 (by omega) (by omega))]; exact pl600590) (by omega) (by omega) x600118 x600119 (ms_g x600117 (by omega) (by omega) (by omega))
                    have jn236_600625 : ∀ (P600599 : List Nat) (F600600 : Nat → va_E) (γ el : Nat → Nat → Nat) (g600595 : Int32) (q600596 : Nat) (g600597 : Int32) (g600598 : Int32), gB g600595 0 1000001 → gB g600597 (-1) 1999 → gB g600598 (-1) 1999 → RS D I P600599 F600600 γ el → rSk f [101] ([1, 3, 5, 6, 8, 9, 101] ++ npk) D I P561364 F561365 γ0 el0 P600599 F600600 γ el → rPh γ0 el0 f ≤ rPh γ el f → rBd γ el f B → rKd γ q598521 2 → γ 1 q598521 = f → g598381.toInt.toNat < γ 2 (γ 14 q561367) → el (γ 14 q561367) g598381.toInt.toNat = q598521 → rKd γ q600596 1 → γ 1 q600596 = f → γ 6 f = γ0 6 f → γ 18 f = γ0 18 f → ((γ 7 f : Nat) : Int) = (fI (F600600 q561366) 11).toInt → (fI (F600600 q561366) 11).toInt = (fI (F595222 q561366) 11).toInt → ((γ 16 f : Nat) : Int) + 2000 ≤ (B : Int) + (fI (F600600 q561366) 14).toInt → 100 ≤ (fI (F600600 q561366) 14).toInt → (F600600 (γ0 9 19) = F595222 (γ0 9 19)) → rPl γ el F600600 q561367 (γ 6 f) (spX (cB (F561365 (γ0 9 3))) (cB (F595222 (γ0 9 19))) (g598381.toInt : Int).toNat (g600595.toInt : Int).toNat) → rAt γ el q561367 (g598381.toInt : Int).toNat (g600595.toInt : Int).toNat = q600596 → rS1 (cB (F561365 (γ0 9 3))) (cB (F595222 (γ0 9 19))) (F600600 q600596) g600597.toInt g600598.toInt → (g600595.toInt : Int) ≤ γ 2 (γ 14 q598521) → (g598381.toInt : Int) < γ 6 f → (γ 2 (γ 14 q598521) + 1 - (g600595.toInt : Int).toNat) < n90_599992 + 1 → (F600600 (γ0 9 3) = F561365 (γ0 9 3)) → mKp (F561365 q561366) (F600600 q561366) → G (gV D I) l (gRm 9 195 (((387 * B + 6000) - rPh γ0 el0 f) / 18) ((387 * B + 6000) - rPh γ0 el0 f)) (gMA (gV D I) (pg_561374_SpillForgeModel_spill D I γ0 el0 f B P561364 F561365 q561366 q561367) gNA (((387 * B + 6000) - rPh γ0 el0 f) / 18) ((387 * B + 6000) - rPh γ0 el0 f)) ky_561374_SpillForgeModel_spill 236 [(0, .ref q561366), (1, .ref q561367), (2, .int g598381), (3, .ref q598521), (4, .int g600595), (5, .ref q600596), (6, .int g600597), (7, .int g600598)] [] (va_pl P600599 F600600) ((rPh γ el f - rPh γ0 el0 f) / 18) (rPh γ el f - rPh γ0 el0 f) := by
                      intro P600599 F600600 γ el g600595 q600596 g600597 g600598 bg600595 bg600597 bg600598 hT600601 hs600602 hph600603 hB600604 ht600605 hf600606 r600607 r600608 ht600609 hf600610 x600611 x600612 x600613 x600614 x600615 x600616 x600617 x600618 x600619 x600620 x600621 x600622 x600623 x600624 x600625
                      clear bp600052 bp600053 r600061 r600062 r600065 r600066 r600067 r600068 r600069 r600075 r600076 r600077 r600079 r600078
                      have ht600627 : rKd γ q561366 10 := rSk_k hs600602 hzq561366 (by decide) (by decide)
                      have ht600628 : rKd γ q561367 9 := rSk_k hs600602 hzq561367 (by decide) (by decide)
                      have hf600629 : γ 1 q561367 = f := rSk_1 hs600602 hzq561367 (by decide) hf0
                      have pk600630 : rPh γ el f ≤ 387 * B + 6000 := rm_pk (rM_ge hT600601 ht600628 hf600629).1 (rM_bd hB600604)
                      have r600631 : 0 < γ 6 (γ 1 q561367) := by rw [hf600629]; omega
                      have hm600632 : q561366 ∈ P600599 := RS_m hT600601 ht600627 (by decide)
                      refine rk10_e (show rk_10 γ (F600600 q561366) from RS_o hT600601 ht600627) (fun q600634 q600635 p600636 p600637 p600638 p600639 p600640 p600641 p600642 p600643 p600644 p600645 p600646 p600647 p600648 p600649 p600650 he600633 hB600677 ht600651 ht600652 ht600653 ht600654 ht600655 ht600656 ht600657 ht600658 ht600659 ht600660 ht600661 ht600662 ht600663 ht600664 ht600665 ht600666 ht600667 ht600668 ht600669 ht600670 ht600671 ht600672 ht600673 ht600674 hB600678 => ?_)
                      have ac600679 : (fI (F600600 q561366) 11).toInt = p600638.toInt := by rw [he600633]; rfl
                      have bp600638 : gB p600638 0 100 := (hB600677.2.2.1)
                      have ac600680 : (fI (F600600 q561366) 14).toInt = p600641.toInt := by rw [he600633]; rfl
                      have bp600641 : gB p600641 0 2000 := (hB600677.2.2.2.1)
                      have hm600681 : q600596 ∈ P600599 := RS_m hT600601 ht600609 (by decide)
                      obtain ⟨p600683, p600684, p600685, p600686, p600687, p600688, p600689, he600682, bp600683, bp600684, bp600687, bp600688, bp600689, r600690, r600691, r600692, r600693⟩ := show rk_1 γ q600596 (F600600 q600596) from RS_o hT600601 ht600609
                      have bp600685 := gB_any p600685
                      have bp600686 := gB_any p600686
                      have r600694 : γ 7 (γ 1 q600596) = γ 7 f := by rw [hf600610]
                      refine G_iload 7 dr_cX17_spill_236 rfl ?_
                      refine G_if_lt 292 dr_cX17_spill_238 (by decide +kernel) (fun hc600695 => ?_) (fun hc600695 => ?_)
                      · have r600696 : g600598.toInt < 0 := gj_lt hc600695 (show Int32.toInt 0 = 0 by decide)
                        have bg600598' : gB g600598 (-1) (-1) := ⟨by omega, by omega⟩
                        have ac600697 : (fI (F600600 q561366) 11).toInt = p600638.toInt := by rw [he600633]; rfl
                        have ac600698 : (fI (F600600 q561366) 14).toInt = p600641.toInt := by rw [he600633]; rfl
                        refine G_lv (L' := [(0, .ref q561366), (1, .ref q561367), (2, .int g598381), (3, .ref q598521), (4, .int g600595), (5, .ref q600596)]) [0, 1, 2, 3, 4, 5] rfl ?_
                        exact jn292_600119 P600599 F600600 γ el g600595 q600596 bg600595 hT600601 hs600602 hph600603 hB600604 ht600605 hf600606 r600607 r600608 ht600609 hf600610 (by omega) (by omega) (by omega) (by omega) (by omega) (by omega) x600617 (by exact x600618) (by exact x600619) (rS1_2 x600620 (Or.inl (by omega))) (by omega) (by omega) (ms_j x600623 (by omega) (by omega) (by omega)) x600624 x600625
                      · have r600699 : 0 ≤ g600598.toInt := gj_nlt hc600695 (show Int32.toInt 0 = 0 by decide)
                        have bg600598' : gB g600598 0 1999 := ⟨by omega, by omega⟩
                        refine G_iload 7 dr_cX17_spill_241 rfl ?_
                        refine G_iload 6 dr_cX17_spill_243 rfl ?_
                        refine G_icmp_eq 292 dr_cX17_spill_245 (by decide +kernel) (fun hc600700 => ?_) (fun hc600700 => ?_)
                        · have r600701 : g600598.toInt = g600597.toInt := gC_eq hc600700
                          have bg600597' : gB g600597 0 1999 := ⟨by omega, by omega⟩
                          have ac600702 : (fI (F600600 q561366) 11).toInt = p600638.toInt := by rw [he600633]; rfl
                          have ac600703 : (fI (F600600 q561366) 14).toInt = p600641.toInt := by rw [he600633]; rfl
                          refine G_lv (L' := [(0, .ref q561366), (1, .ref q561367), (2, .int g598381), (3, .ref q598521), (4, .int g600595), (5, .ref q600596)]) [0, 1, 2, 3, 4, 5] rfl ?_
                          exact jn292_600119 P600599 F600600 γ el g600595 q600596 bg600595 hT600601 hs600602 hph600603 hB600604 ht600605 hf600606 r600607 r600608 ht600609 hf600610 (by omega) (by omega) (by omega) (by omega) (by omega) (by omega) x600617 (by exact x600618) (by exact x600619) (rS1_2 x600620 (Or.inr (Or.inl (by omega)))) (by omega) (by omega) (ms_j x600623 (by omega) (by omega) (by omega)) x600624 x600625
                        · have r600704 : g600598.toInt ≠ g600597.toInt := gC_ne hc600700
                          refine G_aload_n 0 dr_cX17_spill_248 rfl ?_
                          refine Gp_get 19 hm600632 he600633 dr_cX17_spill_249 (gk_X17 D I) (Nat.le_of_ble_eq_true rfl) wr_7_93 rfl ?_
                          refine G_iload 7 dr_cX17_spill_252 rfl ?_
                          have hm600705 : (γ 9 19) ∈ P600599 := RS_m hT600601 ht600666 (by decide)
                          obtain ⟨f600707, he600706, bf600707⟩ := show rk_21 I (F600600 (γ 9 19)) from RS_o hT600601 ht600666
                          refine Gp_iald 0 hm600705 he600706 dr_cX17_spill_254 rfl (gB_in bg600598' (by decide) (by decide)) (G_nam fun z600708 hz600708 => ?_)
                          have bz600708 : gB z600708 (-1) 1999 := by rw [hz600708]; exact bf600707 _
                          have c9_600709 : cB (F595222 (γ0 9 19)) = f600707 := by rw [← x600617, ← congrFun (rSk_9 hs600602) 19]; exact cB_of he600706
                          have hs600710 : (cB (F595222 (γ0 9 19)) g600598.toInt.toNat).toInt = z600708.toInt := by rw [c9_600709, hz600708]; rfl
                          refine G_if_lt 292 dr_cX17_spill_255 (by decide +kernel) (fun hc600712 => ?_) (fun hc600712 => ?_)
                          · have r600713 : z600708.toInt < 0 := gj_lt hc600712 (show Int32.toInt 0 = 0 by decide)
                            have bz600708' : gB z600708 (-1) (-1) := ⟨by omega, by omega⟩
                            have ac600714 : (fI (F600600 q561366) 11).toInt = p600638.toInt := by rw [he600633]; rfl
                            have ac600715 : (fI (F600600 q561366) 14).toInt = p600641.toInt := by rw [he600633]; rfl
                            refine G_lv (L' := [(0, .ref q561366), (1, .ref q561367), (2, .int g598381), (3, .ref q598521), (4, .int g600595), (5, .ref q600596)]) [0, 1, 2, 3, 4, 5] rfl ?_
                            exact jn292_600119 P600599 F600600 γ el g600595 q600596 bg600595 hT600601 hs600602 hph600603 hB600604 ht600605 hf600606 r600607 r600608 ht600609 hf600610 (by omega) (by omega) (by omega) (by omega) (by omega) (by omega) x600617 (by exact x600618) (by exact x600619) (rS1_2 x600620 (Or.inr (Or.inr (by omega)))) (by omega) (by omega) (ms_j x600623 (by omega) (by omega) (by omega)) x600624 x600625
                          · have r600716 : 0 ≤ z600708.toInt := gj_nlt hc600712 (show Int32.toInt 0 = 0 by decide)
                            have bz600708' : gB z600708 0 1999 := ⟨by omega, by omega⟩
                            refine G_aload_n 0 dr_cX17_spill_258 rfl ?_
                            refine G_aload_n 1 dr_cX17_spill_259 rfl ?_
                            refine G_aload_n 3 dr_cX17_spill_260 rfl ?_
                            refine G_iload 4 dr_cX17_spill_261 rfl ?_
                            refine G_aload_n 0 dr_cX17_spill_263 rfl ?_
                            refine Gp_get 19 hm600632 he600633 dr_cX17_spill_264 (gk_X17 D I) (Nat.le_of_ble_eq_true rfl) wr_7_93 rfl ?_
                            refine G_iload 7 dr_cX17_spill_267 rfl ?_
                            refine Gp_iald 0 hm600705 he600706 dr_cX17_spill_269 rfl (gB_in bg600598' (by decide) (by decide)) (G_eqi (y := z600708) hz600708.symm ?_)
                            have r600717 := (spi595307.2.2.2 g600598.toInt.toNat (tn_lt (by omega) (by omega)) (by omega)).2.2
                            have ac600718 : (fI (F600600 q561366) 11).toInt = p600638.toInt := by rw [he600633]; rfl
                            have ac600719 : (fI (F600600 q561366) 14).toInt = p600641.toInt := by rw [he600633]; rfl
                            have rg600720 := rM_ge hT600601 ht600628 hf600629
                            have rm600721 := rM_bd hB600604
                            have bd600722 := rBd_c hT600601 ht600628 hf600629 hB600604
                            have rc600723 := rc_at hT600601 ht600628 hf600629
                            refine Gw_callV (As := [.ref q561367, .ref q598521, .int g600595, .int z600708]) (gV_ok D I) (cg_396985_SpillForgeModel_load l hl0 D I γ el f B P600599 F600600 q561366 q561367 q598521 g600595 z600708 g598381.toInt.toNat hT600601 ht600627 ht600628 ht600605 hf600629 hB600604 hBk r600607 r600608 hf600606 ⟨by omega, by omega⟩ bz600708' (by omega) (by omega) (by omega) (by omega) (by omega)) dr_cX17_spill_270 ⟨wr_11_67, wr_1_14, wr_11_70, by decide, rfl, (Nat.le_of_ble_eq_true rfl), (Nat.le_of_ble_eq_true rfl)⟩ wr_11_69 wr_p_111 hm600632 he600633 rfl (rm_gc hph600603 pk600630) (rm_gs hph600603 pk600630) (Nat.le_of_ble_eq_true rfl) (fun r600727 w600728 dc600724 ds600725 hp600726 => ?_) (fun _ _ _ _ _ z => z.elim)
                            obtain ⟨P600739, F600740, γ, el, o600729, rfl, rfl, hk600741, ⟨hr600742, hr600743⟩, hB600744, bo600729, x600730, x600731, x600732, x600733, x600734, x600735, x600736, x600737, x600738⟩ := hp600726
                            have hT600745 := hk600741.1
                            have hs600746 := rSk_tr hs600602 hk600741 (by decide) (by decide) (by decide)
                            have kp600747 : F600740 (γ0 9 3) = F561365 (γ0 9 3) := (rSk_F hk600741 (rSk_k hs600602 k0_3 (by decide) (by decide)) (by decide) (by decide)).trans x600624
                            have kp600748 : F600740 (γ0 9 19) = F595222 (γ0 9 19) := (rSk_F hk600741 (rSk_k hs600602 k0_19 (by decide) (by decide)) (by decide) (by decide)).trans x600617
                            have ht600749 : rKd γ q561366 10 := rSk_k hk600741 ht600627 (by decide) (by decide)
                            have ht600750 : rKd γ q561367 9 := rSk_k hk600741 ht600628 (by decide) (by decide)
                            have hf600751 : γ 1 q561367 = f := rSk_1 hk600741 ht600628 (by decide) hf600629
                            have ht600752 : rKd γ q598521 2 := rSk_k hk600741 ht600605 (by decide) (by decide)
                            have hf600753 : γ 1 q598521 = f := rSk_1 hk600741 ht600605 (by decide) hf600606
                            have ht600754 : rKd γ q600596 1 := rSk_k hk600741 ht600609 (by decide) (by decide)
                            have hf600755 : γ 1 q600596 = f := rSk_1 hk600741 ht600609 (by decide) hf600610
                            have he600756 : F600740 q600596 = .inr (20, [.int p600683, .int p600684, .int p600685, .int p600686, .int p600687, .int p600688, .int p600689]) := (rSk_F hk600741 ht600609 (by decide) (by decide)).trans he600682
                            have hm600757 : q600596 ∈ P600739 := RS_m hT600745 ht600754 (by decide)
                            clear rg600720 rm600721 bd600722 rc600723
                            have mk600758 : mKp (F561365 q561366) (F600740 q561366) := mKp_tr x600625 x600738
                            have hph600759 : rPh γ0 el0 f ≤ rPh γ el f := rm_ph hph600603 hr600743
                            have pk600760 : rPh γ el f ≤ 387 * B + 6000 := rm_pk (rM_ge hT600745 ht600750 hf600751).1 (rM_bd hB600744)
                            change G _ _ _ _ _ _ _ (.int o600729 :: _) _ _ _
                            refine G_widen (cs' := ((rPh γ el f - rPh γ0 el0 f) / 18)) (sl' := (rPh γ el f - rPh γ0 el0 f)) (rm_wc hph600603 hr600742) (rm_ws hph600603 hr600743) ?_
                            have sz600761 := x600730
                            have r600762 : 0 < γ 6 (γ 1 q561367) := by rw [hf600751]; omega
                            have hm600763 : q561366 ∈ P600739 := RS_m hT600745 ht600749 (by decide)
                            refine rk10_e (show rk_10 γ (F600740 q561366) from RS_o hT600745 ht600749) (fun q600765 q600766 p600767 p600768 p600769 p600770 p600771 p600772 p600773 p600774 p600775 p600776 p600777 p600778 p600779 p600780 p600781 he600764 hB600808 ht600782 ht600783 ht600784 ht600785 ht600786 ht600787 ht600788 ht600789 ht600790 ht600791 ht600792 ht600793 ht600794 ht600795 ht600796 ht600797 ht600798 ht600799 ht600800 ht600801 ht600802 ht600803 ht600804 ht600805 hB600809 => ?_)
                            have ac600810 : (fI (F600740 q561366) 11).toInt = p600769.toInt := by rw [he600764]; rfl
                            have bp600769 : gB p600769 0 100 := (hB600808.2.2.1)
                            have ac600811 : (fI (F600740 q561366) 14).toInt = p600772.toInt := by rw [he600764]; rfl
                            have bp600772 : gB p600772 0 2000 := (hB600808.2.2.2.1)
                            refine G_istore (L' := [(8, .int o600729), (0, .ref q561366), (1, .ref q561367), (2, .int g598381), (3, .ref q598521), (4, .int g600595), (5, .ref q600596), (6, .int g600597), (7, .int g600598)]) dr_cX17_spill_273 (Nat.le_of_ble_eq_true rfl) rfl ?_
                            refine G_iload 0 dr_cX17_spill_275 rfl ?_
                            refine G_if_ge 282 dr_cX17_spill_277 (by decide +kernel) (fun hc600812 => ?_) (fun hc600812 => ?_)
                            · have r600813 : 0 ≤ o600729.toInt := gj_leL hc600812 (show Int32.toInt 0 = 0 by decide)
                              have bo600729' : gB o600729 0 1999 := ⟨by omega, by omega⟩
                              have pl600815 := sp_ld (x600736.resolve_left (by omega)) x600618 (tn_ge (by omega)) (rfl : ((g600595.toInt : Int).toNat + 1) = (g600595.toInt : Int).toNat + 1)
                              have hp600816 : rAt γ el q561367 (g598381.toInt : Int).toNat ((g600595.toInt : Int).toNat + 1) = q600596 := ((x600737.resolve_left (by omega)) (g600595.toInt : Int).toNat (Nat.le_refl _)).trans x600619
                              have r600817 := x600734.resolve_left (by omega)
                              clear x600734 x600736 x600737
                              obtain ⟨z600818, hz600818⟩ : ∃ z : Int32, z = g600595 + Int32.ofInt 1 := ⟨_, rfl⟩
                              have ez600818 : z600818.toInt = g600595.toInt + 1 := gI_inc hz600818 (by decide) bg600595 (by decide) (by decide)
                              have bz600818 : gB z600818 1 1000002 := ⟨by omega, by omega⟩
                              refine G_iinc (L' := [(4, .int z600818), (8, .int o600729), (0, .ref q561366), (1, .ref q561367), (2, .int g598381), (3, .ref q598521), (5, .ref q600596), (6, .int g600597), (7, .int g600598)]) z600818 5 dr_cX17_spill_282 rfl hz600818.symm (Nat.le_of_ble_eq_true rfl) rfl ?_
                              refine G_aload 6 dr_cX17_spill_285 rfl ?_
                              refine G_iload 1 dr_cX17_spill_287 rfl ?_
                              refine Gp_put 3 hm600757 he600756 dr_cX17_spill_289 (gk_X15 D I) (Nat.le_of_ble_eq_true rfl) wr_9_190 rfl rfl rfl (Nat.le_of_ble_eq_true rfl) (fun F600819 e600820 n600821 => ?_)
                              have he600822 : F600819 q561366 = .inr (22, [.ref (γ 9 0), .ref (γ 9 1), .ref (γ 9 2), .ref (γ 9 3), .ref (γ 9 4), .ref (γ 9 5), .ref (γ 9 6), .ref (γ 9 7), .ref (γ 9 8), .int p600767, .int p600768, .int p600769, .int p600770, .int p600771, .int p600772, .ref (γ 9 15), .ref (γ 9 16), .ref (γ 9 17), .ref (γ 9 18), .ref (γ 9 19), .ref (γ 9 20), .ref (γ 9 21), .ref (γ 9 22), .int p600773, .int p600774, .int p600775, .int p600776, .int p600777, .ref q600765, .ref (γ 9 29), .int p600778, .ref (γ 9 31), .int p600779, .int p600780, .int p600781, .ref q600766]) := (n600821 q561366 (rn_oo he600764 he600756 (by decide))).trans he600764
                              have he600823 : F600819 q600596 = .inr (20, [.int p600683, .int p600684, .int p600685, .int o600729, .int p600687, .int p600688, .int p600689]) := e600820
                              have mk600824 : mKp (F561365 q561366) (F600819 q561366) := mKp_tr mk600758 (mKp_eq (n600821 q561366 (rn_ty ht600749 ht600754 (by decide))))
                              have kp600825 : F600819 (γ0 9 3) = F561365 (γ0 9 3) := (n600821 (γ0 9 3) (rn_ty (rSk_k hs600746 k0_3 (by decide) (by decide)) ht600754 (by decide))).trans kp600747
                              have kp600826 : F600819 (γ0 9 19) = F595222 (γ0 9 19) := (n600821 (γ0 9 19) (rn_ty (rSk_k hs600746 k0_19 (by decide) (by decide)) ht600754 (by decide))).trans kp600748
                              have hT600827 : RS D I P600739 F600819 γ el := RS_set hT600745 n600821 ht600754 (by decide) ⟨p600683, p600684, p600685, o600729, p600687, p600688, p600689, he600823, bp600683, bp600684, bp600687, bp600688, bp600689, r600690, r600691, (by omega), (by have z := r600693; omega)⟩
                              have hs600829 := rSk_put hs600746 hT600827 n600821 ht600754 (by decide) (by decide)
                              have hm600831 : q598521 ∈ P600739 := RS_m hT600827 ht600752 (by decide)
                              obtain ⟨q600833, q600834, p600835, p600836, he600832, ht600843, ht600837, ht600838, ht600839, ht600840, ht600841, bp600835, bp600836, r600842, r600844, r600845⟩ := show rk_2 γ q598521 (F600819 q598521) from RS_o hT600827 ht600752
                              have hf600846 : γ 1 q600833 = f := (show γ 1 q600833 = γ 1 q598521 from ht600838).trans hf600753
                              have hf600847 : γ 1 q600834 = f := (show γ 1 q600834 = γ 1 q598521 from ht600840).trans hf600753
                              have r600848 : γ 6 (γ 1 q598521) = γ 6 f := by rw [hf600753]
                              have r600849 : γ 7 (γ 1 q598521) = γ 7 f := by rw [hf600753]
                              have r600850 : γ 19 (γ 1 q598521) = γ 19 f := by rw [hf600753]
                              have r600851 := r600842.resolve_left (by omega)
                              clear r600842
                              have r600852 : γ 2 (γ 14 q598521) = γ 2 q600833 := by rw [ht600843.1]
                              have pl600830 := sp_put hT600745 ht600750 hf600751 pl600815 n600821 hp600816 (show (g598381.toInt : Int).toNat < γ 6 f from tn_lt (by omega) (by omega)) (by unfold rwL; rw [x600733.2.2]; exact tn_le1 (by omega) (by omega))
                              have ac600853 : (fI (F600819 q561366) 11).toInt = p600769.toInt := by rw [he600822]; rfl
                              have ac600854 : (fI (F600819 q561366) 14).toInt = p600772.toInt := by rw [he600822]; rfl
                              refine G_lv (L' := [(0, .ref q561366), (1, .ref q561367), (2, .int g598381), (3, .ref q598521), (4, .int z600818), (5, .ref q600596)]) [2, 3, 4, 5, 0, 6] rfl ?_
                              exact jn292_600119 P600739 F600819 γ el z600818 q600596 ⟨by omega, by omega⟩ hT600827 hs600829 hph600759 hB600744 ht600752 hf600753 x600733.2.1 x600733.2.2 ht600754 hf600755 (by omega) (by omega) (by omega) (by omega) (by omega) (by omega) kp600826 (by rw [(show (z600818.toInt : Int).toNat = ((g600595.toInt : Int).toNat + 1) from tn_eq1 (by omega) (by omega))]; exact pl600830) (by rw [(show (z600818.toInt : Int).toNat = ((g600595.toInt : Int).toNat + 1) from tn_eq1 (by omega) (by omega))]; exact hp600816) (rS1_b he600682 he600823 (by omega) x600620) (by omega) (by omega) (ms_j x600623 (by omega) (by omega) (by omega)) kp600825 mk600824
                            · have r600855 : o600729.toInt < 0 := gj_nleL hc600812 (show Int32.toInt 0 = 0 by decide)
                              have bo600729' : gB o600729 (-1) (-1) := ⟨by omega, by omega⟩
                              refine G_iconst 0 dr_cX17_spill_280 (by decide +kernel) ?_
                              exact G_zretA FieldType.boolean dr_cX17_spill_281 rfl rfl (show ((rPh γ el f - rPh γ0 el0 f) / 18) ≤ (((387 * B + 6000) - rPh γ0 el0 f) / 18) by omega) (show (rPh γ el f - rPh γ0 el0 f) ≤ ((387 * B + 6000) - rPh γ0 el0 f) by omega) ⟨P600739, F600740, γ, el, 0, rfl, rfl, hs600746, ⟨by omega, by omega⟩, hB600744, (gB_w (gBl (show Int32.toInt 0 = 0 by decide)) (by decide) (by decide)), (by have qa0 : Int32.toInt 0 = 0 := (by decide); omega), (Or.inl (by decide)), kp600747, mk600758⟩
                    refine G_iload 0 dr_cX17_spill_102 rfl ?_
                    refine G_aload_n 1 dr_cX17_spill_104 rfl ?_
                    refine Gp_get 0 hm600048 he600049 dr_cX17_spill_105 (gk_X12 D I) (Nat.le_of_ble_eq_true rfl) wr_9_220 rfl ?_
                    refine Gw_callV (As := []) (gV_ok D I) (cp_7_ArrayList_size l hl0 D I P599971 F599972 q600050 p600072 q600074 p600073 hm600070 he600071 (gB_w bp600073 (by decide) (by decide))) dr_cX17_spill_108 ⟨wr_10_200, wr_1_18, wr_9_160, by decide, rfl, (Nat.le_of_ble_eq_true rfl), (Nat.le_of_ble_eq_true rfl)⟩ wr_9_158 wr_9_159 hm600070 he600071 rfl (rm_zc pk599997) (rm_zs pk599997) (Nat.le_of_ble_eq_true rfl) (fun r600859 w600860 dc600856 ds600857 hp600858 => ?_) (fun _ _ _ _ _ z => z.elim)
                    obtain ⟨rfl, rfl, hdc, hds⟩ := hp600858
                    change G _ _ _ _ _ _ _ (.int p600073 :: _) _ _ _
                    refine G_widen (cs' := ((rPh γ el f - rPh γ0 el0 f) / 18)) (sl' := (rPh γ el f - rPh γ0 el0 f)) (rm_d0 hdc) (rm_d0 hds) ?_
                    refine G_icmp_ge 129 dr_cX17_spill_111 (by decide +kernel) (fun hc600861 => ?_) (fun hc600861 => ?_)
                    · have r600862 : p600073.toInt ≤ g599970.toInt := gC_le hc600861
                      refine G_aload_n 1 dr_cX17_spill_129 rfl ?_
                      refine Gp_get 1 hm600048 he600049 dr_cX17_spill_130 (gk_X12 D I) (Nat.le_of_ble_eq_true rfl) wr_9_223 rfl ?_
                      have fl600865 : p600073.toInt = γ 2 q600050 := r600075
                      have hp600863 : rAt γ el q561367 (g598381.toInt : Int).toNat (g599970.toInt : Int).toNat = q600051 := (rAt_e r599980 ht600060.1 (by omega)).trans ht600060.2.1
                      have hL600864 : (g599970.toInt : Int).toNat ≤ γ 2 (rwL γ el q561367 (g598381.toInt : Int).toNat) := by unfold rwL; rw [r599980, ht600060.1]; exact tn_le0 (by omega) (by omega)
                      have hm600866 : q600051 ∈ P599971 := RS_m hT599973 ht600056 (by decide)
                      obtain ⟨p600868, p600869, p600870, p600871, p600872, p600873, p600874, he600867, bp600868, bp600869, bp600872, bp600873, bp600874, r600875, r600876, r600877, r600878⟩ := show rk_1 γ q600051 (F599972 q600051) from RS_o hT599973 ht600056
                      have bp600870 := gB_any p600870
                      have bp600871 := gB_any p600871
                      have r600879 : γ 7 (γ 1 q600051) = γ 7 f := by rw [hf600064]
                      have pl600880 := sp_hd x599988 hp600863 (show (g598381.toInt : Int).toNat < γ 6 f from tn_lt (by omega) (by omega)) hL600864
                      refine G_astore (L' := [(5, .ref q600051), (4, .int g599970), (3, .ref q598521), (2, .int g598381), (0, .ref q561366), (1, .ref q561367)]) dr_cX17_spill_133 (Nat.le_of_ble_eq_true rfl) rfl ?_
                      refine G_aload 0 dr_cX17_spill_135 rfl ?_
                      refine Gw_callV (As := []) (gV_ok D I) (cp_397347_Row_usesA l hl0 D I P599971 F599972 q600051 p600868 p600869 p600870 p600871 p600872 p600873 p600874 hm600866 he600867 bp600868 bp600869 bp600872 bp600873 bp600874) dr_cX17_spill_137 ⟨wr_10_192, wr_1_39, wr_10_195, by decide, rfl, (Nat.le_of_ble_eq_true rfl), (Nat.le_of_ble_eq_true rfl)⟩ wr_10_193 wr_10_194 hm600866 he600867 rfl (rm_zc pk599997) (rm_zs pk599997) (Nat.le_of_ble_eq_true rfl) (fun r600884 w600885 dc600881 ds600882 hp600883 => ?_) (fun _ _ _ _ _ z => z.elim)
                      obtain ⟨o600886, rfl, rfl, hdc, hds, bo600886, x600887⟩ := hp600883
                      change G _ _ _ _ _ _ _ (.int o600886 :: _) _ _ _
                      refine G_widen (cs' := ((rPh γ el f - rPh γ0 el0 f) / 18)) (sl' := (rPh γ el f - rPh γ0 el0 f)) (rm_d0 hdc) (rm_d0 hds) ?_
                      refine G_if_eq 151 dr_cX17_spill_140 (by decide +kernel) (fun hc600888 => ?_) (fun hc600888 => ?_)
                      · have r600889 : o600886.toInt = 0 := gj_eq hc600888 (show Int32.toInt 0 = 0 by decide)
                        have bo600886' : gB o600886 0 0 := gB_t0 r600889
                        refine G_iconst (-1) dr_cX17_spill_151 (by decide +kernel) ?_
                        refine G_istore (L' := [(6, .int (-1)), (5, .ref q600051), (4, .int g599970), (3, .ref q598521), (2, .int g598381), (0, .ref q561366), (1, .ref q561367)]) dr_cX17_spill_152 (Nat.le_of_ble_eq_true rfl) rfl ?_
                        refine G_aload 1 dr_cX17_spill_154 rfl ?_
                        refine Gw_callV (As := []) (gV_ok D I) (cp_397371_Row_usesB l hl0 D I P599971 F599972 q600051 p600868 p600869 p600870 p600871 p600872 p600873 p600874 hm600866 he600867 bp600868 bp600869 bp600872 bp600873 bp600874) dr_cX17_spill_156 ⟨wr_10_196, wr_1_39, wr_10_199, by decide, rfl, (Nat.le_of_ble_eq_true rfl), (Nat.le_of_ble_eq_true rfl)⟩ wr_10_197 wr_10_198 hm600866 he600867 rfl (rm_zc pk599997) (rm_zs pk599997) (Nat.le_of_ble_eq_true rfl) (fun r600893 w600894 dc600890 ds600891 hp600892 => ?_) (fun _ _ _ _ _ z => z.elim)
                        obtain ⟨o600895, rfl, rfl, hdc, hds, bo600895, x600896⟩ := hp600892
                        change G _ _ _ _ _ _ _ (.int o600895 :: _) _ _ _
                        refine G_widen (cs' := ((rPh γ el f - rPh γ0 el0 f) / 18)) (sl' := (rPh γ el f - rPh γ0 el0 f)) (rm_d0 hdc) (rm_d0 hds) ?_
                        refine G_if_eq 170 dr_cX17_spill_159 (by decide +kernel) (fun hc600897 => ?_) (fun hc600897 => ?_)
                        · have r600898 : o600895.toInt = 0 := gj_eq hc600897 (show Int32.toInt 0 = 0 by decide)
                          have bo600895' : gB o600895 0 0 := gB_t0 r600898
                          refine G_iconst (-1) dr_cX17_spill_170 (by decide +kernel) ?_
                          refine G_istore (L' := [(7, .int (-1)), (6, .int (-1)), (5, .ref q600051), (4, .int g599970), (3, .ref q598521), (2, .int g598381), (0, .ref q561366), (1, .ref q561367)]) dr_cX17_spill_171 (Nat.le_of_ble_eq_true rfl) rfl ?_
                          refine G_iload 1 dr_cX17_spill_173 rfl ?_
                          refine G_if_lt 236 dr_cX17_spill_175 (by decide +kernel) (fun _ => ?_) (fun hc => absurd hc (by decide))
                          have ac600899 : (fI (F599972 q561366) 11).toInt = p600005.toInt := by rw [he600000]; rfl
                          have ac600900 : (fI (F599972 q561366) 14).toInt = p600008.toInt := by rw [he600000]; rfl
                          refine G_lv (L' := [(0, .ref q561366), (1, .ref q561367), (2, .int g598381), (3, .ref q598521), (4, .int g599970), (5, .ref q600051), (6, .int (-1)), (7, .int (-1))]) [6, 7, 5, 4, 3, 2, 1, 0] rfl ?_
                          exact jn236_600625 P599971 F599972 γ el g599970 q600051 (-1) (-1) (gB_w bg599970' (by decide) (by decide)) (gB_w (gBl (show Int32.toInt (-1) = (-1) by decide)) (by decide) (by decide)) (gB_w (gBl (show Int32.toInt (-1) = (-1) by decide)) (by decide) (by decide)) hT599973 hs599974 hph599975 hB599976 ht599977 hf599978 r599979 r599980 ht600056 hf600064 (by have qa0 : Int32.toInt (-1) = (-1) := (by decide); omega) (by have qa0 : Int32.toInt (-1) = (-1) := (by decide); omega) (by have qa0 : Int32.toInt (-1) = (-1) := (by decide); omega) (by have qa0 : Int32.toInt (-1) = (-1) := (by decide); omega) (by have qa0 : Int32.toInt (-1) = (-1) := (by decide); omega) (by have qa0 : Int32.toInt (-1) = (-1) := (by decide); omega) x599987 (by exact pl600880.1) (by exact hp600863) (rS1_of he600867 he600867 pl600880.2 (fun h1 h2 h3 h4 => (uA_0 x600887 (by omega) h1 h2 h3 h4).elim) (fun h1 h2 h3 => (uB_0 x600896 (by omega) h1 h2 h3).elim)) (by have qa0 : Int32.toInt (-1) = (-1) := (by decide); omega) (by have qa0 : Int32.toInt (-1) = (-1) := (by decide); omega) (ms_j hm90_599992 (by omega) (by omega) (by omega)) x599991 x599992
                        · have r600901 : o600895.toInt ≠ 0 := gj_neq hc600897 (show Int32.toInt 0 = 0 by decide)
                          have bo600895' : gB o600895 1 1 := gB_t1 bo600895 r600901
                          refine G_aload 1 dr_cX17_spill_162 rfl ?_
                          refine Gp_get 3 hm600866 he600867 dr_cX17_spill_164 (gk_X15 D I) (Nat.le_of_ble_eq_true rfl) wr_9_190 rfl ?_
                          have rb600902 : gB p600871 0 1999 := r600877.resolve_left (by have z := (uB_1 x600896 (by omega)).2.2; omega)
                          refine G_goto 171 dr_cX17_spill_167 (by decide +kernel) ?_
                          refine G_istore (L' := [(7, .int p600871), (6, .int (-1)), (5, .ref q600051), (4, .int g599970), (3, .ref q598521), (2, .int g598381), (0, .ref q561366), (1, .ref q561367)]) dr_cX17_spill_171 (Nat.le_of_ble_eq_true rfl) rfl ?_
                          refine G_iload 1 dr_cX17_spill_173 rfl ?_
                          refine G_if_lt 236 dr_cX17_spill_175 (by decide +kernel) (fun _ => ?_) (fun hc => absurd hc (by decide))
                          have ac600903 : (fI (F599972 q561366) 11).toInt = p600005.toInt := by rw [he600000]; rfl
                          have ac600904 : (fI (F599972 q561366) 14).toInt = p600008.toInt := by rw [he600000]; rfl
                          refine G_lv (L' := [(0, .ref q561366), (1, .ref q561367), (2, .int g598381), (3, .ref q598521), (4, .int g599970), (5, .ref q600051), (6, .int (-1)), (7, .int p600871)]) [6, 7, 5, 4, 3, 2, 1, 0] rfl ?_
                          exact jn236_600625 P599971 F599972 γ el g599970 q600051 (-1) p600871 (gB_w bg599970' (by decide) (by decide)) (gB_w (gBl (show Int32.toInt (-1) = (-1) by decide)) (by decide) (by decide)) (gB_w rb600902 (by decide) (by decide)) hT599973 hs599974 hph599975 hB599976 ht599977 hf599978 r599979 r599980 ht600056 hf600064 (by have qa0 : Int32.toInt (-1) = (-1) := (by decide); omega) (by have qa0 : Int32.toInt (-1) = (-1) := (by decide); omega) (by have qa0 : Int32.toInt (-1) = (-1) := (by decide); omega) (by have qa0 : Int32.toInt (-1) = (-1) := (by decide); omega) (by have qa0 : Int32.toInt (-1) = (-1) := (by decide); omega) (by have qa0 : Int32.toInt (-1) = (-1) := (by decide); omega) x599987 (by exact pl600880.1) (by exact hp600863) (rS1_of he600867 he600867 pl600880.2 (fun h1 h2 h3 h4 => (uA_0 x600887 (by omega) h1 h2 h3 h4).elim) (fun _ _ _ => Or.inr ⟨rfl, rfl, by omega, Or.inl (by have qa : Int32.toInt (-1) = -1 := (by decide); omega)⟩)) (by have qa0 : Int32.toInt (-1) = (-1) := (by decide); omega) (by have qa0 : Int32.toInt (-1) = (-1) := (by decide); omega) (ms_j hm90_599992 (by omega) (by omega) (by omega)) x599991 x599992
                      · have r600905 : o600886.toInt ≠ 0 := gj_neq hc600888 (show Int32.toInt 0 = 0 by decide)
                        have bo600886' : gB o600886 1 1 := gB_t1 bo600886 r600905
                        refine G_aload 0 dr_cX17_spill_143 rfl ?_
                        refine Gp_get 2 hm600866 he600867 dr_cX17_spill_145 (gk_X15 D I) (Nat.le_of_ble_eq_true rfl) wr_9_186 rfl ?_
                        have rb600906 : gB p600870 0 1999 := r600876.resolve_left (by have z := (uA_1 x600887 (by omega)).2.2.2; omega)
                        refine G_goto 152 dr_cX17_spill_148 (by decide +kernel) ?_
                        refine G_istore (L' := [(6, .int p600870), (5, .ref q600051), (4, .int g599970), (3, .ref q598521), (2, .int g598381), (0, .ref q561366), (1, .ref q561367)]) dr_cX17_spill_152 (Nat.le_of_ble_eq_true rfl) rfl ?_
                        refine G_aload 1 dr_cX17_spill_154 rfl ?_
                        refine Gw_callV (As := []) (gV_ok D I) (cp_397371_Row_usesB l hl0 D I P599971 F599972 q600051 p600868 p600869 p600870 p600871 p600872 p600873 p600874 hm600866 he600867 bp600868 bp600869 bp600872 bp600873 bp600874) dr_cX17_spill_156 ⟨wr_10_196, wr_1_39, wr_10_199, by decide, rfl, (Nat.le_of_ble_eq_true rfl), (Nat.le_of_ble_eq_true rfl)⟩ wr_10_197 wr_10_198 hm600866 he600867 rfl (rm_zc pk599997) (rm_zs pk599997) (Nat.le_of_ble_eq_true rfl) (fun r600910 w600911 dc600907 ds600908 hp600909 => ?_) (fun _ _ _ _ _ z => z.elim)
                        obtain ⟨o600912, rfl, rfl, hdc, hds, bo600912, x600913⟩ := hp600909
                        change G _ _ _ _ _ _ _ (.int o600912 :: _) _ _ _
                        refine G_widen (cs' := ((rPh γ el f - rPh γ0 el0 f) / 18)) (sl' := (rPh γ el f - rPh γ0 el0 f)) (rm_d0 hdc) (rm_d0 hds) ?_
                        refine G_if_eq 170 dr_cX17_spill_159 (by decide +kernel) (fun hc600914 => ?_) (fun hc600914 => ?_)
                        · have r600915 : o600912.toInt = 0 := gj_eq hc600914 (show Int32.toInt 0 = 0 by decide)
                          have bo600912' : gB o600912 0 0 := gB_t0 r600915
                          refine G_iconst (-1) dr_cX17_spill_170 (by decide +kernel) ?_
                          refine G_istore (L' := [(7, .int (-1)), (6, .int p600870), (5, .ref q600051), (4, .int g599970), (3, .ref q598521), (2, .int g598381), (0, .ref q561366), (1, .ref q561367)]) dr_cX17_spill_171 (Nat.le_of_ble_eq_true rfl) rfl ?_
                          refine G_iload 1 dr_cX17_spill_173 rfl ?_
                          refine G_if_lt 236 dr_cX17_spill_175 (by decide +kernel) (fun hc => absurd (show False by have := gj_lt hc (show Int32.toInt 0 = 0 by decide); omega) not_false) (fun _ => ?_)
                          refine G_aload_n 6 dr_cX17_spill_178 rfl ?_
                          refine Gp_get 19 hm599999 he600000 dr_cX17_spill_179 (gk_X17 D I) (Nat.le_of_ble_eq_true rfl) wr_7_93 rfl ?_
                          refine G_iload 1 dr_cX17_spill_182 rfl ?_
                          have hm600916 : (γ 9 19) ∈ P599971 := RS_m hT599973 ht600033 (by decide)
                          obtain ⟨f600918, he600917, bf600918⟩ := show rk_21 I (F599972 (γ 9 19)) from RS_o hT599973 ht600033
                          refine Gp_iald 0 hm600916 he600917 dr_cX17_spill_184 rfl (gB_in rb600906 (by decide) (by decide)) (G_nam fun z600919 hz600919 => ?_)
                          have bz600919 : gB z600919 (-1) 1999 := by rw [hz600919]; exact bf600918 _
                          have c9_600920 : cB (F595222 (γ0 9 19)) = f600918 := by rw [← x599987, ← congrFun (rSk_9 hs599974) 19]; exact cB_of he600917
                          have hs600921 : (cB (F595222 (γ0 9 19)) p600870.toInt.toNat).toInt = z600919.toInt := by rw [c9_600920, hz600919]; rfl
                          refine G_if_lt 236 dr_cX17_spill_185 (by decide +kernel) (fun hc600923 => ?_) (fun hc600923 => ?_)
                          · have r600924 : z600919.toInt < 0 := gj_lt hc600923 (show Int32.toInt 0 = 0 by decide)
                            have bz600919' : gB z600919 (-1) (-1) := ⟨by omega, by omega⟩
                            have ac600925 : (fI (F599972 q561366) 11).toInt = p600005.toInt := by rw [he600000]; rfl
                            have ac600926 : (fI (F599972 q561366) 14).toInt = p600008.toInt := by rw [he600000]; rfl
                            refine G_lv (L' := [(0, .ref q561366), (1, .ref q561367), (2, .int g598381), (3, .ref q598521), (4, .int g599970), (5, .ref q600051), (6, .int p600870), (7, .int (-1))]) [6, 7, 5, 4, 3, 2, 1, 0] rfl ?_
                            exact jn236_600625 P599971 F599972 γ el g599970 q600051 p600870 (-1) (gB_w bg599970' (by decide) (by decide)) (gB_w rb600906 (by decide) (by decide)) (gB_w (gBl (show Int32.toInt (-1) = (-1) by decide)) (by decide) (by decide)) hT599973 hs599974 hph599975 hB599976 ht599977 hf599978 r599979 r599980 ht600056 hf600064 (by have qa0 : Int32.toInt (-1) = (-1) := (by decide); omega) (by have qa0 : Int32.toInt (-1) = (-1) := (by decide); omega) (by have qa0 : Int32.toInt (-1) = (-1) := (by decide); omega) (by have qa0 : Int32.toInt (-1) = (-1) := (by decide); omega) (by have qa0 : Int32.toInt (-1) = (-1) := (by decide); omega) (by have qa0 : Int32.toInt (-1) = (-1) := (by decide); omega) x599987 (by exact pl600880.1) (by exact hp600863) (rS1_of he600867 he600867 pl600880.2 (fun _ _ _ _ => Or.inr ⟨rfl, by omega⟩) (fun h1 h2 h3 => (uB_0 x600913 (by omega) h1 h2 h3).elim)) (by have qa0 : Int32.toInt (-1) = (-1) := (by decide); omega) (by have qa0 : Int32.toInt (-1) = (-1) := (by decide); omega) (ms_j hm90_599992 (by omega) (by omega) (by omega)) x599991 x599992
                          · have r600927 : 0 ≤ z600919.toInt := gj_nlt hc600923 (show Int32.toInt 0 = 0 by decide)
                            have bz600919' : gB z600919 0 1999 := ⟨by omega, by omega⟩
                            refine G_aload_n 6 dr_cX17_spill_188 rfl ?_
                            refine G_aload_n 7 dr_cX17_spill_189 rfl ?_
                            refine G_aload_n 4 dr_cX17_spill_190 rfl ?_
                            refine G_iload 3 dr_cX17_spill_191 rfl ?_
                            refine G_aload_n 6 dr_cX17_spill_193 rfl ?_
                            refine Gp_get 19 hm599999 he600000 dr_cX17_spill_194 (gk_X17 D I) (Nat.le_of_ble_eq_true rfl) wr_7_93 rfl ?_
                            refine G_iload 1 dr_cX17_spill_197 rfl ?_
                            refine Gp_iald 0 hm600916 he600917 dr_cX17_spill_199 rfl (gB_in rb600906 (by decide) (by decide)) (G_eqi (y := z600919) hz600919.symm ?_)
                            have r600928 := (spi595307.2.2.2 p600870.toInt.toNat (tn_lt (by omega) (by omega)) (by omega)).2.2
                            have ac600929 : (fI (F599972 q561366) 11).toInt = p600005.toInt := by rw [he600000]; rfl
                            have ac600930 : (fI (F599972 q561366) 14).toInt = p600008.toInt := by rw [he600000]; rfl
                            have rg600931 := rM_ge hT599973 ht599995 hf599996
                            have rm600932 := rM_bd hB599976
                            have bd600933 := rBd_c hT599973 ht599995 hf599996 hB599976
                            have rc600934 := rc_at hT599973 ht599995 hf599996
                            refine Gw_callV (As := [.ref q561367, .ref q598521, .int g599970, .int z600919]) (gV_ok D I) (cg_396985_SpillForgeModel_load l hl0 D I γ el f B P599971 F599972 q561366 q561367 q598521 g599970 z600919 g598381.toInt.toNat hT599973 ht599994 ht599995 ht599977 hf599996 hB599976 hBk r599979 r599980 hf599978 bg599970' bz600919' (by have qa0 : Int32.toInt (-1) = (-1) := (by decide); omega) (by have qa0 : Int32.toInt (-1) = (-1) := (by decide); omega) (by have qa0 : Int32.toInt (-1) = (-1) := (by decide); omega) (by have qa0 : Int32.toInt (-1) = (-1) := (by decide); omega) (by have qa0 : Int32.toInt (-1) = (-1) := (by decide); omega)) dr_cX17_spill_200 ⟨wr_11_67, wr_1_14, wr_11_70, by decide, rfl, (Nat.le_of_ble_eq_true rfl), (Nat.le_of_ble_eq_true rfl)⟩ wr_11_69 wr_p_111 hm599999 he600000 rfl (rm_gc hph599975 pk599997) (rm_gs hph599975 pk599997) (Nat.le_of_ble_eq_true rfl) (fun r600938 w600939 dc600935 ds600936 hp600937 => ?_) (fun _ _ _ _ _ z => z.elim)
                            obtain ⟨P600950, F600951, γ, el, o600940, rfl, rfl, hk600952, ⟨hr600953, hr600954⟩, hB600955, bo600940, x600941, x600942, x600943, x600944, x600945, x600946, x600947, x600948, x600949⟩ := hp600937
                            have hT600956 := hk600952.1
                            have hs600957 := rSk_tr hs599974 hk600952 (by decide) (by decide) (by decide)
                            have kp600958 : F600951 (γ0 9 3) = F561365 (γ0 9 3) := (rSk_F hk600952 (rSk_k hs599974 k0_3 (by decide) (by decide)) (by decide) (by decide)).trans x599991
                            have kp600959 : F600951 (γ0 9 19) = F595222 (γ0 9 19) := (rSk_F hk600952 (rSk_k hs599974 k0_19 (by decide) (by decide)) (by decide) (by decide)).trans x599987
                            have ht600960 : rKd γ q561366 10 := rSk_k hk600952 ht599994 (by decide) (by decide)
                            have ht600961 : rKd γ q561367 9 := rSk_k hk600952 ht599995 (by decide) (by decide)
                            have hf600962 : γ 1 q561367 = f := rSk_1 hk600952 ht599995 (by decide) hf599996
                            have ht600963 : rKd γ q598521 2 := rSk_k hk600952 ht599977 (by decide) (by decide)
                            have hf600964 : γ 1 q598521 = f := rSk_1 hk600952 ht599977 (by decide) hf599978
                            have ht600965 : rKd γ q600050 3 := rSk_k hk600952 ht600054 (by decide) (by decide)
                            have hf600966 : γ 1 q600050 = f := rSk_1 hk600952 ht600054 (by decide) hf600063
                            have ht600967 : rKd γ q600051 1 := rSk_k hk600952 ht600056 (by decide) (by decide)
                            have hf600968 : γ 1 q600051 = f := rSk_1 hk600952 ht600056 (by decide) hf600064
                            have he600969 : F600951 q600051 = .inr (20, [.int p600868, .int p600869, .int p600870, .int p600871, .int p600872, .int p600873, .int p600874]) := (rSk_F hk600952 ht600056 (by decide) (by decide)).trans he600867
                            have hm600970 : q600051 ∈ P600950 := RS_m hT600956 ht600967 (by decide)
                            clear bp600052 bp600053 r600061 r600062 rg600931 rm600932 bd600933 rc600934
                            have mk600971 : mKp (F561365 q561366) (F600951 q561366) := mKp_tr x599992 x600949
                            have hph600972 : rPh γ0 el0 f ≤ rPh γ el f := rm_ph hph599975 hr600954
                            have pk600973 : rPh γ el f ≤ 387 * B + 6000 := rm_pk (rM_ge hT600956 ht600961 hf600962).1 (rM_bd hB600955)
                            change G _ _ _ _ _ _ _ (.int o600940 :: _) _ _ _
                            refine G_widen (cs' := ((rPh γ el f - rPh γ0 el0 f) / 18)) (sl' := (rPh γ el f - rPh γ0 el0 f)) (rm_wc hph599975 hr600953) (rm_ws hph599975 hr600954) ?_
                            have sz600974 := x600941
                            have r600975 : 0 < γ 6 (γ 1 q561367) := by rw [hf600962]; omega
                            have hm600976 : q561366 ∈ P600950 := RS_m hT600956 ht600960 (by decide)
                            refine rk10_e (show rk_10 γ (F600951 q561366) from RS_o hT600956 ht600960) (fun q600978 q600979 p600980 p600981 p600982 p600983 p600984 p600985 p600986 p600987 p600988 p600989 p600990 p600991 p600992 p600993 p600994 he600977 hB601021 ht600995 ht600996 ht600997 ht600998 ht600999 ht601000 ht601001 ht601002 ht601003 ht601004 ht601005 ht601006 ht601007 ht601008 ht601009 ht601010 ht601011 ht601012 ht601013 ht601014 ht601015 ht601016 ht601017 ht601018 hB601022 => ?_)
                            have ac601023 : (fI (F600951 q561366) 11).toInt = p600982.toInt := by rw [he600977]; rfl
                            have bp600982 : gB p600982 0 100 := (hB601021.2.2.1)
                            have ac601024 : (fI (F600951 q561366) 14).toInt = p600985.toInt := by rw [he600977]; rfl
                            have bp600985 : gB p600985 0 2000 := (hB601021.2.2.2.1)
                            refine G_istore (L' := [(8, .int o600940), (7, .int (-1)), (6, .int p600870), (5, .ref q600051), (4, .int g599970), (3, .ref q598521), (2, .int g598381), (0, .ref q561366), (1, .ref q561367)]) dr_cX17_spill_203 (Nat.le_of_ble_eq_true rfl) rfl ?_
                            refine G_iload 0 dr_cX17_spill_205 rfl ?_
                            refine G_if_ge 212 dr_cX17_spill_207 (by decide +kernel) (fun hc601025 => ?_) (fun hc601025 => ?_)
                            · have r601026 : 0 ≤ o600940.toInt := gj_leL hc601025 (show Int32.toInt 0 = 0 by decide)
                              have bo600940' : gB o600940 0 1999 := ⟨by omega, by omega⟩
                              have pl601028 := sp_ld (x600947.resolve_left (by omega)) pl600880.1 (tn_ge (by omega)) (rfl : ((g599970.toInt : Int).toNat + 1) = (g599970.toInt : Int).toNat + 1)
                              have hp601029 : rAt γ el q561367 (g598381.toInt : Int).toNat ((g599970.toInt : Int).toNat + 1) = q600051 := ((x600948.resolve_left (by omega)) (g599970.toInt : Int).toNat (Nat.le_refl _)).trans hp600863
                              have r601030 := x600945.resolve_left (by omega)
                              clear x600945 x600947 x600948
                              obtain ⟨z601031, hz601031⟩ : ∃ z : Int32, z = g599970 + Int32.ofInt 1 := ⟨_, rfl⟩
                              have ez601031 : z601031.toInt = g599970.toInt + 1 := gI_inc hz601031 (by decide) bg599970' (by decide) (by decide)
                              have bz601031 : gB z601031 1 1000001 := ⟨by omega, by omega⟩
                              refine G_iinc (L' := [(4, .int z601031), (8, .int o600940), (7, .int (-1)), (6, .int p600870), (5, .ref q600051), (3, .ref q598521), (2, .int g598381), (0, .ref q561366), (1, .ref q561367)]) z601031 4 dr_cX17_spill_212 rfl hz601031.symm (Nat.le_of_ble_eq_true rfl) rfl ?_
                              refine G_aload 4 dr_cX17_spill_215 rfl ?_
                              refine G_iload 1 dr_cX17_spill_217 rfl ?_
                              refine Gp_put 2 hm600970 he600969 dr_cX17_spill_219 (gk_X15 D I) (Nat.le_of_ble_eq_true rfl) wr_9_186 rfl rfl rfl (Nat.le_of_ble_eq_true rfl) (fun F601032 e601033 n601034 => ?_)
                              have he601035 : F601032 q561366 = .inr (22, [.ref (γ 9 0), .ref (γ 9 1), .ref (γ 9 2), .ref (γ 9 3), .ref (γ 9 4), .ref (γ 9 5), .ref (γ 9 6), .ref (γ 9 7), .ref (γ 9 8), .int p600980, .int p600981, .int p600982, .int p600983, .int p600984, .int p600985, .ref (γ 9 15), .ref (γ 9 16), .ref (γ 9 17), .ref (γ 9 18), .ref (γ 9 19), .ref (γ 9 20), .ref (γ 9 21), .ref (γ 9 22), .int p600986, .int p600987, .int p600988, .int p600989, .int p600990, .ref q600978, .ref (γ 9 29), .int p600991, .ref (γ 9 31), .int p600992, .int p600993, .int p600994, .ref q600979]) := (n601034 q561366 (rn_oo he600977 he600969 (by decide))).trans he600977
                              have he601036 : F601032 q600051 = .inr (20, [.int p600868, .int p600869, .int o600940, .int p600871, .int p600872, .int p600873, .int p600874]) := e601033
                              have mk601037 : mKp (F561365 q561366) (F601032 q561366) := mKp_tr mk600971 (mKp_eq (n601034 q561366 (rn_ty ht600960 ht600967 (by decide))))
                              have kp601038 : F601032 (γ0 9 3) = F561365 (γ0 9 3) := (n601034 (γ0 9 3) (rn_ty (rSk_k hs600957 k0_3 (by decide) (by decide)) ht600967 (by decide))).trans kp600958
                              have kp601039 : F601032 (γ0 9 19) = F595222 (γ0 9 19) := (n601034 (γ0 9 19) (rn_ty (rSk_k hs600957 k0_19 (by decide) (by decide)) ht600967 (by decide))).trans kp600959
                              refine G_iload 2 dr_cX17_spill_222 rfl ?_
                              refine G_iload 3 dr_cX17_spill_224 rfl ?_
                              refine G_icmp_ne 236 dr_cX17_spill_226 (by decide +kernel) (fun _ => ?_) (fun hc => absurd (show False by have := gj_eqL hc (show Int32.toInt (-1) = (-1) by decide); omega) not_false)
                              have hT601040 : RS D I P600950 F601032 γ el := RS_set hT600956 n601034 ht600967 (by decide) ⟨p600868, p600869, o600940, p600871, p600872, p600873, p600874, he601036, bp600868, bp600869, bp600872, bp600873, bp600874, r600875, (by omega), r600877, (by have z := r600878; omega)⟩
                              have hs601042 := rSk_put hs600957 hT601040 n601034 ht600967 (by decide) (by decide)
                              have hm601044 : q598521 ∈ P600950 := RS_m hT601040 ht600963 (by decide)
                              obtain ⟨q601046, q601047, p601048, p601049, he601045, ht601056, ht601050, ht601051, ht601052, ht601053, ht601054, bp601048, bp601049, r601055, r601057, r601058⟩ := show rk_2 γ q598521 (F601032 q598521) from RS_o hT601040 ht600963
                              have hf601059 : γ 1 q601046 = f := (show γ 1 q601046 = γ 1 q598521 from ht601051).trans hf600964
                              have hf601060 : γ 1 q601047 = f := (show γ 1 q601047 = γ 1 q598521 from ht601053).trans hf600964
                              have r601061 : γ 6 (γ 1 q598521) = γ 6 f := by rw [hf600964]
                              have r601062 : γ 7 (γ 1 q598521) = γ 7 f := by rw [hf600964]
                              have r601063 : γ 19 (γ 1 q598521) = γ 19 f := by rw [hf600964]
                              have r601064 := r601055.resolve_left (by omega)
                              clear r601055
                              have r601065 : γ 2 (γ 14 q598521) = γ 2 q601046 := by rw [ht601056.1]
                              have pl601043 := sp_put hT600956 ht600961 hf600962 pl601028 n601034 hp601029 (show (g598381.toInt : Int).toNat < γ 6 f from tn_lt (by omega) (by omega)) (by unfold rwL; rw [x600944.2.2]; exact tn_le1 (by omega) (by omega))
                              have ac601066 : (fI (F601032 q561366) 11).toInt = p600982.toInt := by rw [he601035]; rfl
                              have ac601067 : (fI (F601032 q561366) 14).toInt = p600985.toInt := by rw [he601035]; rfl
                              refine G_lv (L' := [(0, .ref q561366), (1, .ref q561367), (2, .int g598381), (3, .ref q598521), (4, .int z601031), (5, .ref q600051), (6, .int p600870), (7, .int (-1))]) [7, 8, 6, 5, 0, 4, 3, 2] rfl ?_
                              exact jn236_600625 P600950 F601032 γ el z601031 q600051 p600870 (-1) (gB_w bz601031 (by decide) (by decide)) (gB_w rb600906 (by decide) (by decide)) (gB_w (gBl (show Int32.toInt (-1) = (-1) by decide)) (by decide) (by decide)) hT601040 hs601042 hph600972 hB600955 ht600963 hf600964 x600944.2.1 x600944.2.2 ht600967 hf600968 (by have qa0 : Int32.toInt (-1) = (-1) := (by decide); omega) (by have qa0 : Int32.toInt (-1) = (-1) := (by decide); omega) (by have qa0 : Int32.toInt (-1) = (-1) := (by decide); omega) (by have qa0 : Int32.toInt (-1) = (-1) := (by decide); omega) (by have qa0 : Int32.toInt (-1) = (-1) := (by decide); omega) (by have qa0 : Int32.toInt (-1) = (-1) := (by decide); omega) kp601039 (by rw [(show (z601031.toInt : Int).toNat = ((g599970.toInt : Int).toNat + 1) from tn_eq1 (by omega) (by omega))]; exact pl601043) (by rw [(show (z601031.toInt : Int).toNat = ((g599970.toInt : Int).toNat + 1) from tn_eq1 (by omega) (by omega))]; exact hp601029) (rS1_of he600867 he601036 pl600880.2 (fun _ _ _ _ => Or.inl (by omega)) (fun h1 h2 h3 => (uB_0 x600913 (by omega) h1 h2 h3).elim)) (by have qa0 : Int32.toInt (-1) = (-1) := (by decide); omega) (by have qa0 : Int32.toInt (-1) = (-1) := (by decide); omega) (ms_j hm90_599992 (by omega) (by omega) (by omega)) kp601038 mk601037
                            · have r601068 : o600940.toInt < 0 := gj_nleL hc601025 (show Int32.toInt 0 = 0 by decide)
                              have bo600940' : gB o600940 (-1) (-1) := ⟨by omega, by omega⟩
                              refine G_iconst 0 dr_cX17_spill_210 (by decide +kernel) ?_
                              exact G_zretA FieldType.boolean dr_cX17_spill_211 rfl rfl (show ((rPh γ el f - rPh γ0 el0 f) / 18) ≤ (((387 * B + 6000) - rPh γ0 el0 f) / 18) by omega) (show (rPh γ el f - rPh γ0 el0 f) ≤ ((387 * B + 6000) - rPh γ0 el0 f) by omega) ⟨P600950, F600951, γ, el, 0, rfl, rfl, hs600957, ⟨by omega, by omega⟩, hB600955, (gB_w (gBl (show Int32.toInt 0 = 0 by decide)) (by decide) (by decide)), (by have qa0 : Int32.toInt (-1) = (-1) := (by decide); have qa1 : Int32.toInt 0 = 0 := (by decide); omega), (Or.inl (by decide)), kp600958, mk600971⟩
                        · have r601069 : o600912.toInt ≠ 0 := gj_neq hc600914 (show Int32.toInt 0 = 0 by decide)
                          have bo600912' : gB o600912 1 1 := gB_t1 bo600912 r601069
                          refine G_aload 1 dr_cX17_spill_162 rfl ?_
                          refine Gp_get 3 hm600866 he600867 dr_cX17_spill_164 (gk_X15 D I) (Nat.le_of_ble_eq_true rfl) wr_9_190 rfl ?_
                          have rb601070 : gB p600871 0 1999 := r600877.resolve_left (by have z := (uB_1 x600913 (by omega)).2.2; omega)
                          refine G_goto 171 dr_cX17_spill_167 (by decide +kernel) ?_
                          refine G_istore (L' := [(7, .int p600871), (6, .int p600870), (5, .ref q600051), (4, .int g599970), (3, .ref q598521), (2, .int g598381), (0, .ref q561366), (1, .ref q561367)]) dr_cX17_spill_171 (Nat.le_of_ble_eq_true rfl) rfl ?_
                          refine G_iload 1 dr_cX17_spill_173 rfl ?_
                          refine G_if_lt 236 dr_cX17_spill_175 (by decide +kernel) (fun hc => absurd (show False by have := gj_lt hc (show Int32.toInt 0 = 0 by decide); omega) not_false) (fun _ => ?_)
                          refine G_aload_n 6 dr_cX17_spill_178 rfl ?_
                          refine Gp_get 19 hm599999 he600000 dr_cX17_spill_179 (gk_X17 D I) (Nat.le_of_ble_eq_true rfl) wr_7_93 rfl ?_
                          refine G_iload 1 dr_cX17_spill_182 rfl ?_
                          have hm601071 : (γ 9 19) ∈ P599971 := RS_m hT599973 ht600033 (by decide)
                          obtain ⟨f601073, he601072, bf601073⟩ := show rk_21 I (F599972 (γ 9 19)) from RS_o hT599973 ht600033
                          refine Gp_iald 0 hm601071 he601072 dr_cX17_spill_184 rfl (gB_in rb600906 (by decide) (by decide)) (G_nam fun z601074 hz601074 => ?_)
                          have bz601074 : gB z601074 (-1) 1999 := by rw [hz601074]; exact bf601073 _
                          have c9_601075 : cB (F595222 (γ0 9 19)) = f601073 := by rw [← x599987, ← congrFun (rSk_9 hs599974) 19]; exact cB_of he601072
                          have hs601076 : (cB (F595222 (γ0 9 19)) p600870.toInt.toNat).toInt = z601074.toInt := by rw [c9_601075, hz601074]; rfl
                          refine G_if_lt 236 dr_cX17_spill_185 (by decide +kernel) (fun hc601078 => ?_) (fun hc601078 => ?_)
                          · have r601079 : z601074.toInt < 0 := gj_lt hc601078 (show Int32.toInt 0 = 0 by decide)
                            have bz601074' : gB z601074 (-1) (-1) := ⟨by omega, by omega⟩
                            have ac601080 : (fI (F599972 q561366) 11).toInt = p600005.toInt := by rw [he600000]; rfl
                            have ac601081 : (fI (F599972 q561366) 14).toInt = p600008.toInt := by rw [he600000]; rfl
                            refine G_lv (L' := [(0, .ref q561366), (1, .ref q561367), (2, .int g598381), (3, .ref q598521), (4, .int g599970), (5, .ref q600051), (6, .int p600870), (7, .int p600871)]) [6, 7, 5, 4, 3, 2, 1, 0] rfl ?_
                            exact jn236_600625 P599971 F599972 γ el g599970 q600051 p600870 p600871 (gB_w bg599970' (by decide) (by decide)) (gB_w rb600906 (by decide) (by decide)) (gB_w rb601070 (by decide) (by decide)) hT599973 hs599974 hph599975 hB599976 ht599977 hf599978 r599979 r599980 ht600056 hf600064 (by omega) (by omega) (by omega) (by omega) (by omega) (by omega) x599987 (by exact pl600880.1) (by exact hp600863) (rS1_of he600867 he600867 pl600880.2 (fun _ _ _ _ => Or.inr ⟨rfl, by omega⟩) (fun _ _ _ => Or.inr ⟨rfl, rfl, by omega, (Classical.em (p600871.toInt = p600870.toInt)).elim (fun e => Or.inr (by rw [e]; omega)) (fun e => Or.inl e)⟩)) (by omega) (by omega) (ms_j hm90_599992 (by omega) (by omega) (by omega)) x599991 x599992
                          · have r601082 : 0 ≤ z601074.toInt := gj_nlt hc601078 (show Int32.toInt 0 = 0 by decide)
                            have bz601074' : gB z601074 0 1999 := ⟨by omega, by omega⟩
                            refine G_aload_n 6 dr_cX17_spill_188 rfl ?_
                            refine G_aload_n 7 dr_cX17_spill_189 rfl ?_
                            refine G_aload_n 4 dr_cX17_spill_190 rfl ?_
                            refine G_iload 3 dr_cX17_spill_191 rfl ?_
                            refine G_aload_n 6 dr_cX17_spill_193 rfl ?_
                            refine Gp_get 19 hm599999 he600000 dr_cX17_spill_194 (gk_X17 D I) (Nat.le_of_ble_eq_true rfl) wr_7_93 rfl ?_
                            refine G_iload 1 dr_cX17_spill_197 rfl ?_
                            refine Gp_iald 0 hm601071 he601072 dr_cX17_spill_199 rfl (gB_in rb600906 (by decide) (by decide)) (G_eqi (y := z601074) hz601074.symm ?_)
                            have r601083 := (spi595307.2.2.2 p600870.toInt.toNat (tn_lt (by omega) (by omega)) (by omega)).2.2
                            have ac601084 : (fI (F599972 q561366) 11).toInt = p600005.toInt := by rw [he600000]; rfl
                            have ac601085 : (fI (F599972 q561366) 14).toInt = p600008.toInt := by rw [he600000]; rfl
                            have rg601086 := rM_ge hT599973 ht599995 hf599996
                            have rm601087 := rM_bd hB599976
                            have bd601088 := rBd_c hT599973 ht599995 hf599996 hB599976
                            have rc601089 := rc_at hT599973 ht599995 hf599996
                            refine Gw_callV (As := [.ref q561367, .ref q598521, .int g599970, .int z601074]) (gV_ok D I) (cg_396985_SpillForgeModel_load l hl0 D I γ el f B P599971 F599972 q561366 q561367 q598521 g599970 z601074 g598381.toInt.toNat hT599973 ht599994 ht599995 ht599977 hf599996 hB599976 hBk r599979 r599980 hf599978 bg599970' bz601074' (by omega) (by omega) (by omega) (by omega) (by omega)) dr_cX17_spill_200 ⟨wr_11_67, wr_1_14, wr_11_70, by decide, rfl, (Nat.le_of_ble_eq_true rfl), (Nat.le_of_ble_eq_true rfl)⟩ wr_11_69 wr_p_111 hm599999 he600000 rfl (rm_gc hph599975 pk599997) (rm_gs hph599975 pk599997) (Nat.le_of_ble_eq_true rfl) (fun r601093 w601094 dc601090 ds601091 hp601092 => ?_) (fun _ _ _ _ _ z => z.elim)
                            obtain ⟨P601105, F601106, γ, el, o601095, rfl, rfl, hk601107, ⟨hr601108, hr601109⟩, hB601110, bo601095, x601096, x601097, x601098, x601099, x601100, x601101, x601102, x601103, x601104⟩ := hp601092
                            have hT601111 := hk601107.1
                            have hs601112 := rSk_tr hs599974 hk601107 (by decide) (by decide) (by decide)
                            have kp601113 : F601106 (γ0 9 3) = F561365 (γ0 9 3) := (rSk_F hk601107 (rSk_k hs599974 k0_3 (by decide) (by decide)) (by decide) (by decide)).trans x599991
                            have kp601114 : F601106 (γ0 9 19) = F595222 (γ0 9 19) := (rSk_F hk601107 (rSk_k hs599974 k0_19 (by decide) (by decide)) (by decide) (by decide)).trans x599987
                            have ht601115 : rKd γ q561366 10 := rSk_k hk601107 ht599994 (by decide) (by decide)
                            have ht601116 : rKd γ q561367 9 := rSk_k hk601107 ht599995 (by decide) (by decide)
                            have hf601117 : γ 1 q561367 = f := rSk_1 hk601107 ht599995 (by decide) hf599996
                            have ht601118 : rKd γ q598521 2 := rSk_k hk601107 ht599977 (by decide) (by decide)
                            have hf601119 : γ 1 q598521 = f := rSk_1 hk601107 ht599977 (by decide) hf599978
                            have ht601120 : rKd γ q600050 3 := rSk_k hk601107 ht600054 (by decide) (by decide)
                            have hf601121 : γ 1 q600050 = f := rSk_1 hk601107 ht600054 (by decide) hf600063
                            have ht601122 : rKd γ q600051 1 := rSk_k hk601107 ht600056 (by decide) (by decide)
                            have hf601123 : γ 1 q600051 = f := rSk_1 hk601107 ht600056 (by decide) hf600064
                            have he601124 : F601106 q600051 = .inr (20, [.int p600868, .int p600869, .int p600870, .int p600871, .int p600872, .int p600873, .int p600874]) := (rSk_F hk601107 ht600056 (by decide) (by decide)).trans he600867
                            have hm601125 : q600051 ∈ P601105 := RS_m hT601111 ht601122 (by decide)
                            clear bp600052 bp600053 r600061 r600062 rg601086 rm601087 bd601088 rc601089
                            have mk601126 : mKp (F561365 q561366) (F601106 q561366) := mKp_tr x599992 x601104
                            have hph601127 : rPh γ0 el0 f ≤ rPh γ el f := rm_ph hph599975 hr601109
                            have pk601128 : rPh γ el f ≤ 387 * B + 6000 := rm_pk (rM_ge hT601111 ht601116 hf601117).1 (rM_bd hB601110)
                            change G _ _ _ _ _ _ _ (.int o601095 :: _) _ _ _
                            refine G_widen (cs' := ((rPh γ el f - rPh γ0 el0 f) / 18)) (sl' := (rPh γ el f - rPh γ0 el0 f)) (rm_wc hph599975 hr601108) (rm_ws hph599975 hr601109) ?_
                            have sz601129 := x601096
                            have r601130 : 0 < γ 6 (γ 1 q561367) := by rw [hf601117]; omega
                            have hm601131 : q561366 ∈ P601105 := RS_m hT601111 ht601115 (by decide)
                            refine rk10_e (show rk_10 γ (F601106 q561366) from RS_o hT601111 ht601115) (fun q601133 q601134 p601135 p601136 p601137 p601138 p601139 p601140 p601141 p601142 p601143 p601144 p601145 p601146 p601147 p601148 p601149 he601132 hB601176 ht601150 ht601151 ht601152 ht601153 ht601154 ht601155 ht601156 ht601157 ht601158 ht601159 ht601160 ht601161 ht601162 ht601163 ht601164 ht601165 ht601166 ht601167 ht601168 ht601169 ht601170 ht601171 ht601172 ht601173 hB601177 => ?_)
                            have ac601178 : (fI (F601106 q561366) 11).toInt = p601137.toInt := by rw [he601132]; rfl
                            have bp601137 : gB p601137 0 100 := (hB601176.2.2.1)
                            have ac601179 : (fI (F601106 q561366) 14).toInt = p601140.toInt := by rw [he601132]; rfl
                            have bp601140 : gB p601140 0 2000 := (hB601176.2.2.2.1)
                            refine G_istore (L' := [(8, .int o601095), (7, .int p600871), (6, .int p600870), (5, .ref q600051), (4, .int g599970), (3, .ref q598521), (2, .int g598381), (0, .ref q561366), (1, .ref q561367)]) dr_cX17_spill_203 (Nat.le_of_ble_eq_true rfl) rfl ?_
                            refine G_iload 0 dr_cX17_spill_205 rfl ?_
                            refine G_if_ge 212 dr_cX17_spill_207 (by decide +kernel) (fun hc601180 => ?_) (fun hc601180 => ?_)
                            · have r601181 : 0 ≤ o601095.toInt := gj_leL hc601180 (show Int32.toInt 0 = 0 by decide)
                              have bo601095' : gB o601095 0 1999 := ⟨by omega, by omega⟩
                              have pl601183 := sp_ld (x601102.resolve_left (by omega)) pl600880.1 (tn_ge (by omega)) (rfl : ((g599970.toInt : Int).toNat + 1) = (g599970.toInt : Int).toNat + 1)
                              have hp601184 : rAt γ el q561367 (g598381.toInt : Int).toNat ((g599970.toInt : Int).toNat + 1) = q600051 := ((x601103.resolve_left (by omega)) (g599970.toInt : Int).toNat (Nat.le_refl _)).trans hp600863
                              have r601185 := x601100.resolve_left (by omega)
                              clear x601100 x601102 x601103
                              obtain ⟨z601186, hz601186⟩ : ∃ z : Int32, z = g599970 + Int32.ofInt 1 := ⟨_, rfl⟩
                              have ez601186 : z601186.toInt = g599970.toInt + 1 := gI_inc hz601186 (by decide) bg599970' (by decide) (by decide)
                              have bz601186 : gB z601186 1 1000001 := ⟨by omega, by omega⟩
                              refine G_iinc (L' := [(4, .int z601186), (8, .int o601095), (7, .int p600871), (6, .int p600870), (5, .ref q600051), (3, .ref q598521), (2, .int g598381), (0, .ref q561366), (1, .ref q561367)]) z601186 4 dr_cX17_spill_212 rfl hz601186.symm (Nat.le_of_ble_eq_true rfl) rfl ?_
                              refine G_aload 4 dr_cX17_spill_215 rfl ?_
                              refine G_iload 1 dr_cX17_spill_217 rfl ?_
                              refine Gp_put 2 hm601125 he601124 dr_cX17_spill_219 (gk_X15 D I) (Nat.le_of_ble_eq_true rfl) wr_9_186 rfl rfl rfl (Nat.le_of_ble_eq_true rfl) (fun F601187 e601188 n601189 => ?_)
                              have he601190 : F601187 q561366 = .inr (22, [.ref (γ 9 0), .ref (γ 9 1), .ref (γ 9 2), .ref (γ 9 3), .ref (γ 9 4), .ref (γ 9 5), .ref (γ 9 6), .ref (γ 9 7), .ref (γ 9 8), .int p601135, .int p601136, .int p601137, .int p601138, .int p601139, .int p601140, .ref (γ 9 15), .ref (γ 9 16), .ref (γ 9 17), .ref (γ 9 18), .ref (γ 9 19), .ref (γ 9 20), .ref (γ 9 21), .ref (γ 9 22), .int p601141, .int p601142, .int p601143, .int p601144, .int p601145, .ref q601133, .ref (γ 9 29), .int p601146, .ref (γ 9 31), .int p601147, .int p601148, .int p601149, .ref q601134]) := (n601189 q561366 (rn_oo he601132 he601124 (by decide))).trans he601132
                              have he601191 : F601187 q600051 = .inr (20, [.int p600868, .int p600869, .int o601095, .int p600871, .int p600872, .int p600873, .int p600874]) := e601188
                              have mk601192 : mKp (F561365 q561366) (F601187 q561366) := mKp_tr mk601126 (mKp_eq (n601189 q561366 (rn_ty ht601115 ht601122 (by decide))))
                              have kp601193 : F601187 (γ0 9 3) = F561365 (γ0 9 3) := (n601189 (γ0 9 3) (rn_ty (rSk_k hs601112 k0_3 (by decide) (by decide)) ht601122 (by decide))).trans kp601113
                              have kp601194 : F601187 (γ0 9 19) = F595222 (γ0 9 19) := (n601189 (γ0 9 19) (rn_ty (rSk_k hs601112 k0_19 (by decide) (by decide)) ht601122 (by decide))).trans kp601114
                              refine G_iload 2 dr_cX17_spill_222 rfl ?_
                              refine G_iload 3 dr_cX17_spill_224 rfl ?_
                              refine G_icmp_ne 236 dr_cX17_spill_226 (by decide +kernel) (fun hc601195 => ?_) (fun hc601195 => ?_)
                              · have r601196 : p600871.toInt ≠ p600870.toInt := gC_ne hc601195
                                have hT601197 : RS D I P601105 F601187 γ el := RS_set hT601111 n601189 ht601122 (by decide) ⟨p600868, p600869, o601095, p600871, p600872, p600873, p600874, he601191, bp600868, bp600869, bp600872, bp600873, bp600874, r600875, (by omega), r600877, (by have z := r600878; omega)⟩
                                have hs601199 := rSk_put hs601112 hT601197 n601189 ht601122 (by decide) (by decide)
                                have hm601201 : q598521 ∈ P601105 := RS_m hT601197 ht601118 (by decide)
                                obtain ⟨q601203, q601204, p601205, p601206, he601202, ht601213, ht601207, ht601208, ht601209, ht601210, ht601211, bp601205, bp601206, r601212, r601214, r601215⟩ := show rk_2 γ q598521 (F601187 q598521) from RS_o hT601197 ht601118
                                have hf601216 : γ 1 q601203 = f := (show γ 1 q601203 = γ 1 q598521 from ht601208).trans hf601119
                                have hf601217 : γ 1 q601204 = f := (show γ 1 q601204 = γ 1 q598521 from ht601210).trans hf601119
                                have r601218 : γ 6 (γ 1 q598521) = γ 6 f := by rw [hf601119]
                                have r601219 : γ 7 (γ 1 q598521) = γ 7 f := by rw [hf601119]
                                have r601220 : γ 19 (γ 1 q598521) = γ 19 f := by rw [hf601119]
                                have r601221 := r601212.resolve_left (by omega)
                                clear r601212
                                have r601222 : γ 2 (γ 14 q598521) = γ 2 q601203 := by rw [ht601213.1]
                                have pl601200 := sp_put hT601111 ht601116 hf601117 pl601183 n601189 hp601184 (show (g598381.toInt : Int).toNat < γ 6 f from tn_lt (by omega) (by omega)) (by unfold rwL; rw [x601099.2.2]; exact tn_le1 (by omega) (by omega))
                                have ac601223 : (fI (F601187 q561366) 11).toInt = p601137.toInt := by rw [he601190]; rfl
                                have ac601224 : (fI (F601187 q561366) 14).toInt = p601140.toInt := by rw [he601190]; rfl
                                refine G_lv (L' := [(0, .ref q561366), (1, .ref q561367), (2, .int g598381), (3, .ref q598521), (4, .int z601186), (5, .ref q600051), (6, .int p600870), (7, .int p600871)]) [7, 8, 6, 5, 0, 4, 3, 2] rfl ?_
                                exact jn236_600625 P601105 F601187 γ el z601186 q600051 p600870 p600871 (gB_w bz601186 (by decide) (by decide)) (gB_w rb600906 (by decide) (by decide)) (gB_w rb601070 (by decide) (by decide)) hT601197 hs601199 hph601127 hB601110 ht601118 hf601119 x601099.2.1 x601099.2.2 ht601122 hf601123 (by omega) (by omega) (by omega) (by omega) (by omega) (by omega) kp601194 (by rw [(show (z601186.toInt : Int).toNat = ((g599970.toInt : Int).toNat + 1) from tn_eq1 (by omega) (by omega))]; exact pl601200) (by rw [(show (z601186.toInt : Int).toNat = ((g599970.toInt : Int).toNat + 1) from tn_eq1 (by omega) (by omega))]; exact hp601184) (rS1_of he600867 he601191 pl600880.2 (fun _ _ _ _ => Or.inl (by omega)) (fun _ _ _ => Or.inr ⟨rfl, rfl, by omega, Or.inl (by omega)⟩)) (by omega) (by omega) (ms_j hm90_599992 (by omega) (by omega) (by omega)) kp601193 mk601192
                              · have r601225 : p600871.toInt = p600870.toInt := gC_eq hc601195
                                refine G_aload 4 dr_cX17_spill_229 rfl ?_
                                refine G_iload 1 dr_cX17_spill_231 rfl ?_
                                refine Gp_put 3 hm601125 he601191 dr_cX17_spill_233 (gk_X15 D I) (Nat.le_of_ble_eq_true rfl) wr_9_190 rfl rfl rfl (Nat.le_of_ble_eq_true rfl) (fun F601226 e601227 n601228 => ?_)
                                have he601229 : F601226 q561366 = .inr (22, [.ref (γ 9 0), .ref (γ 9 1), .ref (γ 9 2), .ref (γ 9 3), .ref (γ 9 4), .ref (γ 9 5), .ref (γ 9 6), .ref (γ 9 7), .ref (γ 9 8), .int p601135, .int p601136, .int p601137, .int p601138, .int p601139, .int p601140, .ref (γ 9 15), .ref (γ 9 16), .ref (γ 9 17), .ref (γ 9 18), .ref (γ 9 19), .ref (γ 9 20), .ref (γ 9 21), .ref (γ 9 22), .int p601141, .int p601142, .int p601143, .int p601144, .int p601145, .ref q601133, .ref (γ 9 29), .int p601146, .ref (γ 9 31), .int p601147, .int p601148, .int p601149, .ref q601134]) := (n601228 q561366 (rn_oo he601190 he601191 (by decide))).trans he601190
                                have he601230 : F601226 q600051 = .inr (20, [.int p600868, .int p600869, .int o601095, .int o601095, .int p600872, .int p600873, .int p600874]) := e601227
                                have mk601231 : mKp (F561365 q561366) (F601226 q561366) := mKp_tr mk601192 (mKp_eq (n601228 q561366 (rn_ty ht601115 ht601122 (by decide))))
                                have n601232 : ∀ b, b ≠ q600051 → F601226 b = F601106 b := fun b hb => (n601228 b hb).trans (n601189 b hb)
                                have kp601233 : F601226 (γ0 9 3) = F561365 (γ0 9 3) := (n601228 (γ0 9 3) (rn_ty (rSk_k hs601112 k0_3 (by decide) (by decide)) ht601122 (by decide))).trans kp601193
                                have kp601234 : F601226 (γ0 9 19) = F595222 (γ0 9 19) := (n601228 (γ0 9 19) (rn_ty (rSk_k hs601112 k0_19 (by decide) (by decide)) ht601122 (by decide))).trans kp601194
                                have hT601235 : RS D I P601105 F601226 γ el := RS_set hT601111 n601232 ht601122 (by decide) ⟨p600868, p600869, o601095, o601095, p600872, p600873, p600874, he601230, bp600868, bp600869, bp600872, bp600873, bp600874, r600875, (by omega), (by omega), (by have z := r600878; omega)⟩
                                have hs601237 := rSk_put hs601112 hT601235 n601232 ht601122 (by decide) (by decide)
                                have hm601239 : q598521 ∈ P601105 := RS_m hT601235 ht601118 (by decide)
                                obtain ⟨q601241, q601242, p601243, p601244, he601240, ht601251, ht601245, ht601246, ht601247, ht601248, ht601249, bp601243, bp601244, r601250, r601252, r601253⟩ := show rk_2 γ q598521 (F601226 q598521) from RS_o hT601235 ht601118
                                have hf601254 : γ 1 q601241 = f := (show γ 1 q601241 = γ 1 q598521 from ht601246).trans hf601119
                                have hf601255 : γ 1 q601242 = f := (show γ 1 q601242 = γ 1 q598521 from ht601248).trans hf601119
                                have r601256 : γ 6 (γ 1 q598521) = γ 6 f := by rw [hf601119]
                                have r601257 : γ 7 (γ 1 q598521) = γ 7 f := by rw [hf601119]
                                have r601258 : γ 19 (γ 1 q598521) = γ 19 f := by rw [hf601119]
                                have r601259 := r601250.resolve_left (by omega)
                                clear r601250
                                have r601260 : γ 2 (γ 14 q598521) = γ 2 q601241 := by rw [ht601251.1]
                                have pl601238 := sp_put hT601111 ht601116 hf601117 pl601183 n601232 hp601184 (show (g598381.toInt : Int).toNat < γ 6 f from tn_lt (by omega) (by omega)) (by unfold rwL; rw [x601099.2.2]; exact tn_le1 (by omega) (by omega))
                                have ac601261 : (fI (F601226 q561366) 11).toInt = p601137.toInt := by rw [he601229]; rfl
                                have ac601262 : (fI (F601226 q561366) 14).toInt = p601140.toInt := by rw [he601229]; rfl
                                refine G_lv (L' := [(0, .ref q561366), (1, .ref q561367), (2, .int g598381), (3, .ref q598521), (4, .int z601186), (5, .ref q600051), (6, .int p600870), (7, .int p600871)]) [7, 8, 6, 5, 0, 4, 3, 2] rfl ?_
                                exact jn236_600625 P601105 F601226 γ el z601186 q600051 p600870 p600871 (gB_w bz601186 (by decide) (by decide)) (gB_w rb600906 (by decide) (by decide)) (gB_w rb601070 (by decide) (by decide)) hT601235 hs601237 hph601127 hB601110 ht601118 hf601119 x601099.2.1 x601099.2.2 ht601122 hf601123 (by omega) (by omega) (by omega) (by omega) (by omega) (by omega) kp601234 (by rw [(show (z601186.toInt : Int).toNat = ((g599970.toInt : Int).toNat + 1) from tn_eq1 (by omega) (by omega))]; exact pl601238) (by rw [(show (z601186.toInt : Int).toNat = ((g599970.toInt : Int).toNat + 1) from tn_eq1 (by omega) (by omega))]; exact hp601184) (rS1_of he600867 he601230 pl600880.2 (fun _ _ _ _ => Or.inl (by omega)) (fun _ _ _ => Or.inl (by omega))) (by omega) (by omega) (ms_j hm90_599992 (by omega) (by omega) (by omega)) kp601233 mk601231
                            · have r601263 : o601095.toInt < 0 := gj_nleL hc601180 (show Int32.toInt 0 = 0 by decide)
                              have bo601095' : gB o601095 (-1) (-1) := ⟨by omega, by omega⟩
                              refine G_iconst 0 dr_cX17_spill_210 (by decide +kernel) ?_
                              exact G_zretA FieldType.boolean dr_cX17_spill_211 rfl rfl (show ((rPh γ el f - rPh γ0 el0 f) / 18) ≤ (((387 * B + 6000) - rPh γ0 el0 f) / 18) by omega) (show (rPh γ el f - rPh γ0 el0 f) ≤ ((387 * B + 6000) - rPh γ0 el0 f) by omega) ⟨P601105, F601106, γ, el, 0, rfl, rfl, hs601112, ⟨by omega, by omega⟩, hB601110, (gB_w (gBl (show Int32.toInt 0 = 0 by decide)) (by decide) (by decide)), (by have qa0 : Int32.toInt 0 = 0 := (by decide); omega), (Or.inl (by decide)), kp601113, mk601126⟩
                    · have r601264 : g599970.toInt < p600073.toInt := gC_nle hc600861
                      have bg599970'' : gB g599970 0 999999 := ⟨by omega, by omega⟩
                      have bp600073' : gB p600073 1 1000000 := ⟨by omega, by omega⟩
                      refine G_aload_n 1 dr_cX17_spill_114 rfl ?_
                      refine Gp_get 0 hm600048 he600049 dr_cX17_spill_115 (gk_X12 D I) (Nat.le_of_ble_eq_true rfl) wr_9_220 rfl ?_
                      refine G_iload 0 dr_cX17_spill_118 rfl ?_
                      obtain ⟨r601265, r601266, n601273, f601274, r601267, r601268, r601269, r601270, r601271, r601272⟩ := rLC_n r600077 (by omega)
                      have hm601275 : q600074 ∈ P599971 := RS_m hT599973 r601265 (by decide)
                      obtain ⟨q601276, hx601277⟩ : ∃ x, x = el q600050 g599970.toInt.toNat := ⟨_, rfl⟩
                      have hx601278 : f601274 g599970.toNatClampNeg = some q601276 := (r601271 _ (show g599970.toInt.toNat < γ 2 q600050 by first | assumption | omega)).trans (by rw [hx601277])
                      have ht601279 : rKd γ q601276 1 := by rw [hx601277]; exact (r600078 _ (show g599970.toInt.toNat < γ 2 q600050 by first | assumption | omega)).1
                      have ht601280 : rFm γ q601276 q600050 := by rw [hx601277]; exact (r600078 _ (show g599970.toInt.toNat < γ 2 q600050 by first | assumption | omega)).2.1
                      have hf601281 : γ 1 q601276 = f := (show γ 1 q601276 = γ 1 q600050 from ht601280).trans hf600063
                      refine Gw_callV (As := [.int g599970]) (gV_ok D I) (cp_22_ArrayList_get l hl0 D I P599971 F599972 q600050 q600074 g599970 p600072 p600073 f601274 n601273 q601276 hm600070 hm601275 he600071 r601267 (gB_w bg599970'' (by decide) (by decide)) (gB_w bp600073' (by decide) (by decide)) (by omega) (by omega) (by assumption) (by omega)) dr_cX17_spill_120 ⟨wr_10_201, wr_1_18, wr_10_65, by decide, rfl, (Nat.le_of_ble_eq_true rfl), (Nat.le_of_ble_eq_true rfl)⟩ wr_10_63 wr_10_64 hm600070 he600071 rfl (rm_zc pk599997) (rm_zs pk599997) (Nat.le_of_ble_eq_true rfl) (fun r601285 w601286 dc601282 ds601283 hp601284 => ?_) (fun _ _ _ _ _ z => z.elim)
                      obtain ⟨rfl, rfl, hdc, hds⟩ := hp601284
                      change G _ _ _ _ _ _ _ (.ref q601276 :: _) _ _ _
                      refine G_widen (cs' := ((rPh γ el f - rPh γ0 el0 f) / 18)) (sl' := (rPh γ el f - rPh γ0 el0 f)) (rm_d0 hdc) (rm_d0 hds) ?_
                      have hm601287 : q601276 ∈ P599971 := RS_m hT599973 ht601279 (by decide)
                      obtain ⟨p601289, p601290, p601291, p601292, p601293, p601294, p601295, he601288, bp601289, bp601290, bp601293, bp601294, bp601295, r601296, r601297, r601298, r601299⟩ := show rk_1 γ q601276 (F599972 q601276) from RS_o hT599973 ht601279
                      have bp601291 := gB_any p601291
                      have bp601292 := gB_any p601292
                      have r601300 : γ 7 (γ 1 q601276) = γ 7 f := by rw [hf601281]
                      refine Gp_cast hm601287 he601288 rfl dr_cX17_spill_123 wr_10_202 (gr_cast 1 rfl) ?_
                      refine G_goto 133 dr_cX17_spill_126 (by decide +kernel) ?_
                      have fl601303 : p600073.toInt = γ 2 q600050 := r600075
                      have hp601301 : rAt γ el q561367 (g598381.toInt : Int).toNat (g599970.toInt : Int).toNat = q601276 := (rAt_r r599980 ht600060.1 (by omega)).trans (by rw [hx601277])
                      have hL601302 : (g599970.toInt : Int).toNat ≤ γ 2 (rwL γ el q561367 (g598381.toInt : Int).toNat) := by unfold rwL; rw [r599980, ht600060.1]; exact tn_le0 (by omega) (by omega)
                      have pl601304 := sp_hd x599988 hp601301 (show (g598381.toInt : Int).toNat < γ 6 f from tn_lt (by omega) (by omega)) hL601302
                      refine G_astore (L' := [(5, .ref q601276), (4, .int g599970), (3, .ref q598521), (2, .int g598381), (0, .ref q561366), (1, .ref q561367)]) dr_cX17_spill_133 (Nat.le_of_ble_eq_true rfl) rfl ?_
                      refine G_aload 0 dr_cX17_spill_135 rfl ?_
                      refine Gw_callV (As := []) (gV_ok D I) (cp_397347_Row_usesA l hl0 D I P599971 F599972 q601276 p601289 p601290 p601291 p601292 p601293 p601294 p601295 hm601287 he601288 bp601289 bp601290 bp601293 bp601294 bp601295) dr_cX17_spill_137 ⟨wr_10_192, wr_1_39, wr_10_195, by decide, rfl, (Nat.le_of_ble_eq_true rfl), (Nat.le_of_ble_eq_true rfl)⟩ wr_10_193 wr_10_194 hm601287 he601288 rfl (rm_zc pk599997) (rm_zs pk599997) (Nat.le_of_ble_eq_true rfl) (fun r601308 w601309 dc601305 ds601306 hp601307 => ?_) (fun _ _ _ _ _ z => z.elim)
                      obtain ⟨o601310, rfl, rfl, hdc, hds, bo601310, x601311⟩ := hp601307
                      change G _ _ _ _ _ _ _ (.int o601310 :: _) _ _ _
                      refine G_widen (cs' := ((rPh γ el f - rPh γ0 el0 f) / 18)) (sl' := (rPh γ el f - rPh γ0 el0 f)) (rm_d0 hdc) (rm_d0 hds) ?_
                      refine G_if_eq 151 dr_cX17_spill_140 (by decide +kernel) (fun hc601312 => ?_) (fun hc601312 => ?_)
                      · have r601313 : o601310.toInt = 0 := gj_eq hc601312 (show Int32.toInt 0 = 0 by decide)
                        have bo601310' : gB o601310 0 0 := gB_t0 r601313
                        refine G_iconst (-1) dr_cX17_spill_151 (by decide +kernel) ?_
                        refine G_istore (L' := [(6, .int (-1)), (5, .ref q601276), (4, .int g599970), (3, .ref q598521), (2, .int g598381), (0, .ref q561366), (1, .ref q561367)]) dr_cX17_spill_152 (Nat.le_of_ble_eq_true rfl) rfl ?_
                        refine G_aload 1 dr_cX17_spill_154 rfl ?_
                        refine Gw_callV (As := []) (gV_ok D I) (cp_397371_Row_usesB l hl0 D I P599971 F599972 q601276 p601289 p601290 p601291 p601292 p601293 p601294 p601295 hm601287 he601288 bp601289 bp601290 bp601293 bp601294 bp601295) dr_cX17_spill_156 ⟨wr_10_196, wr_1_39, wr_10_199, by decide, rfl, (Nat.le_of_ble_eq_true rfl), (Nat.le_of_ble_eq_true rfl)⟩ wr_10_197 wr_10_198 hm601287 he601288 rfl (rm_zc pk599997) (rm_zs pk599997) (Nat.le_of_ble_eq_true rfl) (fun r601317 w601318 dc601314 ds601315 hp601316 => ?_) (fun _ _ _ _ _ z => z.elim)
                        obtain ⟨o601319, rfl, rfl, hdc, hds, bo601319, x601320⟩ := hp601316
                        change G _ _ _ _ _ _ _ (.int o601319 :: _) _ _ _
                        refine G_widen (cs' := ((rPh γ el f - rPh γ0 el0 f) / 18)) (sl' := (rPh γ el f - rPh γ0 el0 f)) (rm_d0 hdc) (rm_d0 hds) ?_
                        refine G_if_eq 170 dr_cX17_spill_159 (by decide +kernel) (fun hc601321 => ?_) (fun hc601321 => ?_)
                        · have r601322 : o601319.toInt = 0 := gj_eq hc601321 (show Int32.toInt 0 = 0 by decide)
                          have bo601319' : gB o601319 0 0 := gB_t0 r601322
                          refine G_iconst (-1) dr_cX17_spill_170 (by decide +kernel) ?_
                          refine G_istore (L' := [(7, .int (-1)), (6, .int (-1)), (5, .ref q601276), (4, .int g599970), (3, .ref q598521), (2, .int g598381), (0, .ref q561366), (1, .ref q561367)]) dr_cX17_spill_171 (Nat.le_of_ble_eq_true rfl) rfl ?_
                          refine G_iload 1 dr_cX17_spill_173 rfl ?_
                          refine G_if_lt 236 dr_cX17_spill_175 (by decide +kernel) (fun _ => ?_) (fun hc => absurd hc (by decide))
                          have ac601323 : (fI (F599972 q561366) 11).toInt = p600005.toInt := by rw [he600000]; rfl
                          have ac601324 : (fI (F599972 q561366) 14).toInt = p600008.toInt := by rw [he600000]; rfl
                          refine G_lv (L' := [(0, .ref q561366), (1, .ref q561367), (2, .int g598381), (3, .ref q598521), (4, .int g599970), (5, .ref q601276), (6, .int (-1)), (7, .int (-1))]) [6, 7, 5, 4, 3, 2, 1, 0] rfl ?_
                          exact jn236_600625 P599971 F599972 γ el g599970 q601276 (-1) (-1) (gB_w bg599970'' (by decide) (by decide)) (gB_w (gBl (show Int32.toInt (-1) = (-1) by decide)) (by decide) (by decide)) (gB_w (gBl (show Int32.toInt (-1) = (-1) by decide)) (by decide) (by decide)) hT599973 hs599974 hph599975 hB599976 ht599977 hf599978 r599979 r599980 ht601279 hf601281 (by have qa0 : Int32.toInt (-1) = (-1) := (by decide); omega) (by have qa0 : Int32.toInt (-1) = (-1) := (by decide); omega) (by have qa0 : Int32.toInt (-1) = (-1) := (by decide); omega) (by have qa0 : Int32.toInt (-1) = (-1) := (by decide); omega) (by have qa0 : Int32.toInt (-1) = (-1) := (by decide); omega) (by have qa0 : Int32.toInt (-1) = (-1) := (by decide); omega) x599987 (by exact pl601304.1) (by exact hp601301) (rS1_of he601288 he601288 pl601304.2 (fun h1 h2 h3 h4 => (uA_0 x601311 (by omega) h1 h2 h3 h4).elim) (fun h1 h2 h3 => (uB_0 x601320 (by omega) h1 h2 h3).elim)) (by have qa0 : Int32.toInt (-1) = (-1) := (by decide); omega) (by have qa0 : Int32.toInt (-1) = (-1) := (by decide); omega) (ms_j hm90_599992 (by omega) (by omega) (by omega)) x599991 x599992
                        · have r601325 : o601319.toInt ≠ 0 := gj_neq hc601321 (show Int32.toInt 0 = 0 by decide)
                          have bo601319' : gB o601319 1 1 := gB_t1 bo601319 r601325
                          refine G_aload 1 dr_cX17_spill_162 rfl ?_
                          refine Gp_get 3 hm601287 he601288 dr_cX17_spill_164 (gk_X15 D I) (Nat.le_of_ble_eq_true rfl) wr_9_190 rfl ?_
                          have rb601326 : gB p601292 0 1999 := r601298.resolve_left (by have z := (uB_1 x601320 (by omega)).2.2; omega)
                          refine G_goto 171 dr_cX17_spill_167 (by decide +kernel) ?_
                          refine G_istore (L' := [(7, .int p601292), (6, .int (-1)), (5, .ref q601276), (4, .int g599970), (3, .ref q598521), (2, .int g598381), (0, .ref q561366), (1, .ref q561367)]) dr_cX17_spill_171 (Nat.le_of_ble_eq_true rfl) rfl ?_
                          refine G_iload 1 dr_cX17_spill_173 rfl ?_
                          refine G_if_lt 236 dr_cX17_spill_175 (by decide +kernel) (fun _ => ?_) (fun hc => absurd hc (by decide))
                          have ac601327 : (fI (F599972 q561366) 11).toInt = p600005.toInt := by rw [he600000]; rfl
                          have ac601328 : (fI (F599972 q561366) 14).toInt = p600008.toInt := by rw [he600000]; rfl
                          refine G_lv (L' := [(0, .ref q561366), (1, .ref q561367), (2, .int g598381), (3, .ref q598521), (4, .int g599970), (5, .ref q601276), (6, .int (-1)), (7, .int p601292)]) [6, 7, 5, 4, 3, 2, 1, 0] rfl ?_
                          exact jn236_600625 P599971 F599972 γ el g599970 q601276 (-1) p601292 (gB_w bg599970'' (by decide) (by decide)) (gB_w (gBl (show Int32.toInt (-1) = (-1) by decide)) (by decide) (by decide)) (gB_w rb601326 (by decide) (by decide)) hT599973 hs599974 hph599975 hB599976 ht599977 hf599978 r599979 r599980 ht601279 hf601281 (by have qa0 : Int32.toInt (-1) = (-1) := (by decide); omega) (by have qa0 : Int32.toInt (-1) = (-1) := (by decide); omega) (by have qa0 : Int32.toInt (-1) = (-1) := (by decide); omega) (by have qa0 : Int32.toInt (-1) = (-1) := (by decide); omega) (by have qa0 : Int32.toInt (-1) = (-1) := (by decide); omega) (by have qa0 : Int32.toInt (-1) = (-1) := (by decide); omega) x599987 (by exact pl601304.1) (by exact hp601301) (rS1_of he601288 he601288 pl601304.2 (fun h1 h2 h3 h4 => (uA_0 x601311 (by omega) h1 h2 h3 h4).elim) (fun _ _ _ => Or.inr ⟨rfl, rfl, by omega, Or.inl (by have qa : Int32.toInt (-1) = -1 := (by decide); omega)⟩)) (by have qa0 : Int32.toInt (-1) = (-1) := (by decide); omega) (by have qa0 : Int32.toInt (-1) = (-1) := (by decide); omega) (ms_j hm90_599992 (by omega) (by omega) (by omega)) x599991 x599992
                      · have r601329 : o601310.toInt ≠ 0 := gj_neq hc601312 (show Int32.toInt 0 = 0 by decide)
                        have bo601310' : gB o601310 1 1 := gB_t1 bo601310 r601329
                        refine G_aload 0 dr_cX17_spill_143 rfl ?_
                        refine Gp_get 2 hm601287 he601288 dr_cX17_spill_145 (gk_X15 D I) (Nat.le_of_ble_eq_true rfl) wr_9_186 rfl ?_
                        have rb601330 : gB p601291 0 1999 := r601297.resolve_left (by have z := (uA_1 x601311 (by omega)).2.2.2; omega)
                        refine G_goto 152 dr_cX17_spill_148 (by decide +kernel) ?_
                        refine G_istore (L' := [(6, .int p601291), (5, .ref q601276), (4, .int g599970), (3, .ref q598521), (2, .int g598381), (0, .ref q561366), (1, .ref q561367)]) dr_cX17_spill_152 (Nat.le_of_ble_eq_true rfl) rfl ?_
                        refine G_aload 1 dr_cX17_spill_154 rfl ?_
                        refine Gw_callV (As := []) (gV_ok D I) (cp_397371_Row_usesB l hl0 D I P599971 F599972 q601276 p601289 p601290 p601291 p601292 p601293 p601294 p601295 hm601287 he601288 bp601289 bp601290 bp601293 bp601294 bp601295) dr_cX17_spill_156 ⟨wr_10_196, wr_1_39, wr_10_199, by decide, rfl, (Nat.le_of_ble_eq_true rfl), (Nat.le_of_ble_eq_true rfl)⟩ wr_10_197 wr_10_198 hm601287 he601288 rfl (rm_zc pk599997) (rm_zs pk599997) (Nat.le_of_ble_eq_true rfl) (fun r601334 w601335 dc601331 ds601332 hp601333 => ?_) (fun _ _ _ _ _ z => z.elim)
                        obtain ⟨o601336, rfl, rfl, hdc, hds, bo601336, x601337⟩ := hp601333
                        change G _ _ _ _ _ _ _ (.int o601336 :: _) _ _ _
                        refine G_widen (cs' := ((rPh γ el f - rPh γ0 el0 f) / 18)) (sl' := (rPh γ el f - rPh γ0 el0 f)) (rm_d0 hdc) (rm_d0 hds) ?_
                        refine G_if_eq 170 dr_cX17_spill_159 (by decide +kernel) (fun hc601338 => ?_) (fun hc601338 => ?_)
                        · have r601339 : o601336.toInt = 0 := gj_eq hc601338 (show Int32.toInt 0 = 0 by decide)
                          have bo601336' : gB o601336 0 0 := gB_t0 r601339
                          refine G_iconst (-1) dr_cX17_spill_170 (by decide +kernel) ?_
                          refine G_istore (L' := [(7, .int (-1)), (6, .int p601291), (5, .ref q601276), (4, .int g599970), (3, .ref q598521), (2, .int g598381), (0, .ref q561366), (1, .ref q561367)]) dr_cX17_spill_171 (Nat.le_of_ble_eq_true rfl) rfl ?_
                          refine G_iload 1 dr_cX17_spill_173 rfl ?_
                          refine G_if_lt 236 dr_cX17_spill_175 (by decide +kernel) (fun hc => absurd (show False by have := gj_lt hc (show Int32.toInt 0 = 0 by decide); omega) not_false) (fun _ => ?_)
                          refine G_aload_n 6 dr_cX17_spill_178 rfl ?_
                          refine Gp_get 19 hm599999 he600000 dr_cX17_spill_179 (gk_X17 D I) (Nat.le_of_ble_eq_true rfl) wr_7_93 rfl ?_
                          refine G_iload 1 dr_cX17_spill_182 rfl ?_
                          have hm601340 : (γ 9 19) ∈ P599971 := RS_m hT599973 ht600033 (by decide)
                          obtain ⟨f601342, he601341, bf601342⟩ := show rk_21 I (F599972 (γ 9 19)) from RS_o hT599973 ht600033
                          refine Gp_iald 0 hm601340 he601341 dr_cX17_spill_184 rfl (gB_in rb601330 (by decide) (by decide)) (G_nam fun z601343 hz601343 => ?_)
                          have bz601343 : gB z601343 (-1) 1999 := by rw [hz601343]; exact bf601342 _
                          have c9_601344 : cB (F595222 (γ0 9 19)) = f601342 := by rw [← x599987, ← congrFun (rSk_9 hs599974) 19]; exact cB_of he601341
                          have hs601345 : (cB (F595222 (γ0 9 19)) p601291.toInt.toNat).toInt = z601343.toInt := by rw [c9_601344, hz601343]; rfl
                          refine G_if_lt 236 dr_cX17_spill_185 (by decide +kernel) (fun hc601347 => ?_) (fun hc601347 => ?_)
                          · have r601348 : z601343.toInt < 0 := gj_lt hc601347 (show Int32.toInt 0 = 0 by decide)
                            have bz601343' : gB z601343 (-1) (-1) := ⟨by omega, by omega⟩
                            have ac601349 : (fI (F599972 q561366) 11).toInt = p600005.toInt := by rw [he600000]; rfl
                            have ac601350 : (fI (F599972 q561366) 14).toInt = p600008.toInt := by rw [he600000]; rfl
                            refine G_lv (L' := [(0, .ref q561366), (1, .ref q561367), (2, .int g598381), (3, .ref q598521), (4, .int g599970), (5, .ref q601276), (6, .int p601291), (7, .int (-1))]) [6, 7, 5, 4, 3, 2, 1, 0] rfl ?_
                            exact jn236_600625 P599971 F599972 γ el g599970 q601276 p601291 (-1) (gB_w bg599970'' (by decide) (by decide)) (gB_w rb601330 (by decide) (by decide)) (gB_w (gBl (show Int32.toInt (-1) = (-1) by decide)) (by decide) (by decide)) hT599973 hs599974 hph599975 hB599976 ht599977 hf599978 r599979 r599980 ht601279 hf601281 (by have qa0 : Int32.toInt (-1) = (-1) := (by decide); omega) (by have qa0 : Int32.toInt (-1) = (-1) := (by decide); omega) (by have qa0 : Int32.toInt (-1) = (-1) := (by decide); omega) (by have qa0 : Int32.toInt (-1) = (-1) := (by decide); omega) (by have qa0 : Int32.toInt (-1) = (-1) := (by decide); omega) (by have qa0 : Int32.toInt (-1) = (-1) := (by decide); omega) x599987 (by exact pl601304.1) (by exact hp601301) (rS1_of he601288 he601288 pl601304.2 (fun _ _ _ _ => Or.inr ⟨rfl, by omega⟩) (fun h1 h2 h3 => (uB_0 x601337 (by omega) h1 h2 h3).elim)) (by have qa0 : Int32.toInt (-1) = (-1) := (by decide); omega) (by have qa0 : Int32.toInt (-1) = (-1) := (by decide); omega) (ms_j hm90_599992 (by omega) (by omega) (by omega)) x599991 x599992
                          · have r601351 : 0 ≤ z601343.toInt := gj_nlt hc601347 (show Int32.toInt 0 = 0 by decide)
                            have bz601343' : gB z601343 0 1999 := ⟨by omega, by omega⟩
                            refine G_aload_n 6 dr_cX17_spill_188 rfl ?_
                            refine G_aload_n 7 dr_cX17_spill_189 rfl ?_
                            refine G_aload_n 4 dr_cX17_spill_190 rfl ?_
                            refine G_iload 3 dr_cX17_spill_191 rfl ?_
                            refine G_aload_n 6 dr_cX17_spill_193 rfl ?_
                            refine Gp_get 19 hm599999 he600000 dr_cX17_spill_194 (gk_X17 D I) (Nat.le_of_ble_eq_true rfl) wr_7_93 rfl ?_
                            refine G_iload 1 dr_cX17_spill_197 rfl ?_
                            refine Gp_iald 0 hm601340 he601341 dr_cX17_spill_199 rfl (gB_in rb601330 (by decide) (by decide)) (G_eqi (y := z601343) hz601343.symm ?_)
                            have r601352 := (spi595307.2.2.2 p601291.toInt.toNat (tn_lt (by omega) (by omega)) (by omega)).2.2
                            have ac601353 : (fI (F599972 q561366) 11).toInt = p600005.toInt := by rw [he600000]; rfl
                            have ac601354 : (fI (F599972 q561366) 14).toInt = p600008.toInt := by rw [he600000]; rfl
                            have rg601355 := rM_ge hT599973 ht599995 hf599996
                            have rm601356 := rM_bd hB599976
                            have bd601357 := rBd_c hT599973 ht599995 hf599996 hB599976
                            have rc601358 := rc_at hT599973 ht599995 hf599996
                            refine Gw_callV (As := [.ref q561367, .ref q598521, .int g599970, .int z601343]) (gV_ok D I) (cg_396985_SpillForgeModel_load l hl0 D I γ el f B P599971 F599972 q561366 q561367 q598521 g599970 z601343 g598381.toInt.toNat hT599973 ht599994 ht599995 ht599977 hf599996 hB599976 hBk r599979 r599980 hf599978 (gB_w bg599970'' (by decide) (by decide)) bz601343' (by have qa0 : Int32.toInt (-1) = (-1) := (by decide); omega) (by have qa0 : Int32.toInt (-1) = (-1) := (by decide); omega) (by have qa0 : Int32.toInt (-1) = (-1) := (by decide); omega) (by have qa0 : Int32.toInt (-1) = (-1) := (by decide); omega) (by have qa0 : Int32.toInt (-1) = (-1) := (by decide); omega)) dr_cX17_spill_200 ⟨wr_11_67, wr_1_14, wr_11_70, by decide, rfl, (Nat.le_of_ble_eq_true rfl), (Nat.le_of_ble_eq_true rfl)⟩ wr_11_69 wr_p_111 hm599999 he600000 rfl (rm_gc hph599975 pk599997) (rm_gs hph599975 pk599997) (Nat.le_of_ble_eq_true rfl) (fun r601362 w601363 dc601359 ds601360 hp601361 => ?_) (fun _ _ _ _ _ z => z.elim)
                            obtain ⟨P601374, F601375, γ, el, o601364, rfl, rfl, hk601376, ⟨hr601377, hr601378⟩, hB601379, bo601364, x601365, x601366, x601367, x601368, x601369, x601370, x601371, x601372, x601373⟩ := hp601361
                            have hT601380 := hk601376.1
                            have hs601381 := rSk_tr hs599974 hk601376 (by decide) (by decide) (by decide)
                            have kp601382 : F601375 (γ0 9 3) = F561365 (γ0 9 3) := (rSk_F hk601376 (rSk_k hs599974 k0_3 (by decide) (by decide)) (by decide) (by decide)).trans x599991
                            have kp601383 : F601375 (γ0 9 19) = F595222 (γ0 9 19) := (rSk_F hk601376 (rSk_k hs599974 k0_19 (by decide) (by decide)) (by decide) (by decide)).trans x599987
                            have ht601384 : rKd γ q561366 10 := rSk_k hk601376 ht599994 (by decide) (by decide)
                            have ht601385 : rKd γ q561367 9 := rSk_k hk601376 ht599995 (by decide) (by decide)
                            have hf601386 : γ 1 q561367 = f := rSk_1 hk601376 ht599995 (by decide) hf599996
                            have ht601387 : rKd γ q598521 2 := rSk_k hk601376 ht599977 (by decide) (by decide)
                            have hf601388 : γ 1 q598521 = f := rSk_1 hk601376 ht599977 (by decide) hf599978
                            have ht601389 : rKd γ q600050 3 := rSk_k hk601376 ht600054 (by decide) (by decide)
                            have hf601390 : γ 1 q600050 = f := rSk_1 hk601376 ht600054 (by decide) hf600063
                            have ht601391 : rKd γ q601276 1 := rSk_k hk601376 ht601279 (by decide) (by decide)
                            have hf601392 : γ 1 q601276 = f := rSk_1 hk601376 ht601279 (by decide) hf601281
                            have he601393 : F601375 q601276 = .inr (20, [.int p601289, .int p601290, .int p601291, .int p601292, .int p601293, .int p601294, .int p601295]) := (rSk_F hk601376 ht601279 (by decide) (by decide)).trans he601288
                            have hm601394 : q601276 ∈ P601374 := RS_m hT601380 ht601391 (by decide)
                            clear bp600052 bp600053 r600061 r600062 rg601355 rm601356 bd601357 rc601358
                            have mk601395 : mKp (F561365 q561366) (F601375 q561366) := mKp_tr x599992 x601373
                            have hph601396 : rPh γ0 el0 f ≤ rPh γ el f := rm_ph hph599975 hr601378
                            have pk601397 : rPh γ el f ≤ 387 * B + 6000 := rm_pk (rM_ge hT601380 ht601385 hf601386).1 (rM_bd hB601379)
                            change G _ _ _ _ _ _ _ (.int o601364 :: _) _ _ _
                            refine G_widen (cs' := ((rPh γ el f - rPh γ0 el0 f) / 18)) (sl' := (rPh γ el f - rPh γ0 el0 f)) (rm_wc hph599975 hr601377) (rm_ws hph599975 hr601378) ?_
                            have sz601398 := x601365
                            have r601399 : 0 < γ 6 (γ 1 q561367) := by rw [hf601386]; omega
                            have hm601400 : q561366 ∈ P601374 := RS_m hT601380 ht601384 (by decide)
                            refine rk10_e (show rk_10 γ (F601375 q561366) from RS_o hT601380 ht601384) (fun q601402 q601403 p601404 p601405 p601406 p601407 p601408 p601409 p601410 p601411 p601412 p601413 p601414 p601415 p601416 p601417 p601418 he601401 hB601445 ht601419 ht601420 ht601421 ht601422 ht601423 ht601424 ht601425 ht601426 ht601427 ht601428 ht601429 ht601430 ht601431 ht601432 ht601433 ht601434 ht601435 ht601436 ht601437 ht601438 ht601439 ht601440 ht601441 ht601442 hB601446 => ?_)
                            have ac601447 : (fI (F601375 q561366) 11).toInt = p601406.toInt := by rw [he601401]; rfl
                            have bp601406 : gB p601406 0 100 := (hB601445.2.2.1)
                            have ac601448 : (fI (F601375 q561366) 14).toInt = p601409.toInt := by rw [he601401]; rfl
                            have bp601409 : gB p601409 0 2000 := (hB601445.2.2.2.1)
                            refine G_istore (L' := [(8, .int o601364), (7, .int (-1)), (6, .int p601291), (5, .ref q601276), (4, .int g599970), (3, .ref q598521), (2, .int g598381), (0, .ref q561366), (1, .ref q561367)]) dr_cX17_spill_203 (Nat.le_of_ble_eq_true rfl) rfl ?_
                            refine G_iload 0 dr_cX17_spill_205 rfl ?_
                            refine G_if_ge 212 dr_cX17_spill_207 (by decide +kernel) (fun hc601449 => ?_) (fun hc601449 => ?_)
                            · have r601450 : 0 ≤ o601364.toInt := gj_leL hc601449 (show Int32.toInt 0 = 0 by decide)
                              have bo601364' : gB o601364 0 1999 := ⟨by omega, by omega⟩
                              have pl601452 := sp_ld (x601371.resolve_left (by omega)) pl601304.1 (tn_ge (by omega)) (rfl : ((g599970.toInt : Int).toNat + 1) = (g599970.toInt : Int).toNat + 1)
                              have hp601453 : rAt γ el q561367 (g598381.toInt : Int).toNat ((g599970.toInt : Int).toNat + 1) = q601276 := ((x601372.resolve_left (by omega)) (g599970.toInt : Int).toNat (Nat.le_refl _)).trans hp601301
                              have r601454 := x601369.resolve_left (by omega)
                              clear x601369 x601371 x601372
                              obtain ⟨z601455, hz601455⟩ : ∃ z : Int32, z = g599970 + Int32.ofInt 1 := ⟨_, rfl⟩
                              have ez601455 : z601455.toInt = g599970.toInt + 1 := gI_inc hz601455 (by decide) bg599970'' (by decide) (by decide)
                              have bz601455 : gB z601455 1 1000000 := ⟨by omega, by omega⟩
                              refine G_iinc (L' := [(4, .int z601455), (8, .int o601364), (7, .int (-1)), (6, .int p601291), (5, .ref q601276), (3, .ref q598521), (2, .int g598381), (0, .ref q561366), (1, .ref q561367)]) z601455 4 dr_cX17_spill_212 rfl hz601455.symm (Nat.le_of_ble_eq_true rfl) rfl ?_
                              refine G_aload 4 dr_cX17_spill_215 rfl ?_
                              refine G_iload 1 dr_cX17_spill_217 rfl ?_
                              refine Gp_put 2 hm601394 he601393 dr_cX17_spill_219 (gk_X15 D I) (Nat.le_of_ble_eq_true rfl) wr_9_186 rfl rfl rfl (Nat.le_of_ble_eq_true rfl) (fun F601456 e601457 n601458 => ?_)
                              have he601459 : F601456 q561366 = .inr (22, [.ref (γ 9 0), .ref (γ 9 1), .ref (γ 9 2), .ref (γ 9 3), .ref (γ 9 4), .ref (γ 9 5), .ref (γ 9 6), .ref (γ 9 7), .ref (γ 9 8), .int p601404, .int p601405, .int p601406, .int p601407, .int p601408, .int p601409, .ref (γ 9 15), .ref (γ 9 16), .ref (γ 9 17), .ref (γ 9 18), .ref (γ 9 19), .ref (γ 9 20), .ref (γ 9 21), .ref (γ 9 22), .int p601410, .int p601411, .int p601412, .int p601413, .int p601414, .ref q601402, .ref (γ 9 29), .int p601415, .ref (γ 9 31), .int p601416, .int p601417, .int p601418, .ref q601403]) := (n601458 q561366 (rn_oo he601401 he601393 (by decide))).trans he601401
                              have he601460 : F601456 q601276 = .inr (20, [.int p601289, .int p601290, .int o601364, .int p601292, .int p601293, .int p601294, .int p601295]) := e601457
                              have mk601461 : mKp (F561365 q561366) (F601456 q561366) := mKp_tr mk601395 (mKp_eq (n601458 q561366 (rn_ty ht601384 ht601391 (by decide))))
                              have kp601462 : F601456 (γ0 9 3) = F561365 (γ0 9 3) := (n601458 (γ0 9 3) (rn_ty (rSk_k hs601381 k0_3 (by decide) (by decide)) ht601391 (by decide))).trans kp601382
                              have kp601463 : F601456 (γ0 9 19) = F595222 (γ0 9 19) := (n601458 (γ0 9 19) (rn_ty (rSk_k hs601381 k0_19 (by decide) (by decide)) ht601391 (by decide))).trans kp601383
                              refine G_iload 2 dr_cX17_spill_222 rfl ?_
                              refine G_iload 3 dr_cX17_spill_224 rfl ?_
                              refine G_icmp_ne 236 dr_cX17_spill_226 (by decide +kernel) (fun _ => ?_) (fun hc => absurd (show False by have := gj_eqL hc (show Int32.toInt (-1) = (-1) by decide); omega) not_false)
                              have hT601464 : RS D I P601374 F601456 γ el := RS_set hT601380 n601458 ht601391 (by decide) ⟨p601289, p601290, o601364, p601292, p601293, p601294, p601295, he601460, bp601289, bp601290, bp601293, bp601294, bp601295, r601296, (by omega), r601298, (by have z := r601299; omega)⟩
                              have hs601466 := rSk_put hs601381 hT601464 n601458 ht601391 (by decide) (by decide)
                              have hm601468 : q598521 ∈ P601374 := RS_m hT601464 ht601387 (by decide)
                              obtain ⟨q601470, q601471, p601472, p601473, he601469, ht601480, ht601474, ht601475, ht601476, ht601477, ht601478, bp601472, bp601473, r601479, r601481, r601482⟩ := show rk_2 γ q598521 (F601456 q598521) from RS_o hT601464 ht601387
                              have hf601483 : γ 1 q601470 = f := (show γ 1 q601470 = γ 1 q598521 from ht601475).trans hf601388
                              have hf601484 : γ 1 q601471 = f := (show γ 1 q601471 = γ 1 q598521 from ht601477).trans hf601388
                              have r601485 : γ 6 (γ 1 q598521) = γ 6 f := by rw [hf601388]
                              have r601486 : γ 7 (γ 1 q598521) = γ 7 f := by rw [hf601388]
                              have r601487 : γ 19 (γ 1 q598521) = γ 19 f := by rw [hf601388]
                              have r601488 := r601479.resolve_left (by omega)
                              clear r601479
                              have r601489 : γ 2 (γ 14 q598521) = γ 2 q601470 := by rw [ht601480.1]
                              have pl601467 := sp_put hT601380 ht601385 hf601386 pl601452 n601458 hp601453 (show (g598381.toInt : Int).toNat < γ 6 f from tn_lt (by omega) (by omega)) (by unfold rwL; rw [x601368.2.2]; exact tn_le1 (by omega) (by omega))
                              have ac601490 : (fI (F601456 q561366) 11).toInt = p601406.toInt := by rw [he601459]; rfl
                              have ac601491 : (fI (F601456 q561366) 14).toInt = p601409.toInt := by rw [he601459]; rfl
                              refine G_lv (L' := [(0, .ref q561366), (1, .ref q561367), (2, .int g598381), (3, .ref q598521), (4, .int z601455), (5, .ref q601276), (6, .int p601291), (7, .int (-1))]) [7, 8, 6, 5, 0, 4, 3, 2] rfl ?_
                              exact jn236_600625 P601374 F601456 γ el z601455 q601276 p601291 (-1) (gB_w bz601455 (by decide) (by decide)) (gB_w rb601330 (by decide) (by decide)) (gB_w (gBl (show Int32.toInt (-1) = (-1) by decide)) (by decide) (by decide)) hT601464 hs601466 hph601396 hB601379 ht601387 hf601388 x601368.2.1 x601368.2.2 ht601391 hf601392 (by have qa0 : Int32.toInt (-1) = (-1) := (by decide); omega) (by have qa0 : Int32.toInt (-1) = (-1) := (by decide); omega) (by have qa0 : Int32.toInt (-1) = (-1) := (by decide); omega) (by have qa0 : Int32.toInt (-1) = (-1) := (by decide); omega) (by have qa0 : Int32.toInt (-1) = (-1) := (by decide); omega) (by have qa0 : Int32.toInt (-1) = (-1) := (by decide); omega) kp601463 (by rw [(show (z601455.toInt : Int).toNat = ((g599970.toInt : Int).toNat + 1) from tn_eq1 (by omega) (by omega))]; exact pl601467) (by rw [(show (z601455.toInt : Int).toNat = ((g599970.toInt : Int).toNat + 1) from tn_eq1 (by omega) (by omega))]; exact hp601453) (rS1_of he601288 he601460 pl601304.2 (fun _ _ _ _ => Or.inl (by omega)) (fun h1 h2 h3 => (uB_0 x601337 (by omega) h1 h2 h3).elim)) (by have qa0 : Int32.toInt (-1) = (-1) := (by decide); omega) (by have qa0 : Int32.toInt (-1) = (-1) := (by decide); omega) (ms_j hm90_599992 (by omega) (by omega) (by omega)) kp601462 mk601461
                            · have r601492 : o601364.toInt < 0 := gj_nleL hc601449 (show Int32.toInt 0 = 0 by decide)
                              have bo601364' : gB o601364 (-1) (-1) := ⟨by omega, by omega⟩
                              refine G_iconst 0 dr_cX17_spill_210 (by decide +kernel) ?_
                              exact G_zretA FieldType.boolean dr_cX17_spill_211 rfl rfl (show ((rPh γ el f - rPh γ0 el0 f) / 18) ≤ (((387 * B + 6000) - rPh γ0 el0 f) / 18) by omega) (show (rPh γ el f - rPh γ0 el0 f) ≤ ((387 * B + 6000) - rPh γ0 el0 f) by omega) ⟨P601374, F601375, γ, el, 0, rfl, rfl, hs601381, ⟨by omega, by omega⟩, hB601379, (gB_w (gBl (show Int32.toInt 0 = 0 by decide)) (by decide) (by decide)), (by have qa0 : Int32.toInt (-1) = (-1) := (by decide); have qa1 : Int32.toInt 0 = 0 := (by decide); omega), (Or.inl (by decide)), kp601382, mk601395⟩
                        · have r601493 : o601336.toInt ≠ 0 := gj_neq hc601338 (show Int32.toInt 0 = 0 by decide)
                          have bo601336' : gB o601336 1 1 := gB_t1 bo601336 r601493
                          refine G_aload 1 dr_cX17_spill_162 rfl ?_
                          refine Gp_get 3 hm601287 he601288 dr_cX17_spill_164 (gk_X15 D I) (Nat.le_of_ble_eq_true rfl) wr_9_190 rfl ?_
                          have rb601494 : gB p601292 0 1999 := r601298.resolve_left (by have z := (uB_1 x601337 (by omega)).2.2; omega)
                          refine G_goto 171 dr_cX17_spill_167 (by decide +kernel) ?_
                          refine G_istore (L' := [(7, .int p601292), (6, .int p601291), (5, .ref q601276), (4, .int g599970), (3, .ref q598521), (2, .int g598381), (0, .ref q561366), (1, .ref q561367)]) dr_cX17_spill_171 (Nat.le_of_ble_eq_true rfl) rfl ?_
                          refine G_iload 1 dr_cX17_spill_173 rfl ?_
                          refine G_if_lt 236 dr_cX17_spill_175 (by decide +kernel) (fun hc => absurd (show False by have := gj_lt hc (show Int32.toInt 0 = 0 by decide); omega) not_false) (fun _ => ?_)
                          refine G_aload_n 6 dr_cX17_spill_178 rfl ?_
                          refine Gp_get 19 hm599999 he600000 dr_cX17_spill_179 (gk_X17 D I) (Nat.le_of_ble_eq_true rfl) wr_7_93 rfl ?_
                          refine G_iload 1 dr_cX17_spill_182 rfl ?_
                          have hm601495 : (γ 9 19) ∈ P599971 := RS_m hT599973 ht600033 (by decide)
                          obtain ⟨f601497, he601496, bf601497⟩ := show rk_21 I (F599972 (γ 9 19)) from RS_o hT599973 ht600033
                          refine Gp_iald 0 hm601495 he601496 dr_cX17_spill_184 rfl (gB_in rb601330 (by decide) (by decide)) (G_nam fun z601498 hz601498 => ?_)
                          have bz601498 : gB z601498 (-1) 1999 := by rw [hz601498]; exact bf601497 _
                          have c9_601499 : cB (F595222 (γ0 9 19)) = f601497 := by rw [← x599987, ← congrFun (rSk_9 hs599974) 19]; exact cB_of he601496
                          have hs601500 : (cB (F595222 (γ0 9 19)) p601291.toInt.toNat).toInt = z601498.toInt := by rw [c9_601499, hz601498]; rfl
                          refine G_if_lt 236 dr_cX17_spill_185 (by decide +kernel) (fun hc601502 => ?_) (fun hc601502 => ?_)
                          · have r601503 : z601498.toInt < 0 := gj_lt hc601502 (show Int32.toInt 0 = 0 by decide)
                            have bz601498' : gB z601498 (-1) (-1) := ⟨by omega, by omega⟩
                            have ac601504 : (fI (F599972 q561366) 11).toInt = p600005.toInt := by rw [he600000]; rfl
                            have ac601505 : (fI (F599972 q561366) 14).toInt = p600008.toInt := by rw [he600000]; rfl
                            refine G_lv (L' := [(0, .ref q561366), (1, .ref q561367), (2, .int g598381), (3, .ref q598521), (4, .int g599970), (5, .ref q601276), (6, .int p601291), (7, .int p601292)]) [6, 7, 5, 4, 3, 2, 1, 0] rfl ?_
                            exact jn236_600625 P599971 F599972 γ el g599970 q601276 p601291 p601292 (gB_w bg599970'' (by decide) (by decide)) (gB_w rb601330 (by decide) (by decide)) (gB_w rb601494 (by decide) (by decide)) hT599973 hs599974 hph599975 hB599976 ht599977 hf599978 r599979 r599980 ht601279 hf601281 (by omega) (by omega) (by omega) (by omega) (by omega) (by omega) x599987 (by exact pl601304.1) (by exact hp601301) (rS1_of he601288 he601288 pl601304.2 (fun _ _ _ _ => Or.inr ⟨rfl, by omega⟩) (fun _ _ _ => Or.inr ⟨rfl, rfl, by omega, (Classical.em (p601292.toInt = p601291.toInt)).elim (fun e => Or.inr (by rw [e]; omega)) (fun e => Or.inl e)⟩)) (by omega) (by omega) (ms_j hm90_599992 (by omega) (by omega) (by omega)) x599991 x599992
                          · have r601506 : 0 ≤ z601498.toInt := gj_nlt hc601502 (show Int32.toInt 0 = 0 by decide)
                            have bz601498' : gB z601498 0 1999 := ⟨by omega, by omega⟩
                            refine G_aload_n 6 dr_cX17_spill_188 rfl ?_
                            refine G_aload_n 7 dr_cX17_spill_189 rfl ?_
                            refine G_aload_n 4 dr_cX17_spill_190 rfl ?_
                            refine G_iload 3 dr_cX17_spill_191 rfl ?_
                            refine G_aload_n 6 dr_cX17_spill_193 rfl ?_
                            refine Gp_get 19 hm599999 he600000 dr_cX17_spill_194 (gk_X17 D I) (Nat.le_of_ble_eq_true rfl) wr_7_93 rfl ?_
                            refine G_iload 1 dr_cX17_spill_197 rfl ?_
                            refine Gp_iald 0 hm601495 he601496 dr_cX17_spill_199 rfl (gB_in rb601330 (by decide) (by decide)) (G_eqi (y := z601498) hz601498.symm ?_)
                            have r601507 := (spi595307.2.2.2 p601291.toInt.toNat (tn_lt (by omega) (by omega)) (by omega)).2.2
                            have ac601508 : (fI (F599972 q561366) 11).toInt = p600005.toInt := by rw [he600000]; rfl
                            have ac601509 : (fI (F599972 q561366) 14).toInt = p600008.toInt := by rw [he600000]; rfl
                            have rg601510 := rM_ge hT599973 ht599995 hf599996
                            have rm601511 := rM_bd hB599976
                            have bd601512 := rBd_c hT599973 ht599995 hf599996 hB599976
                            have rc601513 := rc_at hT599973 ht599995 hf599996
                            refine Gw_callV (As := [.ref q561367, .ref q598521, .int g599970, .int z601498]) (gV_ok D I) (cg_396985_SpillForgeModel_load l hl0 D I γ el f B P599971 F599972 q561366 q561367 q598521 g599970 z601498 g598381.toInt.toNat hT599973 ht599994 ht599995 ht599977 hf599996 hB599976 hBk r599979 r599980 hf599978 (gB_w bg599970'' (by decide) (by decide)) bz601498' (by omega) (by omega) (by omega) (by omega) (by omega)) dr_cX17_spill_200 ⟨wr_11_67, wr_1_14, wr_11_70, by decide, rfl, (Nat.le_of_ble_eq_true rfl), (Nat.le_of_ble_eq_true rfl)⟩ wr_11_69 wr_p_111 hm599999 he600000 rfl (rm_gc hph599975 pk599997) (rm_gs hph599975 pk599997) (Nat.le_of_ble_eq_true rfl) (fun r601517 w601518 dc601514 ds601515 hp601516 => ?_) (fun _ _ _ _ _ z => z.elim)
                            obtain ⟨P601529, F601530, γ, el, o601519, rfl, rfl, hk601531, ⟨hr601532, hr601533⟩, hB601534, bo601519, x601520, x601521, x601522, x601523, x601524, x601525, x601526, x601527, x601528⟩ := hp601516
                            have hT601535 := hk601531.1
                            have hs601536 := rSk_tr hs599974 hk601531 (by decide) (by decide) (by decide)
                            have kp601537 : F601530 (γ0 9 3) = F561365 (γ0 9 3) := (rSk_F hk601531 (rSk_k hs599974 k0_3 (by decide) (by decide)) (by decide) (by decide)).trans x599991
                            have kp601538 : F601530 (γ0 9 19) = F595222 (γ0 9 19) := (rSk_F hk601531 (rSk_k hs599974 k0_19 (by decide) (by decide)) (by decide) (by decide)).trans x599987
                            have ht601539 : rKd γ q561366 10 := rSk_k hk601531 ht599994 (by decide) (by decide)
                            have ht601540 : rKd γ q561367 9 := rSk_k hk601531 ht599995 (by decide) (by decide)
                            have hf601541 : γ 1 q561367 = f := rSk_1 hk601531 ht599995 (by decide) hf599996
                            have ht601542 : rKd γ q598521 2 := rSk_k hk601531 ht599977 (by decide) (by decide)
                            have hf601543 : γ 1 q598521 = f := rSk_1 hk601531 ht599977 (by decide) hf599978
                            have ht601544 : rKd γ q600050 3 := rSk_k hk601531 ht600054 (by decide) (by decide)
                            have hf601545 : γ 1 q600050 = f := rSk_1 hk601531 ht600054 (by decide) hf600063
                            have ht601546 : rKd γ q601276 1 := rSk_k hk601531 ht601279 (by decide) (by decide)
                            have hf601547 : γ 1 q601276 = f := rSk_1 hk601531 ht601279 (by decide) hf601281
                            have he601548 : F601530 q601276 = .inr (20, [.int p601289, .int p601290, .int p601291, .int p601292, .int p601293, .int p601294, .int p601295]) := (rSk_F hk601531 ht601279 (by decide) (by decide)).trans he601288
                            have hm601549 : q601276 ∈ P601529 := RS_m hT601535 ht601546 (by decide)
                            clear bp600052 bp600053 r600061 r600062 rg601510 rm601511 bd601512 rc601513
                            have mk601550 : mKp (F561365 q561366) (F601530 q561366) := mKp_tr x599992 x601528
                            have hph601551 : rPh γ0 el0 f ≤ rPh γ el f := rm_ph hph599975 hr601533
                            have pk601552 : rPh γ el f ≤ 387 * B + 6000 := rm_pk (rM_ge hT601535 ht601540 hf601541).1 (rM_bd hB601534)
                            change G _ _ _ _ _ _ _ (.int o601519 :: _) _ _ _
                            refine G_widen (cs' := ((rPh γ el f - rPh γ0 el0 f) / 18)) (sl' := (rPh γ el f - rPh γ0 el0 f)) (rm_wc hph599975 hr601532) (rm_ws hph599975 hr601533) ?_
                            have sz601553 := x601520
                            have r601554 : 0 < γ 6 (γ 1 q561367) := by rw [hf601541]; omega
                            have hm601555 : q561366 ∈ P601529 := RS_m hT601535 ht601539 (by decide)
                            refine rk10_e (show rk_10 γ (F601530 q561366) from RS_o hT601535 ht601539) (fun q601557 q601558 p601559 p601560 p601561 p601562 p601563 p601564 p601565 p601566 p601567 p601568 p601569 p601570 p601571 p601572 p601573 he601556 hB601600 ht601574 ht601575 ht601576 ht601577 ht601578 ht601579 ht601580 ht601581 ht601582 ht601583 ht601584 ht601585 ht601586 ht601587 ht601588 ht601589 ht601590 ht601591 ht601592 ht601593 ht601594 ht601595 ht601596 ht601597 hB601601 => ?_)
                            have ac601602 : (fI (F601530 q561366) 11).toInt = p601561.toInt := by rw [he601556]; rfl
                            have bp601561 : gB p601561 0 100 := (hB601600.2.2.1)
                            have ac601603 : (fI (F601530 q561366) 14).toInt = p601564.toInt := by rw [he601556]; rfl
                            have bp601564 : gB p601564 0 2000 := (hB601600.2.2.2.1)
                            refine G_istore (L' := [(8, .int o601519), (7, .int p601292), (6, .int p601291), (5, .ref q601276), (4, .int g599970), (3, .ref q598521), (2, .int g598381), (0, .ref q561366), (1, .ref q561367)]) dr_cX17_spill_203 (Nat.le_of_ble_eq_true rfl) rfl ?_
                            refine G_iload 0 dr_cX17_spill_205 rfl ?_
                            refine G_if_ge 212 dr_cX17_spill_207 (by decide +kernel) (fun hc601604 => ?_) (fun hc601604 => ?_)
                            · have r601605 : 0 ≤ o601519.toInt := gj_leL hc601604 (show Int32.toInt 0 = 0 by decide)
                              have bo601519' : gB o601519 0 1999 := ⟨by omega, by omega⟩
                              have pl601607 := sp_ld (x601526.resolve_left (by omega)) pl601304.1 (tn_ge (by omega)) (rfl : ((g599970.toInt : Int).toNat + 1) = (g599970.toInt : Int).toNat + 1)
                              have hp601608 : rAt γ el q561367 (g598381.toInt : Int).toNat ((g599970.toInt : Int).toNat + 1) = q601276 := ((x601527.resolve_left (by omega)) (g599970.toInt : Int).toNat (Nat.le_refl _)).trans hp601301
                              have r601609 := x601524.resolve_left (by omega)
                              clear x601524 x601526 x601527
                              obtain ⟨z601610, hz601610⟩ : ∃ z : Int32, z = g599970 + Int32.ofInt 1 := ⟨_, rfl⟩
                              have ez601610 : z601610.toInt = g599970.toInt + 1 := gI_inc hz601610 (by decide) bg599970'' (by decide) (by decide)
                              have bz601610 : gB z601610 1 1000000 := ⟨by omega, by omega⟩
                              refine G_iinc (L' := [(4, .int z601610), (8, .int o601519), (7, .int p601292), (6, .int p601291), (5, .ref q601276), (3, .ref q598521), (2, .int g598381), (0, .ref q561366), (1, .ref q561367)]) z601610 4 dr_cX17_spill_212 rfl hz601610.symm (Nat.le_of_ble_eq_true rfl) rfl ?_
                              refine G_aload 4 dr_cX17_spill_215 rfl ?_
                              refine G_iload 1 dr_cX17_spill_217 rfl ?_
                              refine Gp_put 2 hm601549 he601548 dr_cX17_spill_219 (gk_X15 D I) (Nat.le_of_ble_eq_true rfl) wr_9_186 rfl rfl rfl (Nat.le_of_ble_eq_true rfl) (fun F601611 e601612 n601613 => ?_)
                              have he601614 : F601611 q561366 = .inr (22, [.ref (γ 9 0), .ref (γ 9 1), .ref (γ 9 2), .ref (γ 9 3), .ref (γ 9 4), .ref (γ 9 5), .ref (γ 9 6), .ref (γ 9 7), .ref (γ 9 8), .int p601559, .int p601560, .int p601561, .int p601562, .int p601563, .int p601564, .ref (γ 9 15), .ref (γ 9 16), .ref (γ 9 17), .ref (γ 9 18), .ref (γ 9 19), .ref (γ 9 20), .ref (γ 9 21), .ref (γ 9 22), .int p601565, .int p601566, .int p601567, .int p601568, .int p601569, .ref q601557, .ref (γ 9 29), .int p601570, .ref (γ 9 31), .int p601571, .int p601572, .int p601573, .ref q601558]) := (n601613 q561366 (rn_oo he601556 he601548 (by decide))).trans he601556
                              have he601615 : F601611 q601276 = .inr (20, [.int p601289, .int p601290, .int o601519, .int p601292, .int p601293, .int p601294, .int p601295]) := e601612
                              have mk601616 : mKp (F561365 q561366) (F601611 q561366) := mKp_tr mk601550 (mKp_eq (n601613 q561366 (rn_ty ht601539 ht601546 (by decide))))
                              have kp601617 : F601611 (γ0 9 3) = F561365 (γ0 9 3) := (n601613 (γ0 9 3) (rn_ty (rSk_k hs601536 k0_3 (by decide) (by decide)) ht601546 (by decide))).trans kp601537
                              have kp601618 : F601611 (γ0 9 19) = F595222 (γ0 9 19) := (n601613 (γ0 9 19) (rn_ty (rSk_k hs601536 k0_19 (by decide) (by decide)) ht601546 (by decide))).trans kp601538
                              refine G_iload 2 dr_cX17_spill_222 rfl ?_
                              refine G_iload 3 dr_cX17_spill_224 rfl ?_
                              refine G_icmp_ne 236 dr_cX17_spill_226 (by decide +kernel) (fun hc601619 => ?_) (fun hc601619 => ?_)
                              · have r601620 : p601292.toInt ≠ p601291.toInt := gC_ne hc601619
                                have hT601621 : RS D I P601529 F601611 γ el := RS_set hT601535 n601613 ht601546 (by decide) ⟨p601289, p601290, o601519, p601292, p601293, p601294, p601295, he601615, bp601289, bp601290, bp601293, bp601294, bp601295, r601296, (by omega), r601298, (by have z := r601299; omega)⟩
                                have hs601623 := rSk_put hs601536 hT601621 n601613 ht601546 (by decide) (by decide)
                                have hm601625 : q598521 ∈ P601529 := RS_m hT601621 ht601542 (by decide)
                                obtain ⟨q601627, q601628, p601629, p601630, he601626, ht601637, ht601631, ht601632, ht601633, ht601634, ht601635, bp601629, bp601630, r601636, r601638, r601639⟩ := show rk_2 γ q598521 (F601611 q598521) from RS_o hT601621 ht601542
                                have hf601640 : γ 1 q601627 = f := (show γ 1 q601627 = γ 1 q598521 from ht601632).trans hf601543
                                have hf601641 : γ 1 q601628 = f := (show γ 1 q601628 = γ 1 q598521 from ht601634).trans hf601543
                                have r601642 : γ 6 (γ 1 q598521) = γ 6 f := by rw [hf601543]
                                have r601643 : γ 7 (γ 1 q598521) = γ 7 f := by rw [hf601543]
                                have r601644 : γ 19 (γ 1 q598521) = γ 19 f := by rw [hf601543]
                                have r601645 := r601636.resolve_left (by omega)
                                clear r601636
                                have r601646 : γ 2 (γ 14 q598521) = γ 2 q601627 := by rw [ht601637.1]
                                have pl601624 := sp_put hT601535 ht601540 hf601541 pl601607 n601613 hp601608 (show (g598381.toInt : Int).toNat < γ 6 f from tn_lt (by omega) (by omega)) (by unfold rwL; rw [x601523.2.2]; exact tn_le1 (by omega) (by omega))
                                have ac601647 : (fI (F601611 q561366) 11).toInt = p601561.toInt := by rw [he601614]; rfl
                                have ac601648 : (fI (F601611 q561366) 14).toInt = p601564.toInt := by rw [he601614]; rfl
                                refine G_lv (L' := [(0, .ref q561366), (1, .ref q561367), (2, .int g598381), (3, .ref q598521), (4, .int z601610), (5, .ref q601276), (6, .int p601291), (7, .int p601292)]) [7, 8, 6, 5, 0, 4, 3, 2] rfl ?_
                                exact jn236_600625 P601529 F601611 γ el z601610 q601276 p601291 p601292 (gB_w bz601610 (by decide) (by decide)) (gB_w rb601330 (by decide) (by decide)) (gB_w rb601494 (by decide) (by decide)) hT601621 hs601623 hph601551 hB601534 ht601542 hf601543 x601523.2.1 x601523.2.2 ht601546 hf601547 (by omega) (by omega) (by omega) (by omega) (by omega) (by omega) kp601618 (by rw [(show (z601610.toInt : Int).toNat = ((g599970.toInt : Int).toNat + 1) from tn_eq1 (by omega) (by omega))]; exact pl601624) (by rw [(show (z601610.toInt : Int).toNat = ((g599970.toInt : Int).toNat + 1) from tn_eq1 (by omega) (by omega))]; exact hp601608) (rS1_of he601288 he601615 pl601304.2 (fun _ _ _ _ => Or.inl (by omega)) (fun _ _ _ => Or.inr ⟨rfl, rfl, by omega, Or.inl (by omega)⟩)) (by omega) (by omega) (ms_j hm90_599992 (by omega) (by omega) (by omega)) kp601617 mk601616
                              · have r601649 : p601292.toInt = p601291.toInt := gC_eq hc601619
                                refine G_aload 4 dr_cX17_spill_229 rfl ?_
                                refine G_iload 1 dr_cX17_spill_231 rfl ?_
                                refine Gp_put 3 hm601549 he601615 dr_cX17_spill_233 (gk_X15 D I) (Nat.le_of_ble_eq_true rfl) wr_9_190 rfl rfl rfl (Nat.le_of_ble_eq_true rfl) (fun F601650 e601651 n601652 => ?_)
                                have he601653 : F601650 q561366 = .inr (22, [.ref (γ 9 0), .ref (γ 9 1), .ref (γ 9 2), .ref (γ 9 3), .ref (γ 9 4), .ref (γ 9 5), .ref (γ 9 6), .ref (γ 9 7), .ref (γ 9 8), .int p601559, .int p601560, .int p601561, .int p601562, .int p601563, .int p601564, .ref (γ 9 15), .ref (γ 9 16), .ref (γ 9 17), .ref (γ 9 18), .ref (γ 9 19), .ref (γ 9 20), .ref (γ 9 21), .ref (γ 9 22), .int p601565, .int p601566, .int p601567, .int p601568, .int p601569, .ref q601557, .ref (γ 9 29), .int p601570, .ref (γ 9 31), .int p601571, .int p601572, .int p601573, .ref q601558]) := (n601652 q561366 (rn_oo he601614 he601615 (by decide))).trans he601614
                                have he601654 : F601650 q601276 = .inr (20, [.int p601289, .int p601290, .int o601519, .int o601519, .int p601293, .int p601294, .int p601295]) := e601651
                                have mk601655 : mKp (F561365 q561366) (F601650 q561366) := mKp_tr mk601616 (mKp_eq (n601652 q561366 (rn_ty ht601539 ht601546 (by decide))))
                                have n601656 : ∀ b, b ≠ q601276 → F601650 b = F601530 b := fun b hb => (n601652 b hb).trans (n601613 b hb)
                                have kp601657 : F601650 (γ0 9 3) = F561365 (γ0 9 3) := (n601652 (γ0 9 3) (rn_ty (rSk_k hs601536 k0_3 (by decide) (by decide)) ht601546 (by decide))).trans kp601617
                                have kp601658 : F601650 (γ0 9 19) = F595222 (γ0 9 19) := (n601652 (γ0 9 19) (rn_ty (rSk_k hs601536 k0_19 (by decide) (by decide)) ht601546 (by decide))).trans kp601618
                                have hT601659 : RS D I P601529 F601650 γ el := RS_set hT601535 n601656 ht601546 (by decide) ⟨p601289, p601290, o601519, o601519, p601293, p601294, p601295, he601654, bp601289, bp601290, bp601293, bp601294, bp601295, r601296, (by omega), (by omega), (by have z := r601299; omega)⟩
                                have hs601661 := rSk_put hs601536 hT601659 n601656 ht601546 (by decide) (by decide)
                                have hm601663 : q598521 ∈ P601529 := RS_m hT601659 ht601542 (by decide)
                                obtain ⟨q601665, q601666, p601667, p601668, he601664, ht601675, ht601669, ht601670, ht601671, ht601672, ht601673, bp601667, bp601668, r601674, r601676, r601677⟩ := show rk_2 γ q598521 (F601650 q598521) from RS_o hT601659 ht601542
                                have hf601678 : γ 1 q601665 = f := (show γ 1 q601665 = γ 1 q598521 from ht601670).trans hf601543
                                have hf601679 : γ 1 q601666 = f := (show γ 1 q601666 = γ 1 q598521 from ht601672).trans hf601543
                                have r601680 : γ 6 (γ 1 q598521) = γ 6 f := by rw [hf601543]
                                have r601681 : γ 7 (γ 1 q598521) = γ 7 f := by rw [hf601543]
                                have r601682 : γ 19 (γ 1 q598521) = γ 19 f := by rw [hf601543]
                                have r601683 := r601674.resolve_left (by omega)
                                clear r601674
                                have r601684 : γ 2 (γ 14 q598521) = γ 2 q601665 := by rw [ht601675.1]
                                have pl601662 := sp_put hT601535 ht601540 hf601541 pl601607 n601656 hp601608 (show (g598381.toInt : Int).toNat < γ 6 f from tn_lt (by omega) (by omega)) (by unfold rwL; rw [x601523.2.2]; exact tn_le1 (by omega) (by omega))
                                have ac601685 : (fI (F601650 q561366) 11).toInt = p601561.toInt := by rw [he601653]; rfl
                                have ac601686 : (fI (F601650 q561366) 14).toInt = p601564.toInt := by rw [he601653]; rfl
                                refine G_lv (L' := [(0, .ref q561366), (1, .ref q561367), (2, .int g598381), (3, .ref q598521), (4, .int z601610), (5, .ref q601276), (6, .int p601291), (7, .int p601292)]) [7, 8, 6, 5, 0, 4, 3, 2] rfl ?_
                                exact jn236_600625 P601529 F601650 γ el z601610 q601276 p601291 p601292 (gB_w bz601610 (by decide) (by decide)) (gB_w rb601330 (by decide) (by decide)) (gB_w rb601494 (by decide) (by decide)) hT601659 hs601661 hph601551 hB601534 ht601542 hf601543 x601523.2.1 x601523.2.2 ht601546 hf601547 (by omega) (by omega) (by omega) (by omega) (by omega) (by omega) kp601658 (by rw [(show (z601610.toInt : Int).toNat = ((g599970.toInt : Int).toNat + 1) from tn_eq1 (by omega) (by omega))]; exact pl601662) (by rw [(show (z601610.toInt : Int).toNat = ((g599970.toInt : Int).toNat + 1) from tn_eq1 (by omega) (by omega))]; exact hp601608) (rS1_of he601288 he601654 pl601304.2 (fun _ _ _ _ => Or.inl (by omega)) (fun _ _ _ => Or.inl (by omega))) (by omega) (by omega) (ms_j hm90_599992 (by omega) (by omega) (by omega)) kp601657 mk601655
                            · have r601687 : o601519.toInt < 0 := gj_nleL hc601604 (show Int32.toInt 0 = 0 by decide)
                              have bo601519' : gB o601519 (-1) (-1) := ⟨by omega, by omega⟩
                              refine G_iconst 0 dr_cX17_spill_210 (by decide +kernel) ?_
                              exact G_zretA FieldType.boolean dr_cX17_spill_211 rfl rfl (show ((rPh γ el f - rPh γ0 el0 f) / 18) ≤ (((387 * B + 6000) - rPh γ0 el0 f) / 18) by omega) (show (rPh γ el f - rPh γ0 el0 f) ≤ ((387 * B + 6000) - rPh γ0 el0 f) by omega) ⟨P601529, F601530, γ, el, 0, rfl, rfl, hs601536, ⟨by omega, by omega⟩, hB601534, (gB_w (gBl (show Int32.toInt 0 = 0 by decide)) (by decide) (by decide)), (by have qa0 : Int32.toInt 0 = 0 := (by decide); omega), (Or.inl (by decide)), kp601537, mk601550⟩
              have ac601688 : (fI (F598383 q561366) 11).toInt = p598410.toInt := by rw [he598405]; rfl
              have ac601689 : (fI (F598383 q561366) 14).toInt = p598413.toInt := by rw [he598405]; rfl
              exact hlp90_599992 ((γ 2 (γ 14 q598521) + 1 - (0 : Int).toNat) + 1) P598382 F598383 γ el 0 (gB_w (gBl (show Int32.toInt 0 = 0 by decide)) (by decide) (by decide)) hT598384 hs598385 hph598386 hB598387 ht598526 hf598548 r598556 r598557 (by have qa0 : Int32.toInt 0 = 0 := (by decide); omega) (by have qa0 : Int32.toInt 0 = 0 := (by decide); omega) (by have qa0 : Int32.toInt 0 = 0 := (by decide); omega) (by have qa0 : Int32.toInt 0 = 0 := (by decide); omega) (by have qa0 : Int32.toInt 0 = 0 := (by decide); omega) (by have qa0 : Int32.toInt 0 = 0 := (by decide); omega) x598394 (by have qa : Int32.toInt 0 = 0 := (by decide); rw [qa]; exact x598395) (by have qa0 : Int32.toInt 0 = 0 := (by decide); omega) (by have qa0 : Int32.toInt 0 = 0 := (by decide); omega) x598396 x598397 (Nat.lt_succ_self _)
        have ac601690 : (fI (F595222 q561366) 11).toInt = p595328.toInt := by rw [he595323]; rfl
        have ac601691 : (fI (F595222 q561366) 14).toInt = p595331.toInt := by rw [he595323]; rfl
        exact hlp73_598397 (((1000001 : Int) - 0).toNat + 1) P595221 F595222 γ el 0 (gB_w (gBl (show Int32.toInt 0 = 0 by decide)) (by decide) (by decide)) hT595313 hs595314 hph595372 hB595371 (by have qa0 : Int32.toInt 0 = 0 := (by decide); omega) (by have qa0 : Int32.toInt 0 = 0 := (by decide); omega) (by have qa0 : Int32.toInt 0 = 0 := (by decide); omega) (by have qa0 : Int32.toInt 0 = 0 := (by decide); omega) (by have qa0 : Int32.toInt 0 = 0 := (by decide); omega) (by have qa0 : Int32.toInt 0 = 0 := (by decide); omega) kp595316 (by have qa : Int32.toInt 0 = 0 := (by decide); rw [qa]; exact pl595375) kp595315 mk595321 (Nat.lt_succ_self _)
      · have r601692 : g595220.toInt < 2000 := gj_nleL hc595303 (show Int32.toInt 2000 = 2000 by decide)
        have bg595220' : gB g595220 0 1999 := ⟨by omega, by omega⟩
        refine G_aload_n 1 dr_cX17_spill_9 rfl ?_
        refine Gp_get 19 hm595241 he595242 dr_cX17_spill_10 (gk_X17 D I) (Nat.le_of_ble_eq_true rfl) wr_7_93 rfl ?_
        refine G_iload_n 0 dr_cX17_spill_13 rfl ?_
        refine G_iconst (-1) dr_cX17_spill_14 (by decide +kernel) ?_
        refine Gp_iast 0 hm595295 he595296 dr_cX17_spill_15 rfl (gB_in bg595220' (by decide) (by decide)) (fun F601693 e601694 n601695 => ?_)
        obtain ⟨f601696, hf601696⟩ : ∃ z, z = upd f595297 g595220.toNatClampNeg (-1) := ⟨_, rfl⟩
        rw [← hf601696] at e601694
        have he601697 : F601693 q561366 = .inr (22, [.ref (γ 9 0), .ref (γ 9 1), .ref (γ 9 2), .ref (γ 9 3), .ref (γ 9 4), .ref (γ 9 5), .ref (γ 9 6), .ref (γ 9 7), .ref (γ 9 8), .int p595245, .int p595246, .int p595247, .int p595248, .int p595249, .int p595250, .ref (γ 9 15), .ref (γ 9 16), .ref (γ 9 17), .ref (γ 9 18), .ref (γ 9 19), .ref (γ 9 20), .ref (γ 9 21), .ref (γ 9 22), .int p595251, .int p595252, .int p595253, .int p595254, .int p595255, .ref q595243, .ref (γ 9 29), .int p595256, .ref (γ 9 31), .int p595257, .int p595258, .int p595259, .ref q595244]) := (n601695 q561366 (rn_oa he595242 he595296)).trans he595242
        have he601698 : F601693 (γ 9 3) = .inl (I .boolean, 2000, .inl f595293) := (n601695 (γ 9 3) (rn_ty ht595265 ht595275 (by decide))).trans he595292
        have he601699 : F601693 (γ 9 17) = .inl (I .int, 2000, .inl f595301) := (n601695 (γ 9 17) (rn_ty ht595273 ht595275 (by decide))).trans he595300
        have he601700 : F601693 (γ 9 19) = .inl (I .int, 2000, .inl f601696) := e601694
        have mk601701 : mKp (F561365 q561366) (F601693 q561366) := mKp_tr x595235 (mKp_eq (n601695 q561366 (rn_ty ht595237 ht595275 (by decide))))
        have kp601702 : F601693 (γ0 9 3) = F561365 (γ0 9 3) := (n601695 (γ0 9 3) (rn_ty (rSk_k hs595224 k0_3 (by decide) (by decide)) ht595275 (by decide))).trans x595234
        have bf601696 : gF f601696 (-1) 1999 := gF_upd hf601696 bf595297 (gB_w (gBl (show Int32.toInt (-1) = (-1) by decide)) (by decide) (by decide))
        have hT601703 : RS D I P595221 F601693 γ el := RS_set hT595223 n601695 ht595275 (by decide) ⟨f601696, he601700, bf601696⟩
        have hs601705 := rSk_put hs595224 hT601703 n601695 ht595275 (by decide) (by decide)
        have pl601706 := rPl_fr hT595223 ht595238 hf595239 x595233 (fun b hb _ => n601695 b (rn_ty (show rKd γ b 1 from hb) ht595275 (by decide)))
        refine G_aload_n 1 dr_cX17_spill_16 rfl ?_
        refine Gp_get 3 hm595241 he601697 dr_cX17_spill_17 (gk_X17 D I) (Nat.le_of_ble_eq_true rfl) wr_7_77 rfl ?_
        refine G_iload_n 0 dr_cX17_spill_20 rfl ?_
        refine Gp_zald 3 hm595291 he601698 dr_cX17_spill_21 rfl (gB_in bg595220' (by decide) (by decide)) (G_nam fun z601707 hz601707 => ?_)
        have bz601707 : gB z601707 0 1 := by rw [hz601707]; exact bf595293 _
        refine G_if_eq 65 dr_cX17_spill_22 (by decide +kernel) (fun hc601708 => ?_) (fun hc601708 => ?_)
        · have r601709 : z601707.toInt = 0 := gj_eq hc601708 (show Int32.toInt 0 = 0 by decide)
          have bz601707' : gB z601707 0 0 := gB_t0 r601709
          obtain ⟨z601710, hz601710⟩ : ∃ z : Int32, z = g595220 + Int32.ofInt 1 := ⟨_, rfl⟩
          have ez601710 : z601710.toInt = g595220.toInt + 1 := gI_inc hz601710 (by decide) bg595220' (by decide) (by decide)
          have bz601710 : gB z601710 1 2000 := ⟨by omega, by omega⟩
          refine G_iinc (L' := [(2, .int z601710), (0, .ref q561366), (1, .ref q561367)]) z601710 0 dr_cX17_spill_65 rfl hz601710.symm (Nat.le_of_ble_eq_true rfl) rfl ?_
          refine G_goto 2 dr_cX17_spill_68 (by decide +kernel) ?_
          have ac601711 : (fI (F601693 q561366) 11).toInt = p595247.toInt := by rw [he601697]; rfl
          have ac601712 : (fI (F601693 q561366) 14).toInt = p595250.toInt := by rw [he601697]; rfl
          have c9_601713 : cB (F561365 (γ0 9 3)) = f595293 := by rw [← kp601702, ← congrFun (rSk_9 hs601705) 3]; exact cB_of he601698
          have c9_601714 : cB (F601693 (γ0 9 19)) = f601696 := by rw [← congrFun (rSk_9 hs601705) 19]; exact cB_of he601700
          exact ih2_595235 P595221 F601693 γ el z601710 (gB_w bz601710 (by decide) (by decide)) hT601703 hs601705 hph595225 hB595226 (by omega) (by omega) (by omega) (by omega) (by omega) (by rw [c9_601713, c9_601714, ac601711]; exact spI_n (h2 := fun _ => 0) hf601696 (by decide) (by omega) ez601710 cq595302) pl601706 kp601702 mk601701 (by omega)
        · have r601715 : z601707.toInt ≠ 0 := gj_neq hc601708 (show Int32.toInt 0 = 0 by decide)
          have bz601707' : gB z601707 1 1 := gB_t1 bz601707 r601715
          refine G_aload_n 1 dr_cX17_spill_25 rfl ?_
          refine Gp_get 17 hm595241 he601697 dr_cX17_spill_26 (gk_X17 D I) (Nat.le_of_ble_eq_true rfl) wr_7_91 rfl ?_
          refine G_iload_n 0 dr_cX17_spill_29 rfl ?_
          refine Gp_iald 0 hm595299 he601699 dr_cX17_spill_30 rfl (gB_in bg595220' (by decide) (by decide)) (G_nam fun z601716 hz601716 => ?_)
          have bz601716 : gB z601716 (-1) 31 := by rw [hz601716]; exact bf595301 _
          refine G_if_lt 37 dr_cX17_spill_31 (by decide +kernel) (fun hc601717 => ?_) (fun hc601717 => ?_)
          · have r601718 : z601716.toInt < 0 := gj_lt hc601717 (show Int32.toInt 0 = 0 by decide)
            have bz601716' : gB z601716 (-1) (-1) := ⟨by omega, by omega⟩
            refine G_iload_n 0 dr_cX17_spill_37 rfl ?_
            refine G_bipush 100 dr_cX17_spill_38 (by decide +kernel) ?_
            refine G_icmp_lt 45 dr_cX17_spill_40 (by decide +kernel) (fun hc601719 => ?_) (fun hc601719 => ?_)
            · have r601720 : g595220.toInt < 100 := gj_lt hc601719 (show Int32.toInt 100 = 100 by decide)
              have bg595220'' : gB g595220 0 99 := ⟨by omega, by omega⟩
              refine G_aload_n 1 dr_cX17_spill_45 rfl ?_
              refine Gp_get 19 hm595241 he601697 dr_cX17_spill_46 (gk_X17 D I) (Nat.le_of_ble_eq_true rfl) wr_7_93 rfl ?_
              refine G_iload_n 0 dr_cX17_spill_49 rfl ?_
              refine G_aload_n 1 dr_cX17_spill_50 rfl ?_
              refine Gp_get 11 hm595241 he601697 dr_cX17_spill_51 (gk_X17 D I) (Nat.le_of_ble_eq_true rfl) wr_7_85 rfl ?_
              refine Gp_iast 0 hm595295 he601700 dr_cX17_spill_54 rfl (gB_in bg595220'' (by decide) (by decide)) (fun F601721 e601722 n601723 => ?_)
              obtain ⟨f601724, hf601724⟩ : ∃ z, z = upd f601696 g595220.toNatClampNeg p595247 := ⟨_, rfl⟩
              rw [← hf601724] at e601722
              have he601725 : F601721 q561366 = .inr (22, [.ref (γ 9 0), .ref (γ 9 1), .ref (γ 9 2), .ref (γ 9 3), .ref (γ 9 4), .ref (γ 9 5), .ref (γ 9 6), .ref (γ 9 7), .ref (γ 9 8), .int p595245, .int p595246, .int p595247, .int p595248, .int p595249, .int p595250, .ref (γ 9 15), .ref (γ 9 16), .ref (γ 9 17), .ref (γ 9 18), .ref (γ 9 19), .ref (γ 9 20), .ref (γ 9 21), .ref (γ 9 22), .int p595251, .int p595252, .int p595253, .int p595254, .int p595255, .ref q595243, .ref (γ 9 29), .int p595256, .ref (γ 9 31), .int p595257, .int p595258, .int p595259, .ref q595244]) := (n601723 q561366 (rn_oa he601697 he601700)).trans he601697
              have he601726 : F601721 (γ 9 3) = .inl (I .boolean, 2000, .inl f595293) := (n601723 (γ 9 3) (rn_ty ht595265 ht595275 (by decide))).trans he601698
              have he601727 : F601721 (γ 9 17) = .inl (I .int, 2000, .inl f595301) := (n601723 (γ 9 17) (rn_ty ht595273 ht595275 (by decide))).trans he601699
              have he601728 : F601721 (γ 9 19) = .inl (I .int, 2000, .inl f601724) := e601722
              have mk601729 : mKp (F561365 q561366) (F601721 q561366) := mKp_tr mk601701 (mKp_eq (n601723 q561366 (rn_ty ht595237 ht595275 (by decide))))
              have kp601730 : F601721 (γ0 9 3) = F561365 (γ0 9 3) := (n601723 (γ0 9 3) (rn_ty (rSk_k hs601705 k0_3 (by decide) (by decide)) ht595275 (by decide))).trans kp601702
              have bf601724 : gF f601724 (-1) 1999 := gF_upd hf601724 bf601696 (gB_w bp595247 (by decide) (by decide))
              have cq601731 := spI_s (r1 := g595220.toInt + 1) (s1 := p595247.toInt + 1) hf601696 hf601724 rfl (by omega) (by omega) rfl (by omega) (sd_of hz601707 (by omega) (by omega) (by omega)) rfl cq595302
              have r601732 := cq601731.2
              have r601733 := cq595302.1
              have r601734 := x561371
              rw [c9_595294] at r601734
              have bp595247' : gB p595247 0 99 := ⟨by omega, by omega⟩
              refine G_aload_n 1 dr_cX17_spill_55 rfl ?_
              refine G_dup dr_cX17_spill_56 rfl ?_
              refine Gp_get 11 hm595241 he601725 dr_cX17_spill_57 (gk_X17 D I) (Nat.le_of_ble_eq_true rfl) wr_7_85 rfl ?_
              refine G_iconst 1 dr_cX17_spill_60 (by decide +kernel) ?_
              refine G_iadd dr_cX17_spill_61 (G_nam fun z601735 hz601735 => ?_)
              have ez601735 : z601735.toInt = p595247.toInt + 1 := by rw [gI_add hz601735 bp595247' (gBl (show Int32.toInt 1 = 1 by decide)) (by decide) (by decide), show Int32.toInt 1 = 1 from by decide]
              have bz601735 : gB z601735 1 100 := gB_add (gI_add hz601735 bp595247' (gBl (show Int32.toInt 1 = 1 by decide)) (by decide) (by decide)) bp595247' (gBl (show Int32.toInt 1 = 1 by decide)) (by decide) (by decide)
              have hT601736 : RS D I P595221 F601721 γ el := RS_set hT601703 n601723 ht595275 (by decide) ⟨f601724, he601728, bf601724⟩
              have of601737 : ∀ b, b ≠ (γ 9 19) → F601721 b = F595222 b := fun b hb => (n601723 b hb).trans (n601695 b hb)
              have hs601738 := rSk_put hs601705 hT601736 n601723 ht595275 (by decide) (by decide)
              refine Gp_put 11 hm595241 he601725 dr_cX17_spill_62 (gk_X17 D I) (Nat.le_of_ble_eq_true rfl) wr_7_85 rfl rfl rfl (Nat.le_of_ble_eq_true rfl) (fun F601739 e601740 n601741 => ?_)
              have he601742 : F601739 (γ 9 3) = .inl (I .boolean, 2000, .inl f595293) := (n601741 (γ 9 3) (rn_ao he601726 he601725)).trans he601726
              have he601743 : F601739 (γ 9 19) = .inl (I .int, 2000, .inl f601724) := (n601741 (γ 9 19) (rn_ao he601728 he601725)).trans he601728
              have he601744 : F601739 (γ 9 17) = .inl (I .int, 2000, .inl f595301) := (n601741 (γ 9 17) (rn_ao he601727 he601725)).trans he601727
              have he601745 : F601739 q561366 = .inr (22, [.ref (γ 9 0), .ref (γ 9 1), .ref (γ 9 2), .ref (γ 9 3), .ref (γ 9 4), .ref (γ 9 5), .ref (γ 9 6), .ref (γ 9 7), .ref (γ 9 8), .int p595245, .int p595246, .int z601735, .int p595248, .int p595249, .int p595250, .ref (γ 9 15), .ref (γ 9 16), .ref (γ 9 17), .ref (γ 9 18), .ref (γ 9 19), .ref (γ 9 20), .ref (γ 9 21), .ref (γ 9 22), .int p595251, .int p595252, .int p595253, .int p595254, .int p595255, .ref q595243, .ref (γ 9 29), .int p595256, .ref (γ 9 31), .int p595257, .int p595258, .int p595259, .ref q595244]) := e601740
              have mk601746 : mKp (F561365 q561366) (F601739 q561366) := mKp_tr mk601729 (by rw [he601725, he601745]; exact ⟨rfl, rfl⟩)
              have kp601747 : F601739 (γ0 9 3) = F561365 (γ0 9 3) := (n601741 (γ0 9 3) (rn_ty (rSk_k hs601738 k0_3 (by decide) (by decide)) ht595237 (by decide))).trans kp601730
              have kp601748 : F601739 (γ0 9 19) = F601721 (γ0 9 19) := n601741 (γ0 9 19) (rn_ty (rSk_k hs601738 k0_19 (by decide) (by decide)) ht595237 (by decide))
              have hT601749 : RS D I P595221 F601739 γ el := RS_set hT601736 n601741 ht595237 (by decide) ⟨q595243, q595244, p595245, p595246, z601735, p595248, p595249, p595250, p595251, p595252, p595253, p595254, p595255, p595256, p595257, p595258, p595259, he601745, ⟨(hB595286.1), (hB595286.2.1), (gB_w bz601735 (by decide) (by decide)), bp595250, (hB595286.2.2.2.2.1), (hB595286.2.2.2.2.2.1), (hB595286.2.2.2.2.2.2.1), (hB595286.2.2.2.2.2.2.2.1), (hB595286.2.2.2.2.2.2.2.2)⟩, ht595260, ht595261, ht595262, ht595263, ht595264, ht595265, ht595266, ht595267, ht595268, ht595269, ht595270, ht595271, ht595272, ht595273, ht595274, ht595275, ht595276, ht595277, ht595278, ht595279, ht595280, ht595281, ht595282, ht595283, hB595287⟩
              have hs601751 := rSk_put hs601738 hT601749 n601741 ht595237 (by decide) (by decide)
              have pl601752 := rPl_fr hT601736 ht595238 hf595239 pl601706 (fun b hb _ => n601741 b (rn_ty (show rKd γ b 1 from hb) ht595237 (by decide)))
              obtain ⟨z601753, hz601753⟩ : ∃ z : Int32, z = g595220 + Int32.ofInt 1 := ⟨_, rfl⟩
              have ez601753 : z601753.toInt = g595220.toInt + 1 := gI_inc hz601753 (by decide) bg595220'' (by decide) (by decide)
              have bz601753 : gB z601753 1 100 := ⟨by omega, by omega⟩
              refine G_iinc (L' := [(2, .int z601753), (0, .ref q561366), (1, .ref q561367)]) z601753 0 dr_cX17_spill_65 rfl hz601753.symm (Nat.le_of_ble_eq_true rfl) rfl ?_
              refine G_goto 2 dr_cX17_spill_68 (by decide +kernel) ?_
              have ac601754 : (fI (F601739 q561366) 11).toInt = z601735.toInt := by rw [he601745]; rfl
              have ac601755 : (fI (F601739 q561366) 14).toInt = p595250.toInt := by rw [he601745]; rfl
              have c9_601756 : cB (F561365 (γ0 9 3)) = f595293 := by rw [← kp601747, ← congrFun (rSk_9 hs601751) 3]; exact cB_of he601742
              have c9_601757 : cB (F601739 (γ0 9 19)) = f601724 := by rw [← congrFun (rSk_9 hs601751) 19]; exact cB_of he601743
              exact ih2_595235 P595221 F601739 γ el z601753 (gB_w bz601753 (by decide) (by decide)) hT601749 hs601751 hph595225 hB595226 (by omega) (by omega) (by omega) (by omega) (by omega) (by rw [c9_601756, c9_601757, ac601754, ez601753, ez601735]; exact cq601731.1) pl601752 kp601747 mk601746 (by omega)
            · have r601758 : 100 ≤ g595220.toInt := gj_nlt hc601719 (show Int32.toInt 100 = 100 by decide)
              have bg595220'' : gB g595220 100 1999 := ⟨by omega, by omega⟩
              refine G_iconst 0 dr_cX17_spill_43 (by decide +kernel) ?_
              exact G_zretA FieldType.boolean dr_cX17_spill_44 rfl rfl (show ((rPh γ el f - rPh γ0 el0 f) / 18) ≤ (((387 * B + 6000) - rPh γ0 el0 f) / 18) by omega) (show (rPh γ el f - rPh γ0 el0 f) ≤ ((387 * B + 6000) - rPh γ0 el0 f) by omega) ⟨P595221, F601693, γ, el, 0, rfl, rfl, hs601705, ⟨by omega, by omega⟩, hB595226, (gB_w (gBl (show Int32.toInt 0 = 0 by decide)) (by decide) (by decide)), (by have qa0 : Int32.toInt 0 = 0 := (by decide); omega), (Or.inl (by decide)), kp601702, mk601701⟩
          · have r601759 : 0 ≤ z601716.toInt := gj_nlt hc601717 (show Int32.toInt 0 = 0 by decide)
            have bz601716' : gB z601716 0 31 := ⟨by omega, by omega⟩
            refine G_goto 65 dr_cX17_spill_34 (by decide +kernel) ?_
            obtain ⟨z601760, hz601760⟩ : ∃ z : Int32, z = g595220 + Int32.ofInt 1 := ⟨_, rfl⟩
            have ez601760 : z601760.toInt = g595220.toInt + 1 := gI_inc hz601760 (by decide) bg595220' (by decide) (by decide)
            have bz601760 : gB z601760 1 2000 := ⟨by omega, by omega⟩
            refine G_iinc (L' := [(2, .int z601760), (0, .ref q561366), (1, .ref q561367)]) z601760 0 dr_cX17_spill_65 rfl hz601760.symm (Nat.le_of_ble_eq_true rfl) rfl ?_
            refine G_goto 2 dr_cX17_spill_68 (by decide +kernel) ?_
            have ac601761 : (fI (F601693 q561366) 11).toInt = p595247.toInt := by rw [he601697]; rfl
            have ac601762 : (fI (F601693 q561366) 14).toInt = p595250.toInt := by rw [he601697]; rfl
            have c9_601763 : cB (F561365 (γ0 9 3)) = f595293 := by rw [← kp601702, ← congrFun (rSk_9 hs601705) 3]; exact cB_of he601698
            have c9_601764 : cB (F601693 (γ0 9 19)) = f601696 := by rw [← congrFun (rSk_9 hs601705) 19]; exact cB_of he601700
            exact ih2_595235 P595221 F601693 γ el z601760 (gB_w bz601760 (by decide) (by decide)) hT601703 hs601705 hph595225 hB595226 (by omega) (by omega) (by omega) (by omega) (by omega) (by rw [c9_601763, c9_601764, ac601761]; exact spI_n (h2 := fun _ => 0) hf601696 (by decide) (by omega) ez601760 cq595302) pl601706 kp601702 mk601701 (by omega)
  exact hlp2_595235 (((2001 : Int) - 0).toNat + 1) P561364 F561365 γ el 0 (gB_w (gBl (show Int32.toInt 0 = 0 by decide)) (by decide) (by decide)) hT hst hph hB (by have qa0 : Int32.toInt 0 = 0 := (by decide); omega) (by have qa0 : Int32.toInt 0 = 0 := (by decide); omega) (by have qa0 : Int32.toInt 0 = 0 := (by decide); omega) (by have qa0 : Int32.toInt 0 = 0 := (by decide); omega) (by have qa0 : Int32.toInt 0 = 0 := (by decide); omega) (by have qa : Int32.toInt 0 = 0 := (by decide); rw [qa]; exact spI_0) (by rw [hγ0, hel0]; exact x561372) rfl mKp_rf (Nat.lt_succ_self _)
