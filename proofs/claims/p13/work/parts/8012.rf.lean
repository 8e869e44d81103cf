theorem dr_cX17_spill_0 : decode cX17_spill 0 = .ok (.iconst 0, 1) := by decide +kernel
theorem dr_cX17_spill_1 : decode cX17_spill 1 = .ok (.istore_n 2, 1) := by decide +kernel
theorem dr_cX17_spill_2 : decode cX17_spill 2 = .ok (.iload_n 2, 1) := by decide +kernel
theorem dr_cX17_spill_3 : decode cX17_spill 3 = .ok (.sipush 2000, 3) := by decide +kernel
theorem dr_cX17_spill_6 : decode cX17_spill 6 = .ok (.if_icmp .ge 65, 3) := by decide +kernel
theorem dr_cX17_spill_71 : decode cX17_spill 71 = .ok (.iconst 0, 1) := by decide +kernel
theorem dr_cX17_spill_72 : decode cX17_spill 72 = .ok (.istore_n 2, 1) := by decide +kernel
theorem dr_cX17_spill_73 : decode cX17_spill 73 = .ok (.iload_n 2, 1) := by decide +kernel
theorem dr_cX17_spill_74 : decode cX17_spill 74 = .ok (.aload_n 1, 1) := by decide +kernel
theorem dr_cX17_spill_75 : decode cX17_spill 75 = .ok (.invokevirtual 96, 3) := by decide +kernel
theorem dr_cX17_spill_78 : decode cX17_spill 78 = .ok (.if_icmp .ge 353, 3) := by decide +kernel
theorem dr_cX17_spill_431 : decode cX17_spill 431 = .ok (.aload_n 1, 1) := by decide +kernel
theorem dr_cX17_spill_432 : decode cX17_spill 432 = .ok (.invokevirtual 234, 3) := by decide +kernel
theorem dr_cX17_spill_435 : decode cX17_spill 435 = .ok (.sipush 4000, 3) := by decide +kernel
theorem dr_cX17_spill_438 : decode cX17_spill 438 = .ok (.if_icmp .gt 7, 3) := by decide +kernel
theorem dr_cX17_spill_445 : decode cX17_spill 445 = .ok (.iconst 0, 1) := by decide +kernel
theorem dr_cX17_spill_446 : decode cX17_spill 446 = .ok (.ireturn, 1) := by decide +kernel
theorem dr_cX17_spill_441 : decode cX17_spill 441 = .ok (.iconst 1, 1) := by decide +kernel
theorem dr_cX17_spill_442 : decode cX17_spill 442 = .ok (.goto 4, 3) := by decide +kernel
theorem dr_cX17_spill_81 : decode cX17_spill 81 = .ok (.aload_n 1, 1) := by decide +kernel
theorem dr_cX17_spill_82 : decode cX17_spill 82 = .ok (.iload_n 2, 1) := by decide +kernel
theorem dr_cX17_spill_83 : decode cX17_spill 83 = .ok (.invokevirtual 101, 3) := by decide +kernel
theorem dr_cX17_spill_86 : decode cX17_spill 86 = .ok (.astore_n 3, 1) := by decide +kernel
theorem dr_cX17_spill_87 : decode cX17_spill 87 = .ok (.iconst 0, 1) := by decide +kernel
theorem dr_cX17_spill_88 : decode cX17_spill 88 = .ok (.istore 4, 2) := by decide +kernel
theorem dr_cX17_spill_90 : decode cX17_spill 90 = .ok (.iload 4, 2) := by decide +kernel
theorem dr_cX17_spill_92 : decode cX17_spill 92 = .ok (.aload_n 3, 1) := by decide +kernel
theorem dr_cX17_spill_93 : decode cX17_spill 93 = .ok (.getfield 117, 3) := by decide +kernel
theorem dr_cX17_spill_96 : decode cX17_spill 96 = .ok (.invokevirtual 121, 3) := by decide +kernel
theorem dr_cX17_spill_99 : decode cX17_spill 99 = .ok (.if_icmp .gt 326, 3) := by decide +kernel
theorem dr_cX17_spill_425 : decode cX17_spill 425 = .ok (.iinc 2 1, 3) := by decide +kernel
theorem dr_cX17_spill_428 : decode cX17_spill 428 = .ok (.goto (-355), 3) := by decide +kernel
theorem dr_cX17_spill_292 : decode cX17_spill 292 = .ok (.aload 5, 2) := by decide +kernel
theorem dr_cX17_spill_294 : decode cX17_spill 294 = .ok (.invokevirtual 48, 3) := by decide +kernel
theorem dr_cX17_spill_297 : decode cX17_spill 297 = .ok (.ifCond .eq 122, 3) := by decide +kernel
theorem dr_cX17_spill_419 : decode cX17_spill 419 = .ok (.iinc 4 1, 3) := by decide +kernel
theorem dr_cX17_spill_422 : decode cX17_spill 422 = .ok (.goto (-332), 3) := by decide +kernel
theorem dr_cX17_spill_300 : decode cX17_spill 300 = .ok (.aload 5, 2) := by decide +kernel
theorem dr_cX17_spill_302 : decode cX17_spill 302 = .ok (.getfield 39, 3) := by decide +kernel
theorem dr_cX17_spill_305 : decode cX17_spill 305 = .ok (.bipush 21, 2) := by decide +kernel
theorem dr_cX17_spill_307 : decode cX17_spill 307 = .ok (.if_icmp .eq 112, 3) := by decide +kernel
theorem dr_cX17_spill_310 : decode cX17_spill 310 = .ok (.aload_n 0, 1) := by decide +kernel
theorem dr_cX17_spill_311 : decode cX17_spill 311 = .ok (.getfield 221, 3) := by decide +kernel
theorem dr_cX17_spill_314 : decode cX17_spill 314 = .ok (.aload 5, 2) := by decide +kernel
theorem dr_cX17_spill_316 : decode cX17_spill 316 = .ok (.getfield 52, 3) := by decide +kernel
theorem dr_cX17_spill_319 : decode cX17_spill 319 = .ok (.iaload, 1) := by decide +kernel
theorem dr_cX17_spill_320 : decode cX17_spill 320 = .ok (.ifCond .ge 6, 3) := by decide +kernel
theorem dr_cX17_spill_326 : decode cX17_spill 326 = .ok (.aload_n 0, 1) := by decide +kernel
theorem dr_cX17_spill_327 : decode cX17_spill 327 = .ok (.getfield 221, 3) := by decide +kernel
theorem dr_cX17_spill_330 : decode cX17_spill 330 = .ok (.aload 5, 2) := by decide +kernel
theorem dr_cX17_spill_332 : decode cX17_spill 332 = .ok (.getfield 52, 3) := by decide +kernel
theorem dr_cX17_spill_335 : decode cX17_spill 335 = .ok (.iaload, 1) := by decide +kernel
theorem dr_cX17_spill_336 : decode cX17_spill 336 = .ok (.istore 8, 2) := by decide +kernel
theorem dr_cX17_spill_338 : decode cX17_spill 338 = .ok (.aload_n 0, 1) := by decide +kernel
theorem dr_cX17_spill_339 : decode cX17_spill 339 = .ok (.getfield 231, 3) := by decide +kernel
theorem dr_cX17_spill_342 : decode cX17_spill 342 = .ok (.sipush 2000, 3) := by decide +kernel
theorem dr_cX17_spill_345 : decode cX17_spill 345 = .ok (.if_icmp .ne 5, 3) := by decide +kernel
theorem dr_cX17_spill_350 : decode cX17_spill 350 = .ok (.aload 5, 2) := by decide +kernel
theorem dr_cX17_spill_352 : decode cX17_spill 352 = .ok (.aload_n 0, 1) := by decide +kernel
theorem dr_cX17_spill_353 : decode cX17_spill 353 = .ok (.getfield 231, 3) := by decide +kernel
theorem dr_cX17_spill_356 : decode cX17_spill 356 = .ok (.putfield 52, 3) := by decide +kernel
theorem dr_cX17_spill_359 : decode cX17_spill 359 = .ok (.aload_n 0, 1) := by decide +kernel
theorem dr_cX17_spill_360 : decode cX17_spill 360 = .ok (.dup, 1) := by decide +kernel
theorem dr_cX17_spill_361 : decode cX17_spill 361 = .ok (.getfield 231, 3) := by decide +kernel
theorem dr_cX17_spill_364 : decode cX17_spill 364 = .ok (.iconst 1, 1) := by decide +kernel
theorem dr_cX17_spill_365 : decode cX17_spill 365 = .ok (.iadd, 1) := by decide +kernel
theorem dr_cX17_spill_366 : decode cX17_spill 366 = .ok (.putfield 231, 3) := by decide +kernel
theorem dr_cX17_spill_369 : decode cX17_spill 369 = .ok (.aload_n 1, 1) := by decide +kernel
theorem dr_cX17_spill_370 : decode cX17_spill 370 = .ok (.invokevirtual 177, 3) := by decide +kernel
theorem dr_cX17_spill_373 : decode cX17_spill 373 = .ok (.astore 9, 2) := by decide +kernel
theorem dr_cX17_spill_375 : decode cX17_spill 375 = .ok (.aload 9, 2) := by decide +kernel
theorem dr_cX17_spill_377 : decode cX17_spill 377 = .ok (.bipush 23, 2) := by decide +kernel
theorem dr_cX17_spill_379 : decode cX17_spill 379 = .ok (.putfield 39, 3) := by decide +kernel
theorem dr_cX17_spill_382 : decode cX17_spill 382 = .ok (.aload 9, 2) := by decide +kernel
theorem dr_cX17_spill_384 : decode cX17_spill 384 = .ok (.iload 8, 2) := by decide +kernel
theorem dr_cX17_spill_386 : decode cX17_spill 386 = .ok (.putfield 45, 3) := by decide +kernel
theorem dr_cX17_spill_389 : decode cX17_spill 389 = .ok (.aload 9, 2) := by decide +kernel
theorem dr_cX17_spill_391 : decode cX17_spill 391 = .ok (.aload 5, 2) := by decide +kernel
theorem dr_cX17_spill_393 : decode cX17_spill 393 = .ok (.getfield 52, 3) := by decide +kernel
theorem dr_cX17_spill_396 : decode cX17_spill 396 = .ok (.putfield 73, 3) := by decide +kernel
theorem dr_cX17_spill_399 : decode cX17_spill 399 = .ok (.aload 9, 2) := by decide +kernel
theorem dr_cX17_spill_401 : decode cX17_spill 401 = .ok (.iconst 1, 1) := by decide +kernel
theorem dr_cX17_spill_402 : decode cX17_spill 402 = .ok (.putfield 141, 3) := by decide +kernel
theorem dr_cX17_spill_405 : decode cX17_spill 405 = .ok (.iinc 4 1, 3) := by decide +kernel
theorem dr_cX17_spill_408 : decode cX17_spill 408 = .ok (.aload_n 3, 1) := by decide +kernel
theorem dr_cX17_spill_409 : decode cX17_spill 409 = .ok (.getfield 117, 3) := by decide +kernel
theorem dr_cX17_spill_412 : decode cX17_spill 412 = .ok (.iload 4, 2) := by decide +kernel
theorem dr_cX17_spill_414 : decode cX17_spill 414 = .ok (.aload 9, 2) := by decide +kernel
theorem dr_cX17_spill_416 : decode cX17_spill 416 = .ok (.invokevirtual 181, 3) := by decide +kernel
theorem dr_cX17_spill_348 : decode cX17_spill 348 = .ok (.iconst 0, 1) := by decide +kernel
theorem dr_cX17_spill_349 : decode cX17_spill 349 = .ok (.ireturn, 1) := by decide +kernel
theorem dr_cX17_spill_323 : decode cX17_spill 323 = .ok (.goto 96, 3) := by decide +kernel
theorem dr_cX17_spill_236 : decode cX17_spill 236 = .ok (.iload 7, 2) := by decide +kernel
theorem dr_cX17_spill_238 : decode cX17_spill 238 = .ok (.ifCond .lt 54, 3) := by decide +kernel
theorem dr_cX17_spill_241 : decode cX17_spill 241 = .ok (.iload 7, 2) := by decide +kernel
theorem dr_cX17_spill_243 : decode cX17_spill 243 = .ok (.iload 6, 2) := by decide +kernel
theorem dr_cX17_spill_245 : decode cX17_spill 245 = .ok (.if_icmp .eq 47, 3) := by decide +kernel
theorem dr_cX17_spill_248 : decode cX17_spill 248 = .ok (.aload_n 0, 1) := by decide +kernel
theorem dr_cX17_spill_249 : decode cX17_spill 249 = .ok (.getfield 221, 3) := by decide +kernel
theorem dr_cX17_spill_252 : decode cX17_spill 252 = .ok (.iload 7, 2) := by decide +kernel
theorem dr_cX17_spill_254 : decode cX17_spill 254 = .ok (.iaload, 1) := by decide +kernel
theorem dr_cX17_spill_255 : decode cX17_spill 255 = .ok (.ifCond .lt 37, 3) := by decide +kernel
theorem dr_cX17_spill_258 : decode cX17_spill 258 = .ok (.aload_n 0, 1) := by decide +kernel
theorem dr_cX17_spill_259 : decode cX17_spill 259 = .ok (.aload_n 1, 1) := by decide +kernel
theorem dr_cX17_spill_260 : decode cX17_spill 260 = .ok (.aload_n 3, 1) := by decide +kernel
theorem dr_cX17_spill_261 : decode cX17_spill 261 = .ok (.iload 4, 2) := by decide +kernel
theorem dr_cX17_spill_263 : decode cX17_spill 263 = .ok (.aload_n 0, 1) := by decide +kernel
theorem dr_cX17_spill_264 : decode cX17_spill 264 = .ok (.getfield 221, 3) := by decide +kernel
theorem dr_cX17_spill_267 : decode cX17_spill 267 = .ok (.iload 7, 2) := by decide +kernel
theorem dr_cX17_spill_269 : decode cX17_spill 269 = .ok (.iaload, 1) := by decide +kernel
theorem dr_cX17_spill_270 : decode cX17_spill 270 = .ok (.invokevirtual 227, 3) := by decide +kernel
theorem wr_11_67 : (Jvm.Cond.methodLink "SpillForgeModel" (227 : Nat) ({ cls := "SpillForgeModel", name := "load", desc := "(LSpillForgeModel$Code;LSpillForgeModel$Block;II)I" } : Jvm.MethodName)) ∈ gw := gw_11 67 rfl rfl
theorem wr_11_70 : (Jvm.Cond.code ({ cls := "SpillForgeModel", name := "load", desc := "(LSpillForgeModel$Code;LSpillForgeModel$Block;II)I" } : Jvm.MethodName) prog_14_method_23_code (6 : Nat) (Option.some Jvm.ClassFile.FieldType.int)) ∈ gw := gw_11 70 rfl rfl
theorem wr_11_69 : (Jvm.Cond.instanceMethod ({ cls := "SpillForgeModel", name := "load", desc := "(LSpillForgeModel$Code;LSpillForgeModel$Block;II)I" } : Jvm.MethodName)) ∈ gw := gw_11 69 rfl rfl
theorem wr_p_111 : Cond.selects "SpillForgeModel" ⟨"SpillForgeModel", "load", "(LSpillForgeModel$Code;LSpillForgeModel$Block;II)I"⟩ ⟨"SpillForgeModel", "load", "(LSpillForgeModel$Code;LSpillForgeModel$Block;II)I"⟩ ∈ gw := gw_p _ 111 rfl rfl rfl
theorem dr_cX17_spill_273 : decode cX17_spill 273 = .ok (.istore 8, 2) := by decide +kernel
theorem dr_cX17_spill_275 : decode cX17_spill 275 = .ok (.iload 8, 2) := by decide +kernel
theorem dr_cX17_spill_277 : decode cX17_spill 277 = .ok (.ifCond .ge 5, 3) := by decide +kernel
theorem dr_cX17_spill_282 : decode cX17_spill 282 = .ok (.iinc 4 1, 3) := by decide +kernel
theorem dr_cX17_spill_285 : decode cX17_spill 285 = .ok (.aload 5, 2) := by decide +kernel
theorem dr_cX17_spill_287 : decode cX17_spill 287 = .ok (.iload 8, 2) := by decide +kernel
theorem dr_cX17_spill_289 : decode cX17_spill 289 = .ok (.putfield 79, 3) := by decide +kernel
theorem dr_cX17_spill_280 : decode cX17_spill 280 = .ok (.iconst 0, 1) := by decide +kernel
theorem dr_cX17_spill_281 : decode cX17_spill 281 = .ok (.ireturn, 1) := by decide +kernel
theorem dr_cX17_spill_102 : decode cX17_spill 102 = .ok (.iload 4, 2) := by decide +kernel
theorem dr_cX17_spill_104 : decode cX17_spill 104 = .ok (.aload_n 3, 1) := by decide +kernel
theorem dr_cX17_spill_105 : decode cX17_spill 105 = .ok (.getfield 117, 3) := by decide +kernel
theorem dr_cX17_spill_108 : decode cX17_spill 108 = .ok (.invokevirtual 121, 3) := by decide +kernel
theorem dr_cX17_spill_111 : decode cX17_spill 111 = .ok (.if_icmp .ge 18, 3) := by decide +kernel
theorem dr_cX17_spill_129 : decode cX17_spill 129 = .ok (.aload_n 3, 1) := by decide +kernel
theorem dr_cX17_spill_130 : decode cX17_spill 130 = .ok (.getfield 109, 3) := by decide +kernel
theorem dr_cX17_spill_133 : decode cX17_spill 133 = .ok (.astore 5, 2) := by decide +kernel
theorem dr_cX17_spill_135 : decode cX17_spill 135 = .ok (.aload 5, 2) := by decide +kernel
theorem dr_cX17_spill_137 : decode cX17_spill 137 = .ok (.invokevirtual 70, 3) := by decide +kernel
theorem dr_cX17_spill_140 : decode cX17_spill 140 = .ok (.ifCond .eq 11, 3) := by decide +kernel
theorem dr_cX17_spill_151 : decode cX17_spill 151 = .ok (.iconst (-1), 1) := by decide +kernel
theorem dr_cX17_spill_152 : decode cX17_spill 152 = .ok (.istore 6, 2) := by decide +kernel
theorem dr_cX17_spill_154 : decode cX17_spill 154 = .ok (.aload 5, 2) := by decide +kernel
theorem dr_cX17_spill_156 : decode cX17_spill 156 = .ok (.invokevirtual 76, 3) := by decide +kernel
theorem dr_cX17_spill_159 : decode cX17_spill 159 = .ok (.ifCond .eq 11, 3) := by decide +kernel
theorem dr_cX17_spill_170 : decode cX17_spill 170 = .ok (.iconst (-1), 1) := by decide +kernel
theorem dr_cX17_spill_171 : decode cX17_spill 171 = .ok (.istore 7, 2) := by decide +kernel
theorem dr_cX17_spill_173 : decode cX17_spill 173 = .ok (.iload 6, 2) := by decide +kernel
theorem dr_cX17_spill_175 : decode cX17_spill 175 = .ok (.ifCond .lt 61, 3) := by decide +kernel
theorem dr_cX17_spill_162 : decode cX17_spill 162 = .ok (.aload 5, 2) := by decide +kernel
theorem dr_cX17_spill_164 : decode cX17_spill 164 = .ok (.getfield 79, 3) := by decide +kernel
theorem dr_cX17_spill_167 : decode cX17_spill 167 = .ok (.goto 4, 3) := by decide +kernel
theorem dr_cX17_spill_143 : decode cX17_spill 143 = .ok (.aload 5, 2) := by decide +kernel
theorem dr_cX17_spill_145 : decode cX17_spill 145 = .ok (.getfield 73, 3) := by decide +kernel
theorem dr_cX17_spill_148 : decode cX17_spill 148 = .ok (.goto 4, 3) := by decide +kernel
theorem dr_cX17_spill_178 : decode cX17_spill 178 = .ok (.aload_n 0, 1) := by decide +kernel
theorem dr_cX17_spill_179 : decode cX17_spill 179 = .ok (.getfield 221, 3) := by decide +kernel
theorem dr_cX17_spill_182 : decode cX17_spill 182 = .ok (.iload 6, 2) := by decide +kernel
theorem dr_cX17_spill_184 : decode cX17_spill 184 = .ok (.iaload, 1) := by decide +kernel
theorem dr_cX17_spill_185 : decode cX17_spill 185 = .ok (.ifCond .lt 51, 3) := by decide +kernel
theorem dr_cX17_spill_188 : decode cX17_spill 188 = .ok (.aload_n 0, 1) := by decide +kernel
theorem dr_cX17_spill_189 : decode cX17_spill 189 = .ok (.aload_n 1, 1) := by decide +kernel
theorem dr_cX17_spill_190 : decode cX17_spill 190 = .ok (.aload_n 3, 1) := by decide +kernel
theorem dr_cX17_spill_191 : decode cX17_spill 191 = .ok (.iload 4, 2) := by decide +kernel
theorem dr_cX17_spill_193 : decode cX17_spill 193 = .ok (.aload_n 0, 1) := by decide +kernel
theorem dr_cX17_spill_194 : decode cX17_spill 194 = .ok (.getfield 221, 3) := by decide +kernel
theorem dr_cX17_spill_197 : decode cX17_spill 197 = .ok (.iload 6, 2) := by decide +kernel
theorem dr_cX17_spill_199 : decode cX17_spill 199 = .ok (.iaload, 1) := by decide +kernel
theorem dr_cX17_spill_200 : decode cX17_spill 200 = .ok (.invokevirtual 227, 3) := by decide +kernel
theorem dr_cX17_spill_203 : decode cX17_spill 203 = .ok (.istore 8, 2) := by decide +kernel
theorem dr_cX17_spill_205 : decode cX17_spill 205 = .ok (.iload 8, 2) := by decide +kernel
theorem dr_cX17_spill_207 : decode cX17_spill 207 = .ok (.ifCond .ge 5, 3) := by decide +kernel
theorem dr_cX17_spill_212 : decode cX17_spill 212 = .ok (.iinc 4 1, 3) := by decide +kernel
theorem dr_cX17_spill_215 : decode cX17_spill 215 = .ok (.aload 5, 2) := by decide +kernel
theorem dr_cX17_spill_217 : decode cX17_spill 217 = .ok (.iload 8, 2) := by decide +kernel
theorem dr_cX17_spill_219 : decode cX17_spill 219 = .ok (.putfield 73, 3) := by decide +kernel
theorem dr_cX17_spill_222 : decode cX17_spill 222 = .ok (.iload 7, 2) := by decide +kernel
theorem dr_cX17_spill_224 : decode cX17_spill 224 = .ok (.iload 6, 2) := by decide +kernel
theorem dr_cX17_spill_226 : decode cX17_spill 226 = .ok (.if_icmp .ne 10, 3) := by decide +kernel
theorem dr_cX17_spill_210 : decode cX17_spill 210 = .ok (.iconst 0, 1) := by decide +kernel
theorem dr_cX17_spill_211 : decode cX17_spill 211 = .ok (.ireturn, 1) := by decide +kernel
theorem dr_cX17_spill_229 : decode cX17_spill 229 = .ok (.aload 5, 2) := by decide +kernel
theorem dr_cX17_spill_231 : decode cX17_spill 231 = .ok (.iload 8, 2) := by decide +kernel
theorem dr_cX17_spill_233 : decode cX17_spill 233 = .ok (.putfield 79, 3) := by decide +kernel
theorem dr_cX17_spill_114 : decode cX17_spill 114 = .ok (.aload_n 3, 1) := by decide +kernel
theorem dr_cX17_spill_115 : decode cX17_spill 115 = .ok (.getfield 117, 3) := by decide +kernel
theorem dr_cX17_spill_118 : decode cX17_spill 118 = .ok (.iload 4, 2) := by decide +kernel
theorem dr_cX17_spill_120 : decode cX17_spill 120 = .ok (.invokevirtual 124, 3) := by decide +kernel
theorem dr_cX17_spill_123 : decode cX17_spill 123 = .ok (.checkcast 40, 3) := by decide +kernel
theorem dr_cX17_spill_126 : decode cX17_spill 126 = .ok (.goto 7, 3) := by decide +kernel
theorem dr_cX17_spill_9 : decode cX17_spill 9 = .ok (.aload_n 0, 1) := by decide +kernel
theorem dr_cX17_spill_10 : decode cX17_spill 10 = .ok (.getfield 221, 3) := by decide +kernel
theorem dr_cX17_spill_13 : decode cX17_spill 13 = .ok (.iload_n 2, 1) := by decide +kernel
theorem dr_cX17_spill_14 : decode cX17_spill 14 = .ok (.iconst (-1), 1) := by decide +kernel
theorem dr_cX17_spill_15 : decode cX17_spill 15 = .ok (.iastore, 1) := by decide +kernel
theorem dr_cX17_spill_16 : decode cX17_spill 16 = .ok (.aload_n 0, 1) := by decide +kernel
theorem dr_cX17_spill_17 : decode cX17_spill 17 = .ok (.getfield 131, 3) := by decide +kernel
theorem dr_cX17_spill_20 : decode cX17_spill 20 = .ok (.iload_n 2, 1) := by decide +kernel
theorem dr_cX17_spill_21 : decode cX17_spill 21 = .ok (.baload, 1) := by decide +kernel
theorem dr_cX17_spill_22 : decode cX17_spill 22 = .ok (.ifCond .eq 43, 3) := by decide +kernel
theorem dr_cX17_spill_65 : decode cX17_spill 65 = .ok (.iinc 2 1, 3) := by decide +kernel
theorem dr_cX17_spill_68 : decode cX17_spill 68 = .ok (.goto (-66), 3) := by decide +kernel
theorem dr_cX17_spill_25 : decode cX17_spill 25 = .ok (.aload_n 0, 1) := by decide +kernel
theorem dr_cX17_spill_26 : decode cX17_spill 26 = .ok (.getfield 212, 3) := by decide +kernel
theorem dr_cX17_spill_29 : decode cX17_spill 29 = .ok (.iload_n 2, 1) := by decide +kernel
theorem dr_cX17_spill_30 : decode cX17_spill 30 = .ok (.iaload, 1) := by decide +kernel
theorem dr_cX17_spill_31 : decode cX17_spill 31 = .ok (.ifCond .lt 6, 3) := by decide +kernel
theorem dr_cX17_spill_37 : decode cX17_spill 37 = .ok (.iload_n 2, 1) := by decide +kernel
theorem dr_cX17_spill_38 : decode cX17_spill 38 = .ok (.bipush 100, 2) := by decide +kernel
theorem dr_cX17_spill_40 : decode cX17_spill 40 = .ok (.if_icmp .lt 5, 3) := by decide +kernel
theorem dr_cX17_spill_45 : decode cX17_spill 45 = .ok (.aload_n 0, 1) := by decide +kernel
theorem dr_cX17_spill_46 : decode cX17_spill 46 = .ok (.getfield 221, 3) := by decide +kernel
theorem dr_cX17_spill_49 : decode cX17_spill 49 = .ok (.iload_n 2, 1) := by decide +kernel
theorem dr_cX17_spill_50 : decode cX17_spill 50 = .ok (.aload_n 0, 1) := by decide +kernel
theorem dr_cX17_spill_51 : decode cX17_spill 51 = .ok (.getfield 224, 3) := by decide +kernel
theorem dr_cX17_spill_54 : decode cX17_spill 54 = .ok (.iastore, 1) := by decide +kernel
theorem dr_cX17_spill_55 : decode cX17_spill 55 = .ok (.aload_n 0, 1) := by decide +kernel
theorem dr_cX17_spill_56 : decode cX17_spill 56 = .ok (.dup, 1) := by decide +kernel
theorem dr_cX17_spill_57 : decode cX17_spill 57 = .ok (.getfield 224, 3) := by decide +kernel
theorem dr_cX17_spill_60 : decode cX17_spill 60 = .ok (.iconst 1, 1) := by decide +kernel
theorem dr_cX17_spill_61 : decode cX17_spill 61 = .ok (.iadd, 1) := by decide +kernel
theorem dr_cX17_spill_62 : decode cX17_spill 62 = .ok (.putfield 224, 3) := by decide +kernel
theorem dr_cX17_spill_43 : decode cX17_spill 43 = .ok (.iconst 0, 1) := by decide +kernel
theorem dr_cX17_spill_44 : decode cX17_spill 44 = .ok (.ireturn, 1) := by decide +kernel
theorem dr_cX17_spill_34 : decode cX17_spill 34 = .ok (.goto 31, 3) := by decide +kernel
abbrev ky_590262_SpillForgeModel_spill : gKey := (cX17_spill, 10, "SpillForgeModel", (some FieldType.boolean), [], "spill", fun _ _ => True)
def pg_590262_SpillForgeModel_spill (D : va_G) (I : FieldType → ClassId) (γ0 el0 : Nat → Nat → Nat) (f : Nat) (B : Nat) (P590252 : List Nat) (F590253 : Nat → va_E) (q590254 : Nat) (q590255 : Nat) : Option Value → va_W → Nat → Nat → Prop := fun r w dc ds => ∃ (P632287 : List Nat) (F632288 : Nat → va_E) (γ el : Nat → Nat → Nat) (o632286 : Int32), r = some (.int o632286) ∧ w = va_pl P632287 F632288 ∧ rSk f [101] ([1, 3, 5, 6, 8, 9, 101] ++ npk) D I P590252 F590253 γ0 el0 P632287 F632288 γ el ∧ (18 * dc + rPh γ0 el0 f ≤ rPh γ el f ∧ ds + rPh γ0 el0 f ≤ rPh γ el f) ∧ rBd γ el f B ∧ gB o632286 0 1 ∧ γ 6 f = γ0 6 f ∧ (o632286.toInt = 0 ∨ (γ 6 f = γ0 6 f ∧ γ 18 f = γ0 18 f ∧ ((γ 7 f : Nat) : Int) = (fI (F632288 q590254) 11).toInt ∧ ((γ 16 f : Nat) : Int) + 2001 ≤ (B : Int) + (fI (F632288 q590254) 14).toInt ∧ 100 ≤ (fI (F632288 q590254) 14).toInt ∧ rNI γ el F632288 q590255 (γ 6 f) (fI (F632288 q590254) 11).toInt)) ∧ (F632288 (γ0 9 3) = F590253 (γ0 9 3)) ∧ mKp (F590253 q590254) (F632288 q590254) ∧ tr_RModel_spill D I γ0 el0 f P590252 F590253 q590254 q590255 o632286 P632287 F632288 γ el
set_option maxRecDepth 100000 in
set_option maxHeartbeats 20000000 in
theorem cg_590262_SpillForgeModel_spill (l : Launch) (hl0 : l.stackTraces = false) (D : va_G) (I : FieldType → ClassId) (γ0 el0 : Nat → Nat → Nat) (f : Nat) (B : Nat) (P590252 : List Nat) (F590253 : Nat → va_E) (q590254 : Nat) (q590255 : Nat) (hT0 : RS D I P590252 F590253 γ0 el0) (hzq590254 : rKd γ0 q590254 10) (hzq590255 : rKd γ0 q590255 9) (hf0 : γ0 1 q590255 = f) (hB0 : rBd γ0 el0 f B) (hBk : B ≤ 100000) (x590256 : 0 < γ0 6 f) (x590257 : ((γ0 7 f : Nat) : Int) = (fI (F590253 q590254) 11).toInt) (x590258 : ((γ0 16 f : Nat) : Int) + 2001 ≤ (B : Int) + (fI (F590253 q590254) 14).toInt) (x590259 : (fI (F590253 q590254) 11).toInt + (rcn (cB (F590253 (γ0 9 3))) 100 : Nat) ≤ 100) (x590260 : rPl γ0 el0 F590253 q590255 (γ0 6 f) (fun _ _ => rNx (rSd (cB (F590253 (γ0 9 3)))))) (x590261 : 100 ≤ (fI (F590253 q590254) 14).toInt) : CtA (gV D I) l yX17_spill cX17_spill 10 (some FieldType.boolean) 9 195 (((387 * B + 6000) - rPh γ0 el0 f) / 18) ((387 * B + 6000) - rPh γ0 el0 f) [.ref q590254, .ref q590255] (va_pl P590252 F590253) (pg_590262_SpillForgeModel_spill D I γ0 el0 f B P590252 F590253 q590254 q590255) gNA := by
  refine CtA_of hl0 (by decide) (Nat.le_of_ble_eq_true rfl) ?_
  obtain ⟨gm_0, hγ0⟩ : ∃ z, z = γ0 := ⟨_, rfl⟩
  obtain ⟨el_0, hel0⟩ : ∃ z, z = el0 := ⟨_, rfl⟩
  have hT : RS D I P590252 F590253 gm_0 el_0 := by rw [hγ0, hel0]; exact hT0
  have hst : rSk f [101] ([1, 3, 5, 6, 8, 9, 101] ++ npk) D I P590252 F590253 γ0 el0 P590252 F590253 gm_0 el_0 := by rw [hγ0, hel0]; exact rSk_rf hT0
  have hph : rPh γ0 el0 f ≤ rPh gm_0 el_0 f := by rw [hγ0, hel0]; exact Nat.le_refl _
  have hB : rBd gm_0 el_0 f B := by rw [hγ0, hel0]; exact hB0
  have htq590254 : rKd gm_0 q590254 10 := by rw [hγ0]; exact hzq590254
  have htq590255 : rKd gm_0 q590255 9 := by rw [hγ0]; exact hzq590255
  have hf1 : gm_0 1 q590255 = f := by rw [hγ0]; exact hf0
  have x590256n : 0 < gm_0 6 f := by rw [hγ0]; exact x590256
  have x590257n : ((gm_0 7 f : Nat) : Int) = (fI (F590253 q590254) 11).toInt := by rw [hγ0]; exact x590257
  have x590258n : ((gm_0 16 f : Nat) : Int) + 2001 ≤ (B : Int) + (fI (F590253 q590254) 14).toInt := by rw [hγ0]; exact x590258
  have x590259n : (fI (F590253 q590254) 11).toInt + (rcn (cB (F590253 (gm_0 9 3))) 100 : Nat) ≤ 100 := by rw [hγ0]; exact x590259
  have x590260n : rPl gm_0 el_0 F590253 q590255 (gm_0 6 f) (fun _ _ => rNx (rSd (cB (F590253 (gm_0 9 3))))) := by rw [hγ0, hel0]; exact x590260
  have pk590263 : rPh gm_0 el_0 f ≤ 387 * B + 6000 := rm_pk (rM_ge hT htq590255 hf1).1 (rM_bd hB)
  refine G_widen (cs' := ((rPh gm_0 el_0 f - rPh γ0 el0 f) / 18)) (sl' := (rPh gm_0 el_0 f - rPh γ0 el0 f)) (Nat.zero_le _) (Nat.zero_le _) ?_
  have lz0 : Int32.toInt 0 = 0 := by decide
  have r590264 : gm_0 6 f = γ0 6 f := by rw [hγ0]
  have r590265 : gm_0 7 f = γ0 7 f := by rw [hγ0]
  have r590266 : gm_0 16 f = γ0 16 f := by rw [hγ0]
  have r590267 : gm_0 18 f = γ0 18 f := by rw [hγ0]
  have r590268 : gm_0 19 f = γ0 19 f := by rw [hγ0]
  have hm590269 : q590254 ∈ P590252 := RS_m hT htq590254 (by decide)
  refine rk10_e (show rk_10 gm_0 (F590253 q590254) from RS_o hT htq590254) (fun q590271 q590272 p590273 p590274 p590275 p590276 p590277 p590278 p590279 p590280 p590281 p590282 p590283 p590284 p590285 p590286 p590287 he590270 hB590314 ht590288 ht590289 ht590290 ht590291 ht590292 ht590293 ht590294 ht590295 ht590296 ht590297 ht590298 ht590299 ht590300 ht590301 ht590302 ht590303 ht590304 ht590305 ht590306 ht590307 ht590308 ht590309 ht590310 ht590311 hB590315 => ?_)
  have ac0_11 : (fI (F590253 q590254) 11).toInt = p590275.toInt := by rw [he590270]; rfl
  have ac0_14 : (fI (F590253 q590254) 14).toInt = p590278.toInt := by rw [he590270]; rfl
  have bp590275 : gB p590275 0 100 := (hB590314.2.2.1)
  have bp590278 : gB p590278 0 2000 := (hB590314.2.2.2.1)
  have k0_3 : rKd γ0 (γ0 9 3) 14 := by rw [← hγ0]; exact ht590293
  have k0_17 : rKd γ0 (γ0 9 17) 20 := by rw [← hγ0]; exact ht590301
  have k0_19 : rKd γ0 (γ0 9 19) 21 := by rw [← hγ0]; exact ht590303
  refine G_iconst 0 dr_cX17_spill_0 (by decide +kernel) ?_
  refine G_istore_n (L' := [(2, .int 0), (0, .ref q590254), (1, .ref q590255)]) dr_cX17_spill_1 (Nat.le_of_ble_eq_true rfl) rfl ?_
  have hlp2_625441 : ∀ (n2_625441 : Nat) (P625427 : List Nat) (F625428 : Nat → va_E) (gm_F625428 el_F625428 : Nat → Nat → Nat) (g625426 : Int32), gB g625426 0 2000 → RS D I P625427 F625428 gm_F625428 el_F625428 → rSk f [101] ([1, 3, 5, 6, 8, 9, 101] ++ npk) D I P590252 F590253 γ0 el0 P625427 F625428 gm_F625428 el_F625428 → rPh γ0 el0 f ≤ rPh gm_F625428 el_F625428 f → rBd gm_F625428 el_F625428 f B → gm_F625428 6 f = γ0 6 f → gm_F625428 7 f = γ0 7 f → gm_F625428 16 f = γ0 16 f → gm_F625428 18 f = γ0 18 f → (fI (F625428 q590254) 14).toInt = (fI (F590253 q590254) 14).toInt → spI (cB (F590253 (γ0 9 3))) (cB (F625428 (γ0 9 19))) (g625426.toInt : Int).toNat (fI (F590253 q590254) 11).toInt (fI (F625428 q590254) 11).toInt → rPl gm_F625428 el_F625428 F625428 q590255 (gm_F625428 6 f) (fun _ _ => rNx (rSd (cB (F590253 (γ0 9 3))))) → (F625428 (γ0 9 3) = F590253 (γ0 9 3)) → mKp (F590253 q590254) (F625428 q590254) → (∀ (k : Nat) (e1 : Nat → va_E) (e2 : List Nat) (e3 : Nat → Nat → Nat) (e4 : Nat → Nat → Nat), tl_RModel_spill_2 D I γ0 el0 f P590252 F590253 q590254 q590255 P625427 F625428 gm_F625428 el_F625428 g625426 k e1 e2 e3 e4 → tl_RModel_spill_2 D I γ0 el0 f P590252 F590253 q590254 q590255 P590252 F590253 gm_0 el_0 (0 : Int32) k e1 e2 e3 e4) → ((2001 : Int) - g625426.toInt).toNat < n2_625441 → G (gV D I) l (gRm 9 195 (((387 * B + 6000) - rPh γ0 el0 f) / 18) ((387 * B + 6000) - rPh γ0 el0 f)) (gMA (gV D I) (pg_590262_SpillForgeModel_spill D I γ0 el0 f B P590252 F590253 q590254 q590255) gNA (((387 * B + 6000) - rPh γ0 el0 f) / 18) ((387 * B + 6000) - rPh γ0 el0 f)) ky_590262_SpillForgeModel_spill 2 [(2, .int g625426), (0, .ref q590254), (1, .ref q590255)] [] (va_pl P625427 F625428) ((rPh gm_F625428 el_F625428 f - rPh γ0 el0 f) / 18) (rPh gm_F625428 el_F625428 f - rPh γ0 el0 f) := by
    intro n2_625441
    induction n2_625441 with
    | zero => intro P625427 F625428 gm_F625428 el_F625428 g625426 bg625426 hT625429 hs625430 hph625431 hB625432 x625433 x625434 x625435 x625436 x625437 x625438 x625439 x625440 x625441 kt2_625442 hm2_625441; exact absurd hm2_625441 (Nat.not_lt_zero _)
    | succ n2_625441 ih2_625441 =>
      intro P625427 F625428 gm_F625428 el_F625428 g625426 bg625426 hT625429 hs625430 hph625431 hB625432 x625433 x625434 x625435 x625436 x625437 x625438 x625439 x625440 x625441 kt2_625442 hm2_625441
      clear r590264 r590265 r590266 r590267 r590268
      have ht625443 : rKd gm_F625428 q590254 10 := rSk_k hs625430 hzq590254 (by decide) (by decide)
      have ht625444 : rKd gm_F625428 q590255 9 := rSk_k hs625430 hzq590255 (by decide) (by decide)
      have hf625445 : gm_F625428 1 q590255 = f := rSk_1 hs625430 hzq590255 (by decide) hf0
      have pk625446 : rPh gm_F625428 el_F625428 f ≤ 387 * B + 6000 := rm_pk (rM_ge hT625429 ht625444 hf625445).1 (rM_bd hB625432)
      have hm625447 : q590254 ∈ P625427 := RS_m hT625429 ht625443 (by decide)
      refine rk10_e (show rk_10 gm_F625428 (F625428 q590254) from RS_o hT625429 ht625443) (fun q625449 q625450 p625451 p625452 p625453 p625454 p625455 p625456 p625457 p625458 p625459 p625460 p625461 p625462 p625463 p625464 p625465 he625448 hB625492 ht625466 ht625467 ht625468 ht625469 ht625470 ht625471 ht625472 ht625473 ht625474 ht625475 ht625476 ht625477 ht625478 ht625479 ht625480 ht625481 ht625482 ht625483 ht625484 ht625485 ht625486 ht625487 ht625488 ht625489 hB625493 => ?_)
      have ac625494 : (fI (F625428 q590254) 11).toInt = p625453.toInt := by rw [he625448]; rfl
      have bp625453 : gB p625453 0 100 := (hB625492.2.2.1)
      have ac625495 : (fI (F625428 q590254) 14).toInt = p625456.toInt := by rw [he625448]; rfl
      have bp625456 : gB p625456 0 2000 := (hB625492.2.2.2.1)
      have r625496 : 0 < gm_F625428 6 (gm_F625428 1 q590255) := by rw [hf625445]; omega
      have hm625497 : (gm_F625428 9 3) ∈ P625427 := RS_m hT625429 ht625471 (by decide)
      obtain ⟨f625499, he625498, bf625499⟩ := show rk_14 I (F625428 (gm_F625428 9 3)) from RS_o hT625429 ht625471
      have c9_625500 : cB (F590253 (γ0 9 3)) = f625499 := by rw [← x625440, ← congrFun (rSk_9 hs625430) 3]; exact cB_of he625498
      have hm625501 : (gm_F625428 9 19) ∈ P625427 := RS_m hT625429 ht625481 (by decide)
      obtain ⟨f625503, he625502, bf625503⟩ := show rk_21 I (F625428 (gm_F625428 9 19)) from RS_o hT625429 ht625481
      have c9_625504 : cB (F625428 (γ0 9 19)) = f625503 := by rw [← congrFun (rSk_9 hs625430) 19]; exact cB_of he625502
      have hm625505 : (gm_F625428 9 17) ∈ P625427 := RS_m hT625429 ht625479 (by decide)
      obtain ⟨f625507, he625506, bf625507⟩ := show rk_20 I (F625428 (gm_F625428 9 17)) from RS_o hT625429 ht625479
      have cq625508 := x625438
      rw [c9_625500, c9_625504, ac625494] at cq625508
      refine G_iload_n 0 dr_cX17_spill_2 rfl ?_
      refine G_sipush 2000 dr_cX17_spill_3 (by decide +kernel) ?_
      refine G_icmp_ge 71 dr_cX17_spill_6 (by decide +kernel) (fun hc625509 => ?_) (fun hc625509 => ?_)
      · have r625510 : 2000 ≤ g625426.toInt := gj_leL hc625509 (show Int32.toInt 2000 = 2000 by decide)
        have bg625426' : gB g625426 2000 2000 := ⟨by omega, by omega⟩
        have hx625511 : tl_RModel_spill_2 D I γ0 el0 f P590252 F590253 q590254 q590255 P590252 F590253 gm_0 el_0 (0 : Int32) 71 F625428 P625427 gm_F625428 el_F625428 := kt2_625442 71 F625428 P625427 gm_F625428 el_F625428 (fun R c1 c2 c3 c4 c5 => c1 P625427 F625428 gm_F625428 el_F625428 g625426 bg625426 hT625429 hs625430 x625433 x625434 x625435 x625436 x625437 x625438 x625439 x625440 x625441 r625510)
        have ac625512 : (fI (F625428 q590254) 11).toInt = p625453.toInt := by rw [he625448]; rfl
        have ac625513 : (fI (F625428 q590254) 14).toInt = p625456.toInt := by rw [he625448]; rfl
        have spi625514 := x625438
        rw [show (g625426.toInt : Int).toNat = 2000 by omega] at spi625514
        have r625515 := cq625508.1
        have hv625516 := St_slots (f := f) (n := p625453.toInt.toNat) hT625429 ht625444 hf625445 (by omega)
        obtain ⟨gm_hg625517, hg625517⟩ : ∃ z, z = gVal gm_F625428 7 f p625453.toInt.toNat := ⟨_, rfl⟩
        have fq625518 : fI (F625428 q590254) 11 = p625453 := by rw [he625448]; rfl
        rw [← hg625517] at hv625516
        have hk625519 := rSk_of hv625516.1
        have r625520 := hv625516.2.1
        have hT625521 := hk625519.1
        have hs625522 := rSk_tr hs625430 hk625519 (by decide) (by decide) (by decide)
        have kp625523 : F625428 (γ0 9 3) = F590253 (γ0 9 3) := (rSk_F hk625519 (rSk_k hs625430 k0_3 (by decide) (by decide)) (by decide) (by decide)).trans x625440
        have kp625524 : F625428 (γ0 9 19) = F625428 (γ0 9 19) := rSk_F hk625519 (rSk_k hs625430 k0_19 (by decide) (by decide)) (by decide) (by decide)
        have r625525 := rSk_F hk625519 ht625443 (by decide) (by decide)
        have ht625526 : rKd gm_hg625517 q590254 10 := rSk_k hk625519 ht625443 (by decide) (by decide)
        have ht625527 : rKd gm_hg625517 q590255 9 := rSk_k hk625519 ht625444 (by decide) (by decide)
        have hf625528 : gm_hg625517 1 q590255 = f := rSk_1 hk625519 ht625444 (by decide) hf625445
        have mk625529 : mKp (F590253 q590254) (F625428 q590254) := mKp_tr x625441 (mKp_eq (rSk_F hk625519 ht625443 (by decide) (by decide)))
        have hm625530 : q590254 ∈ P625427 := RS_m hT625521 ht625526 (by decide)
        refine rk10_e (show rk_10 gm_hg625517 (F625428 q590254) from RS_o hT625521 ht625526) (fun q625532 q625533 p625534 p625535 p625536 p625537 p625538 p625539 p625540 p625541 p625542 p625543 p625544 p625545 p625546 p625547 p625548 he625531 hB625575 ht625549 ht625550 ht625551 ht625552 ht625553 ht625554 ht625555 ht625556 ht625557 ht625558 ht625559 ht625560 ht625561 ht625562 ht625563 ht625564 ht625565 ht625566 ht625567 ht625568 ht625569 ht625570 ht625571 ht625572 hB625576 => ?_)
        have r625577 : p625536.toInt = p625453.toInt := by have z : p625536 = p625453 := congrArg (fun e => fI e 11) (he625531.symm.trans (r625525.trans he625448)); rw [z]
        have bp625536 : gB p625536 0 100 := (hB625575.2.2.1)
        have r625578 : p625539.toInt = p625456.toInt := by have z : p625539 = p625456 := congrArg (fun e => fI e 14) (he625531.symm.trans (r625525.trans he625448)); rw [z]
        have bp625539 : gB p625539 0 2000 := (hB625575.2.2.2.1)
        have hB625579 : rBd gm_hg625517 el_F625428 f B := hv625516.2.2.2 B hB625432
        have hph625580 : rPh γ0 el0 f ≤ rPh gm_hg625517 el_F625428 f := by rw [r625520]; exact hph625431
        have pk625581 : rPh gm_hg625517 el_F625428 f ≤ 387 * B + 6000 := rm_pk (rM_ge hT625521 ht625527 hf625528).1 (rM_bd hB625579)
        refine G_widen (cs' := ((rPh gm_hg625517 el_F625428 f - rPh γ0 el0 f) / 18)) (sl' := (rPh gm_hg625517 el_F625428 f - rPh γ0 el0 f)) (rm_ec r625520) (rm_es r625520) ?_
        have r625582 := gVal_7 hg625517
        have pl625583 := sp_0 (h := cB (F625428 (γ0 9 19))) (rPl_val hT625429 ht625444 hf625445 hk625519 hg625517 x625439)
        have r625584 : 0 < gm_hg625517 6 (gm_hg625517 1 q590255) := by rw [hf625528]; omega
        have ac625585 : (fI (F625428 q590254) 11).toInt = p625536.toInt := by rw [he625531]; rfl
        have ac625586 : (fI (F625428 q590254) 14).toInt = p625539.toInt := by rw [he625531]; rfl
        refine G_iconst 0 dr_cX17_spill_71 (by decide +kernel) ?_
        refine G_istore_n (L' := [(2, .int 0), (0, .ref q590254), (1, .ref q590255)]) dr_cX17_spill_72 (Nat.le_of_ble_eq_true rfl) rfl ?_
        have hlp73_628725 : ∀ (n73_628725 : Nat) (P628710 : List Nat) (F628711 : Nat → va_E) (gm_F628711 el_F628711 : Nat → Nat → Nat) (g628709 : Int32), gB g628709 0 1000000 → RS D I P628710 F628711 gm_F628711 el_F628711 → rSk f [101] ([1, 3, 5, 6, 8, 9, 101] ++ npk) D I P590252 F590253 γ0 el0 P628710 F628711 gm_F628711 el_F628711 → rPh γ0 el0 f ≤ rPh gm_F628711 el_F628711 f → rBd gm_F628711 el_F628711 f B → gm_F628711 6 f = γ0 6 f → gm_F628711 18 f = γ0 18 f → ((gm_F628711 7 f : Nat) : Int) = (fI (F628711 q590254) 11).toInt → (fI (F628711 q590254) 11).toInt = (fI (F625428 q590254) 11).toInt → ((gm_F628711 16 f : Nat) : Int) + 2001 ≤ (B : Int) + (fI (F628711 q590254) 14).toInt → 100 ≤ (fI (F628711 q590254) 14).toInt → (F628711 (γ0 9 19) = F625428 (γ0 9 19)) → rPl gm_F628711 el_F628711 F628711 q590255 (gm_F628711 6 f) (spQ (cB (F590253 (γ0 9 3))) (cB (F625428 (γ0 9 19))) (g628709.toInt : Int).toNat 0) → (F628711 (γ0 9 3) = F590253 (γ0 9 3)) → mKp (F590253 q590254) (F628711 q590254) → (∀ (k : Nat) (e1 : Nat → va_E) (e2 : List Nat) (e3 : Nat → Nat → Nat) (e4 : Nat → Nat → Nat), tl_RModel_spill_73 D I γ0 el0 f P590252 F590253 q590254 F625428 q590255 P628710 F628711 gm_F628711 el_F628711 g628709 k e1 e2 e3 e4 → tl_RModel_spill_73 D I γ0 el0 f P590252 F590253 q590254 F625428 q590255 P625427 F625428 gm_hg625517 el_F625428 (0 : Int32) k e1 e2 e3 e4) → ((1000001 : Int) - g628709.toInt).toNat < n73_628725 → G (gV D I) l (gRm 9 195 (((387 * B + 6000) - rPh γ0 el0 f) / 18) ((387 * B + 6000) - rPh γ0 el0 f)) (gMA (gV D I) (pg_590262_SpillForgeModel_spill D I γ0 el0 f B P590252 F590253 q590254 q590255) gNA (((387 * B + 6000) - rPh γ0 el0 f) / 18) ((387 * B + 6000) - rPh γ0 el0 f)) ky_590262_SpillForgeModel_spill 73 [(2, .int g628709), (0, .ref q590254), (1, .ref q590255)] [] (va_pl P628710 F628711) ((rPh gm_F628711 el_F628711 f - rPh γ0 el0 f) / 18) (rPh gm_F628711 el_F628711 f - rPh γ0 el0 f) := by
          intro n73_628725
          induction n73_628725 with
          | zero => intro P628710 F628711 gm_F628711 el_F628711 g628709 bg628709 hT628712 hs628713 hph628714 hB628715 x628716 x628717 x628718 x628719 x628720 x628721 x628722 x628723 x628724 x628725 kt73_628726 hm73_628725; exact absurd hm73_628725 (Nat.not_lt_zero _)
          | succ n73_628725 ih73_628725 =>
            intro P628710 F628711 gm_F628711 el_F628711 g628709 bg628709 hT628712 hs628713 hph628714 hB628715 x628716 x628717 x628718 x628719 x628720 x628721 x628722 x628723 x628724 x628725 kt73_628726 hm73_628725
            clear r625515 r625520 r625525 r625577 r625578 hph625580 pk625581 r625582 r625584
            have ht628727 : rKd gm_F628711 q590254 10 := rSk_k hs628713 hzq590254 (by decide) (by decide)
            have ht628728 : rKd gm_F628711 q590255 9 := rSk_k hs628713 hzq590255 (by decide) (by decide)
            have hf628729 : gm_F628711 1 q590255 = f := rSk_1 hs628713 hzq590255 (by decide) hf0
            have pk628730 : rPh gm_F628711 el_F628711 f ≤ 387 * B + 6000 := rm_pk (rM_ge hT628712 ht628728 hf628729).1 (rM_bd hB628715)
            have r628731 : 0 < gm_F628711 6 (gm_F628711 1 q590255) := by rw [hf628729]; omega
            have hm628732 : q590254 ∈ P628710 := RS_m hT628712 ht628727 (by decide)
            refine rk10_e (show rk_10 gm_F628711 (F628711 q590254) from RS_o hT628712 ht628727) (fun q628734 q628735 p628736 p628737 p628738 p628739 p628740 p628741 p628742 p628743 p628744 p628745 p628746 p628747 p628748 p628749 p628750 he628733 hB628777 ht628751 ht628752 ht628753 ht628754 ht628755 ht628756 ht628757 ht628758 ht628759 ht628760 ht628761 ht628762 ht628763 ht628764 ht628765 ht628766 ht628767 ht628768 ht628769 ht628770 ht628771 ht628772 ht628773 ht628774 hB628778 => ?_)
            have ac628779 : (fI (F628711 q590254) 11).toInt = p628738.toInt := by rw [he628733]; rfl
            have bp628738 : gB p628738 0 100 := (hB628777.2.2.1)
            have ac628780 : (fI (F628711 q590254) 14).toInt = p628741.toInt := by rw [he628733]; rfl
            have bp628741 : gB p628741 0 2000 := (hB628777.2.2.2.1)
            refine G_iload_n 0 dr_cX17_spill_73 rfl ?_
            refine G_aload_n 2 dr_cX17_spill_74 rfl ?_
            have hm628781 : q590255 ∈ P628710 := RS_m hT628712 ht628728 (by decide)
            obtain ⟨q628783, q628784, p628785, p628786, he628782, ht628802, ht628787, ht628788, ht628789, ht628790, r628791, r628792, r628793, r628794, r628795, r628796, r628797, r628798, r628799, r628800, r628801⟩ := show rk_9 gm_F628711 el_F628711 q590255 (F628711 q590255) from RS_o hT628712 ht628728
            have bp628785 : gB p628785 0 1000000 := ⟨by omega, by omega⟩
            have bp628786 : gB p628786 0 1000000 := ⟨by omega, by omega⟩
            have hf628803 : gm_F628711 1 q628783 = f := (show gm_F628711 1 q628783 = gm_F628711 1 q590255 from ht628788).trans hf628729
            have hf628804 : gm_F628711 1 q628784 = f := (show gm_F628711 1 q628784 = gm_F628711 1 q590255 from ht628790).trans hf628729
            have r628805 : gm_F628711 6 (gm_F628711 1 q590255) = gm_F628711 6 f := by rw [hf628729]
            have r628806 : gm_F628711 16 (gm_F628711 1 q590255) = gm_F628711 16 f := by rw [hf628729]
            have r628807 : p628786.toInt = gm_F628711 6 f ∧ p628786.toInt ≤ 40 := by omega
            clear r628797
            have fq628808 : fI (F628711 q590255) 3 = p628786 := by rw [he628782]; rfl
            refine Gw_callV (As := []) (gV_ok D I) (cp_12780_Code_size l hl0 D I P628710 F628711 q590255 q628783 q628784 p628785 p628786 hm628781 he628782) dr_cX17_spill_75 ⟨wr_10_160, wr_1_15, wr_9_131, by decide, rfl, (Nat.le_of_ble_eq_true rfl), (Nat.le_of_ble_eq_true rfl)⟩ wr_9_129 wr_9_130 hm628781 he628782 rfl (rm_zc pk628730) (rm_zs pk628730) (Nat.le_of_ble_eq_true rfl) (fun r628812 w628813 dc628809 ds628810 hp628811 => ?_) (fun _ _ _ _ _ z => z.elim)
            obtain ⟨rfl, rfl, hdc, hds⟩ := hp628811
            change G _ _ _ _ _ _ _ (.int p628786 :: _) _ _ _
            refine G_widen (cs' := ((rPh gm_F628711 el_F628711 f - rPh γ0 el0 f) / 18)) (sl' := (rPh gm_F628711 el_F628711 f - rPh γ0 el0 f)) (rm_d0 hdc) (rm_d0 hds) ?_
            refine G_icmp_ge 431 dr_cX17_spill_78 (by decide +kernel) (fun hc628814 => ?_) (fun hc628814 => ?_)
            · have r628815 : p628786.toInt ≤ g628709.toInt := gC_le hc628814
              have hx628816 : tl_RModel_spill_73 D I γ0 el0 f P590252 F590253 q590254 F625428 q590255 P625427 F625428 gm_hg625517 el_F625428 (0 : Int32) 431 F628711 P628710 gm_F628711 el_F628711 := kt73_628726 431 F628711 P628710 gm_F628711 el_F628711 (fun R c1 c2 c3 c4 c5 => c1 P628710 F628711 gm_F628711 el_F628711 g628709 p628786 bg628709 hT628712 hs628713 x628716 x628717 x628718 x628719 x628721 x628722 x628723 x628724 x628725 fq628808 r628815)
              have ac628817 : (fI (F628711 q590254) 11).toInt = p628738.toInt := by rw [he628733]; rfl
              have ac628818 : (fI (F628711 q590254) 14).toInt = p628741.toInt := by rw [he628733]; rfl
              have ni628819 : rNI gm_F628711 el_F628711 F628711 q590255 (gm_F628711 6 f) (fI (F628711 q590254) 11).toInt := by rw [show (fI (F628711 q590254) 11).toInt = (fI (F625428 q590254) 11).toInt by omega]; exact spI_e rfl spi625514 x590259 (sp_end x628723 (by omega))
              refine G_aload_n 2 dr_cX17_spill_431 rfl ?_
              refine Gw_callV (As := []) (gV_ok D I) (ct_7810_Code_countRows l hl0 D I gm_F628711 el_F628711 P628710 F628711 q590255 hT628712 ht628728 (by omega)) dr_cX17_spill_432 ⟨wr_10_229, wr_1_15, wr_10_232, by decide, rfl, (Nat.le_of_ble_eq_true rfl), (Nat.le_of_ble_eq_true rfl)⟩ wr_10_230 wr_10_231 hm628781 he628782 rfl (rm_zc pk628730) (rm_zs pk628730) (Nat.le_of_ble_eq_true rfl) (fun r628823 w628824 dc628820 ds628821 hp628822 => ?_) (fun _ _ _ _ _ z => z.elim)
              obtain ⟨o628825, rfl, rfl, hdc, hds, ht628826⟩ := hp628822
              have bo628825 := gB_any o628825
              change G _ _ _ _ _ _ _ (.int o628825 :: _) _ _ _
              refine G_widen (cs' := ((rPh gm_F628711 el_F628711 f - rPh γ0 el0 f) / 18)) (sl' := (rPh gm_F628711 el_F628711 f - rPh γ0 el0 f)) (rm_d0 hdc) (rm_d0 hds) ?_
              refine G_sipush 4000 dr_cX17_spill_435 (by decide +kernel) ?_
              refine G_icmp_gt 445 dr_cX17_spill_438 (by decide +kernel) (fun hc628827 => ?_) (fun hc628827 => ?_)
              · have r628828 : 4000 < o628825.toInt := gj_ltL hc628827 (show Int32.toInt 4000 = 4000 by decide)
                have bo628825' : gB o628825 4001 2147483647 := ⟨by omega, by omega⟩
                refine G_iconst 0 dr_cX17_spill_445 (by decide +kernel) ?_
                exact G_zretA FieldType.boolean dr_cX17_spill_446 rfl rfl (rm_zc pk628730) (rm_zs pk628730) ⟨P628710, F628711, gm_F628711, el_F628711, 0, rfl, rfl, hs628713, (rm_pp hph628714), hB628715, (gB_w (gBl (show Int32.toInt 0 = 0 by decide)) (by decide) (by decide)), (by have qa0 : Int32.toInt 0 = 0 := (by decide); omega), (Or.inl (by decide)), x628724, x628725, (fun R c1 c2 c3 c4 c5 c6 => c1 gm_0 el_0 F625428 P625427 gm_F625428 el_F625428 p625453 gm_hg625517 F628711 P628710 gm_F628711 el_F628711 o628825 hγ0 hel0 hx625511 fq625518 hg625517 hx628816 ht628826 r628828)⟩
              · have r628829 : o628825.toInt ≤ 4000 := gj_nltL hc628827 (show Int32.toInt 4000 = 4000 by decide)
                have bo628825' : gB o628825 (-2147483648) 4000 := ⟨by omega, by omega⟩
                refine G_iconst 1 dr_cX17_spill_441 (by decide +kernel) ?_
                refine G_goto 446 dr_cX17_spill_442 (by decide +kernel) ?_
                exact G_zretA FieldType.boolean dr_cX17_spill_446 rfl rfl (rm_zc pk628730) (rm_zs pk628730) ⟨P628710, F628711, gm_F628711, el_F628711, 1, rfl, rfl, hs628713, (rm_pp hph628714), hB628715, (gB_w (gBl (show Int32.toInt 1 = 1 by decide)) (by decide) (by decide)), (by have qa0 : Int32.toInt 1 = 1 := (by decide); omega), (Or.inr ⟨by omega, by omega, by omega, by omega, by omega, ni628819⟩), x628724, x628725, (fun R c1 c2 c3 c4 c5 c6 => c2 gm_0 el_0 F625428 P625427 gm_F625428 el_F625428 p625453 gm_hg625517 F628711 P628710 gm_F628711 el_F628711 o628825 hγ0 hel0 hx625511 fq625518 hg625517 hx628816 ht628826 r628829)⟩
            · have r628830 : g628709.toInt < p628786.toInt := gC_nle hc628814
              have bg628709' : gB g628709 0 999999 := ⟨by omega, by omega⟩
              have bp628786' : gB p628786 1 1000000 := ⟨by omega, by omega⟩
              refine G_aload_n 2 dr_cX17_spill_81 rfl ?_
              refine G_iload_n 0 dr_cX17_spill_82 rfl ?_
              have hm628831 : q628783 ∈ P628710 := RS_m hT628712 ht628787 (by decide)
              obtain ⟨⟨p628833, p628834, q628835, he628832, r628836, r628837, r628838, r628840⟩, r628839⟩ := show rk_4 D I gm_F628711 el_F628711 F628711 q628783 from RS_o hT628712 ht628787
              have bp628833 := gB_any p628833
              have bp628834 : gB p628834 0 1000000 := ⟨by omega, by omega⟩
              obtain ⟨r628841, r628842, n628849, f628850, r628843, r628844, r628845, r628846, r628847, r628848⟩ := rLC_n r628838 (by omega)
              have hm628851 : q628835 ∈ P628710 := RS_m hT628712 r628841 (by decide)
              obtain ⟨q628852, hx628853⟩ : ∃ x, x = el_F628711 q628783 g628709.toInt.toNat := ⟨_, rfl⟩
              have fq628857 : fR (F628711 q590255) 0 = q628783 := by rw [he628782]; rfl
              have hx628854 : f628850 g628709.toNatClampNeg = some q628852 := (r628847 _ (show g628709.toInt.toNat < gm_F628711 2 q628783 by first | assumption | omega)).trans (by rw [hx628853])
              have ht628858 : rKd gm_F628711 q628852 2 := by rw [hx628853]; exact (r628798 _ (by omega)).resolve_right (fun z => absurd z.1 (by omega))
              have ht628859 : rFm gm_F628711 q628852 q628783 := by rw [hx628853]; exact (r628839 _ (show g628709.toInt.toNat < gm_F628711 2 q628783 by omega)).2.1
              have hm628860 : q628852 ∈ P628710 := RS_m hT628712 ht628858 (by decide)
              obtain ⟨q628862, q628863, p628864, p628865, he628861, ht628872, ht628866, ht628867, ht628868, ht628869, ht628870, bp628864, bp628865, r628871, r628873, r628874⟩ := show rk_2 gm_F628711 q628852 (F628711 q628852) from RS_o hT628712 ht628858
              have fq628875 : fI (F628711 q628783) 2 = p628834 := by rw [he628832]; rfl
              refine Gw_callV (As := [.int g628709]) (gV_ok D I) (cp_7901_Code_get l hl0 D I P628710 F628711 q590255 q628783 q628835 g628709 q628784 p628785 p628786 p628833 p628834 f628850 n628849 q628852 q628862 q628863 p628864 p628865 hm628781 hm628831 hm628851 hm628860 he628782 he628832 r628843 he628861 (gB_w bg628709' (by decide) (by decide)) (gB_w bp628834 (by decide) (by decide)) (by omega) (by omega) (by assumption) (by omega)) dr_cX17_spill_83 ⟨wr_10_161, wr_1_15, wr_10_141, by decide, rfl, (Nat.le_of_ble_eq_true rfl), (Nat.le_of_ble_eq_true rfl)⟩ wr_10_139 wr_10_140 hm628781 he628782 rfl (rm_zc pk628730) (rm_zs pk628730) (Nat.le_of_ble_eq_true rfl) (fun r628879 w628880 dc628876 ds628877 hp628878 => ?_) (fun _ _ _ _ _ z => z.elim)
              obtain ⟨rfl, rfl, hdc, hds, ht628881⟩ := hp628878
              change G _ _ _ _ _ _ _ (.ref q628852 :: _) _ _ _
              refine G_widen (cs' := ((rPh gm_F628711 el_F628711 f - rPh γ0 el0 f) / 18)) (sl' := (rPh gm_F628711 el_F628711 f - rPh γ0 el0 f)) (rm_d0 hdc) (rm_d0 hds) ?_
              have hf628882 : gm_F628711 1 q628852 = f := (show gm_F628711 1 q628852 = gm_F628711 1 q628783 from ht628859).trans ((show gm_F628711 1 q628783 = gm_F628711 1 q590255 from ht628788).trans hf628729)
              have hf628883 : gm_F628711 1 q628862 = f := (show gm_F628711 1 q628862 = gm_F628711 1 q628852 from ht628867).trans hf628882
              have hf628884 : gm_F628711 1 q628863 = f := (show gm_F628711 1 q628863 = gm_F628711 1 q628852 from ht628869).trans hf628882
              have r628885 : gm_F628711 6 (gm_F628711 1 q628852) = gm_F628711 6 f := by rw [hf628882]
              have r628886 : gm_F628711 7 (gm_F628711 1 q628852) = gm_F628711 7 f := by rw [hf628882]
              have r628887 : gm_F628711 19 (gm_F628711 1 q628852) = gm_F628711 19 f := by rw [hf628882]
              have r628888 := r628871.resolve_left (by omega)
              clear r628871
              have r628889 : gm_F628711 2 (gm_F628711 14 q628852) = gm_F628711 2 q628862 := by rw [ht628872.1]
              have r628890 : g628709.toInt.toNat < gm_F628711 2 (gm_F628711 14 q590255) := by rw [ht628802.1]; omega
              have r628891 : el_F628711 (gm_F628711 14 q590255) g628709.toInt.toNat = q628852 := by rw [ht628802.1, hx628853]
              refine G_astore_n (L' := [(3, .ref q628852), (2, .int g628709), (0, .ref q590254), (1, .ref q590255)]) dr_cX17_spill_86 (Nat.le_of_ble_eq_true rfl) rfl ?_
              refine G_iconst 0 dr_cX17_spill_87 (by decide +kernel) ?_
              refine G_istore (L' := [(4, .int 0), (3, .ref q628852), (2, .int g628709), (0, .ref q590254), (1, .ref q590255)]) dr_cX17_spill_88 (Nat.le_of_ble_eq_true rfl) rfl ?_
              have hlp90_630385 : ∀ (n90_630385 : Nat) (P630364 : List Nat) (F630365 : Nat → va_E) (gm_F630365 el_F630365 : Nat → Nat → Nat) (g630363 : Int32), gB g630363 0 1000003 → RS D I P630364 F630365 gm_F630365 el_F630365 → rSk f [101] ([1, 3, 5, 6, 8, 9, 101] ++ npk) D I P590252 F590253 γ0 el0 P630364 F630365 gm_F630365 el_F630365 → rPh γ0 el0 f ≤ rPh gm_F630365 el_F630365 f → rBd gm_F630365 el_F630365 f B → rKd gm_F630365 q628852 2 → gm_F630365 1 q628852 = f → g628709.toInt.toNat < gm_F630365 2 (gm_F630365 14 q590255) → el_F630365 (gm_F630365 14 q590255) g628709.toInt.toNat = q628852 → gm_F630365 6 f = γ0 6 f → gm_F630365 18 f = γ0 18 f → ((gm_F630365 7 f : Nat) : Int) = (fI (F630365 q590254) 11).toInt → (fI (F630365 q590254) 11).toInt = (fI (F625428 q590254) 11).toInt → ((gm_F630365 16 f : Nat) : Int) + 2001 ≤ (B : Int) + (fI (F630365 q590254) 14).toInt → 100 ≤ (fI (F630365 q590254) 14).toInt → (F630365 (γ0 9 19) = F625428 (γ0 9 19)) → rPl gm_F630365 el_F630365 F630365 q590255 (gm_F630365 6 f) (spQ (cB (F590253 (γ0 9 3))) (cB (F625428 (γ0 9 19))) (g628709.toInt : Int).toNat (g630363.toInt : Int).toNat) → (g630363.toInt : Int) ≤ gm_F630365 2 (gm_F630365 14 q628852) + 1 → (g628709.toInt : Int) < gm_F630365 6 f → (F630365 (γ0 9 3) = F590253 (γ0 9 3)) → mKp (F590253 q590254) (F630365 q590254) → (∀ (k : Nat) (e1 : Nat → va_E) (e2 : List Nat) (e3 : Nat → Nat → Nat) (e4 : Nat → Nat → Nat), tl_RModel_spill_90 D I γ0 el0 f P590252 F590253 q590254 F625428 q590255 g628709 q628852 P630364 F630365 gm_F630365 el_F630365 g630363 k e1 e2 e3 e4 → tl_RModel_spill_90 D I γ0 el0 f P590252 F590253 q590254 F625428 q590255 g628709 q628852 P628710 F628711 gm_F628711 el_F628711 (0 : Int32) k e1 e2 e3 e4) → (gm_F630365 2 (gm_F630365 14 q628852) + 1 - (g630363.toInt : Int).toNat) < n90_630385 → G (gV D I) l (gRm 9 195 (((387 * B + 6000) - rPh γ0 el0 f) / 18) ((387 * B + 6000) - rPh γ0 el0 f)) (gMA (gV D I) (pg_590262_SpillForgeModel_spill D I γ0 el0 f B P590252 F590253 q590254 q590255) gNA (((387 * B + 6000) - rPh γ0 el0 f) / 18) ((387 * B + 6000) - rPh γ0 el0 f)) ky_590262_SpillForgeModel_spill 90 [(4, .int g630363), (3, .ref q628852), (2, .int g628709), (0, .ref q590254), (1, .ref q590255)] [] (va_pl P630364 F630365) ((rPh gm_F630365 el_F630365 f - rPh γ0 el0 f) / 18) (rPh gm_F630365 el_F630365 f - rPh γ0 el0 f) := by
                intro n90_630385
                induction n90_630385 with
                | zero => intro P630364 F630365 gm_F630365 el_F630365 g630363 bg630363 hT630366 hs630367 hph630368 hB630369 ht630370 hf630371 r630372 r630373 x630374 x630375 x630376 x630377 x630378 x630379 x630380 x630381 x630382 x630383 x630384 x630385 kt90_630386 hm90_630385; exact absurd hm90_630385 (Nat.not_lt_zero _)
                | succ n90_630385 ih90_630385 =>
                  intro P630364 F630365 gm_F630365 el_F630365 g630363 bg630363 hT630366 hs630367 hph630368 hB630369 ht630370 hf630371 r630372 r630373 x630374 x630375 x630376 x630377 x630378 x630379 x630380 x630381 x630382 x630383 x630384 x630385 kt90_630386 hm90_630385
                  clear r628791 r628792 r628793 r628794 r628795 r628796 r628798 r628799 r628800 r628801 bp628785 bp628786 bp628864 bp628865 r628873 r628874 r628805 r628806 r628807 r628836 r628837 r628838 r628840 r628839 r628841 r628842 r628843 r628844 r628845 r628846 r628847 r628848 r628885 r628886 r628887 r628888 r628889 r628890 r628891
                  have ht630387 : rKd gm_F630365 q590254 10 := rSk_k hs630367 hzq590254 (by decide) (by decide)
                  have ht630388 : rKd gm_F630365 q590255 9 := rSk_k hs630367 hzq590255 (by decide) (by decide)
                  have hf630389 : gm_F630365 1 q590255 = f := rSk_1 hs630367 hzq590255 (by decide) hf0
                  have pk630390 : rPh gm_F630365 el_F630365 f ≤ 387 * B + 6000 := rm_pk (rM_ge hT630366 ht630388 hf630389).1 (rM_bd hB630369)
                  have r630391 : 0 < gm_F630365 6 (gm_F630365 1 q590255) := by rw [hf630389]; omega
                  have hm630392 : q590254 ∈ P630364 := RS_m hT630366 ht630387 (by decide)
                  refine rk10_e (show rk_10 gm_F630365 (F630365 q590254) from RS_o hT630366 ht630387) (fun q630394 q630395 p630396 p630397 p630398 p630399 p630400 p630401 p630402 p630403 p630404 p630405 p630406 p630407 p630408 p630409 p630410 he630393 hB630437 ht630411 ht630412 ht630413 ht630414 ht630415 ht630416 ht630417 ht630418 ht630419 ht630420 ht630421 ht630422 ht630423 ht630424 ht630425 ht630426 ht630427 ht630428 ht630429 ht630430 ht630431 ht630432 ht630433 ht630434 hB630438 => ?_)
                  have ac630439 : (fI (F630365 q590254) 11).toInt = p630398.toInt := by rw [he630393]; rfl
                  have bp630398 : gB p630398 0 100 := (hB630437.2.2.1)
                  have ac630440 : (fI (F630365 q590254) 14).toInt = p630401.toInt := by rw [he630393]; rfl
                  have bp630401 : gB p630401 0 2000 := (hB630437.2.2.2.1)
                  refine G_iload 0 dr_cX17_spill_90 rfl ?_
                  refine G_aload_n 1 dr_cX17_spill_92 rfl ?_
                  have hm630441 : q628852 ∈ P630364 := RS_m hT630366 ht630370 (by decide)
                  obtain ⟨q630443, q630444, p630445, p630446, he630442, ht630453, ht630447, ht630448, ht630449, ht630450, ht630451, bp630445, bp630446, r630452, r630454, r630455⟩ := show rk_2 gm_F630365 q628852 (F630365 q628852) from RS_o hT630366 ht630370
                  have hf630456 : gm_F630365 1 q630443 = f := (show gm_F630365 1 q630443 = gm_F630365 1 q628852 from ht630448).trans hf630371
                  have hf630457 : gm_F630365 1 q630444 = f := (show gm_F630365 1 q630444 = gm_F630365 1 q628852 from ht630450).trans hf630371
                  have r630458 : gm_F630365 6 (gm_F630365 1 q628852) = gm_F630365 6 f := by rw [hf630371]
                  have r630459 : gm_F630365 7 (gm_F630365 1 q628852) = gm_F630365 7 f := by rw [hf630371]
                  have r630460 : gm_F630365 19 (gm_F630365 1 q628852) = gm_F630365 19 f := by rw [hf630371]
                  have r630461 := r630452.resolve_left (by omega)
                  clear r630452
                  have r630462 : gm_F630365 2 (gm_F630365 14 q628852) = gm_F630365 2 q630443 := by rw [ht630453.1]
                  have fq630463 : fR (F630365 q628852) 0 = q630443 := by rw [he630442]; rfl
                  refine Gp_get 0 hm630441 he630442 dr_cX17_spill_93 (gk_X12 D I) (Nat.le_of_ble_eq_true rfl) wr_9_220 rfl ?_
                  have hm630464 : q630443 ∈ P630364 := RS_m hT630366 ht630447 (by decide)
                  obtain ⟨⟨p630466, p630467, q630468, he630465, r630469, r630470, r630471, r630473⟩, r630472⟩ := show rk_3 D I gm_F630365 el_F630365 F630365 q630443 from RS_o hT630366 ht630447
                  have bp630466 := gB_any p630466
                  have bp630467 : gB p630467 0 1000000 := ⟨by omega, by omega⟩
                  have fq630474 : p630467.toInt = (gm_F630365 2 q630443 : Int) := by omega
                  have fq630475 : fI (F630365 q630443) 2 = p630467 := by rw [he630465]; rfl
                  refine Gw_callV (As := []) (gV_ok D I) (cp_7_ArrayList_size l hl0 D I P630364 F630365 q630443 p630466 q630468 p630467 hm630464 he630465 (gB_w bp630467 (by decide) (by decide))) dr_cX17_spill_96 ⟨wr_10_200, wr_1_18, wr_9_160, by decide, rfl, (Nat.le_of_ble_eq_true rfl), (Nat.le_of_ble_eq_true rfl)⟩ wr_9_158 wr_9_159 hm630464 he630465 rfl (rm_zc pk630390) (rm_zs pk630390) (Nat.le_of_ble_eq_true rfl) (fun r630479 w630480 dc630476 ds630477 hp630478 => ?_) (fun _ _ _ _ _ z => z.elim)
                  obtain ⟨rfl, rfl, hdc, hds⟩ := hp630478
                  change G _ _ _ _ _ _ _ (.int p630467 :: _) _ _ _
                  refine G_widen (cs' := ((rPh gm_F630365 el_F630365 f - rPh γ0 el0 f) / 18)) (sl' := (rPh gm_F630365 el_F630365 f - rPh γ0 el0 f)) (rm_d0 hdc) (rm_d0 hds) ?_
                  refine G_icmp_gt 425 dr_cX17_spill_99 (by decide +kernel) (fun hc630481 => ?_) (fun hc630481 => ?_)
                  · have r630482 : p630467.toInt < g630363.toInt := gC_lt hc630481
                    have bg630363' : gB g630363 1 1000003 := ⟨by omega, by omega⟩
                    have hx630483 : tl_RModel_spill_90 D I γ0 el0 f P590252 F590253 q590254 F625428 q590255 g628709 q628852 P628710 F628711 gm_F628711 el_F628711 (0 : Int32) 425 F630365 P630364 gm_F630365 el_F630365 := kt90_630386 425 F630365 P630364 gm_F630365 el_F630365 (tl_RModel_spill_90_k1 D I γ0 el0 f P590252 F590253 q590254 F625428 q590255 g628709 q628852 P630364 F630365 gm_F630365 el_F630365 g630363 q630443 p630467 bg630363 hT630366 hs630367 x630374 x630375 x630376 x630377 x630379 x630380 x630381 x630382 x630383 x630384 x630385 fq630463 fq630474 fq630475 r630482)
                    obtain ⟨z630484, hz630484⟩ : ∃ z : Int32, z = g628709 + Int32.ofInt 1 := ⟨_, rfl⟩
                    have ez630484 : z630484.toInt = g628709.toInt + 1 := gI_inc hz630484 (by decide) bg628709' (by decide) (by decide)
                    have bz630484 : gB z630484 1 1000000 := ⟨by omega, by omega⟩
                    refine G_iinc (L' := [(2, .int z630484), (4, .int g630363), (3, .ref q628852), (0, .ref q590254), (1, .ref q590255)]) z630484 2 dr_cX17_spill_425 rfl hz630484.symm (Nat.le_of_ble_eq_true rfl) rfl ?_
                    refine G_goto 73 dr_cX17_spill_428 (by decide +kernel) ?_
                    refine G_lv (L' := [(2, .int z630484), (0, .ref q590254), (1, .ref q590255)]) [0, 3, 4] rfl ?_
                    have ac630485 : (fI (F630365 q590254) 11).toInt = p630398.toInt := by rw [he630393]; rfl
                    have ac630486 : (fI (F630365 q590254) 14).toInt = p630401.toInt := by rw [he630393]; rfl
                    exact ih73_628725 P630364 F630365 gm_F630365 el_F630365 z630484 (gB_w bz630484 (by decide) (by decide)) hT630366 hs630367 hph630368 hB630369 (by omega) (by omega) (by omega) (by omega) (by omega) (by omega) x630380 (sp_nx x630381 (by unfold rwL; rw [r630373]; omega) (by omega)) x630384 x630385 (fun k e1 e2 e3 e4 ht => kt73_628726 k e1 e2 e3 e4 (fun R c1 c2 c3 c4 c5 => c2 P628710 F628711 gm_F628711 el_F628711 g628709 p628786 q628783 q628852 p628834 F630365 P630364 gm_F630365 el_F630365 z630484 k e1 e2 e3 e4 bg628709 hT628712 hs628713 x628716 x628717 x628718 x628719 x628721 x628722 x628723 x628724 x628725 fq628808 r628830 fq628857 hx628853 fq628875 ht628881 hx630483 ez630484 (ht R c1 c2 c3 c4 c5))) (by omega)
                  · have r630487 : g630363.toInt ≤ p630467.toInt := gC_nlt hc630481
                    have bg630363' : gB g630363 0 1000000 := ⟨by omega, by omega⟩
                    have jn292_630517 : ∀ (P630490 : List Nat) (F630491 : Nat → va_E) (gm_F630491 el_F630491 : Nat → Nat → Nat) (g630488 : Int32) (q630489 : Nat), gB g630488 0 1000001 → RS D I P630490 F630491 gm_F630491 el_F630491 → rSk f [101] ([1, 3, 5, 6, 8, 9, 101] ++ npk) D I P590252 F590253 γ0 el0 P630490 F630491 gm_F630491 el_F630491 → rPh γ0 el0 f ≤ rPh gm_F630491 el_F630491 f → rBd gm_F630491 el_F630491 f B → rKd gm_F630491 q628852 2 → gm_F630491 1 q628852 = f → g628709.toInt.toNat < gm_F630491 2 (gm_F630491 14 q590255) → el_F630491 (gm_F630491 14 q590255) g628709.toInt.toNat = q628852 → rKd gm_F630491 q630489 1 → gm_F630491 1 q630489 = f → gm_F630491 6 f = γ0 6 f → gm_F630491 18 f = γ0 18 f → ((gm_F630491 7 f : Nat) : Int) = (fI (F630491 q590254) 11).toInt → (fI (F630491 q590254) 11).toInt = (fI (F625428 q590254) 11).toInt → ((gm_F630491 16 f : Nat) : Int) + 2001 ≤ (B : Int) + (fI (F630491 q590254) 14).toInt → 100 ≤ (fI (F630491 q590254) 14).toInt → (F630491 (γ0 9 19) = F625428 (γ0 9 19)) → rPl gm_F630491 el_F630491 F630491 q590255 (gm_F630491 6 f) (spX (cB (F590253 (γ0 9 3))) (cB (F625428 (γ0 9 19))) (g628709.toInt : Int).toNat (g630488.toInt : Int).toNat) → rAt gm_F630491 el_F630491 q590255 (g628709.toInt : Int).toNat (g630488.toInt : Int).toNat = q630489 → rS2 (cB (F590253 (γ0 9 3))) (cB (F625428 (γ0 9 19))) (F630491 q630489) → (g630488.toInt : Int) ≤ gm_F630491 2 (gm_F630491 14 q628852) → (g628709.toInt : Int) < gm_F630491 6 f → (gm_F630491 2 (gm_F630491 14 q628852) + 1 - (g630488.toInt : Int).toNat) < n90_630385 + 1 → eO g630488.toInt (gm_F630491 2 (gm_F630491 14 q628852) : Nat) (fI (F630491 q630489) 0).toInt → (F630491 (γ0 9 3) = F590253 (γ0 9 3)) → mKp (F590253 q590254) (F630491 q590254) → (∀ (k : Nat) (e1 : Nat → va_E) (e2 : List Nat) (e3 : Nat → Nat → Nat) (e4 : Nat → Nat → Nat), tj_RModel_spill_90_292 D I γ0 el0 f P590252 F590253 q590254 F625428 q590255 g628709 q628852 P630490 F630491 gm_F630491 el_F630491 g630488 q630489 k e1 e2 e3 e4 → tl_RModel_spill_90 D I γ0 el0 f P590252 F590253 q590254 F625428 q590255 g628709 q628852 P630364 F630365 gm_F630365 el_F630365 g630363 k e1 e2 e3 e4) → G (gV D I) l (gRm 9 195 (((387 * B + 6000) - rPh γ0 el0 f) / 18) ((387 * B + 6000) - rPh γ0 el0 f)) (gMA (gV D I) (pg_590262_SpillForgeModel_spill D I γ0 el0 f B P590252 F590253 q590254 q590255) gNA (((387 * B + 6000) - rPh γ0 el0 f) / 18) ((387 * B + 6000) - rPh γ0 el0 f)) ky_590262_SpillForgeModel_spill 292 [(0, .ref q590254), (1, .ref q590255), (2, .int g628709), (3, .ref q628852), (4, .int g630488), (5, .ref q630489)] [] (va_pl P630490 F630491) ((rPh gm_F630491 el_F630491 f - rPh γ0 el0 f) / 18) (rPh gm_F630491 el_F630491 f - rPh γ0 el0 f) := by
                      intro P630490 F630491 gm_F630491 el_F630491 g630488 q630489 bg630488 hT630492 hs630493 hph630494 hB630495 ht630496 hf630497 r630498 r630499 ht630500 hf630501 x630502 x630503 x630504 x630505 x630506 x630507 x630508 x630509 x630510 x630511 x630512 x630513 x630514 x630515 x630516 x630517 kj292_630518
                      clear bp630445 bp630446 r630454 r630455 r630458 r630459 r630460 r630461 r630462 r630469 r630470 r630471 r630473 r630472
                      have ht630519 : rKd gm_F630491 q590254 10 := rSk_k hs630493 hzq590254 (by decide) (by decide)
                      have ht630520 : rKd gm_F630491 q590255 9 := rSk_k hs630493 hzq590255 (by decide) (by decide)
                      have hf630521 : gm_F630491 1 q590255 = f := rSk_1 hs630493 hzq590255 (by decide) hf0
                      have pk630522 : rPh gm_F630491 el_F630491 f ≤ 387 * B + 6000 := rm_pk (rM_ge hT630492 ht630520 hf630521).1 (rM_bd hB630495)
                      have r630523 : 0 < gm_F630491 6 (gm_F630491 1 q590255) := by rw [hf630521]; omega
                      have hm630524 : q590254 ∈ P630490 := RS_m hT630492 ht630519 (by decide)
                      refine rk10_e (show rk_10 gm_F630491 (F630491 q590254) from RS_o hT630492 ht630519) (fun q630526 q630527 p630528 p630529 p630530 p630531 p630532 p630533 p630534 p630535 p630536 p630537 p630538 p630539 p630540 p630541 p630542 he630525 hB630569 ht630543 ht630544 ht630545 ht630546 ht630547 ht630548 ht630549 ht630550 ht630551 ht630552 ht630553 ht630554 ht630555 ht630556 ht630557 ht630558 ht630559 ht630560 ht630561 ht630562 ht630563 ht630564 ht630565 ht630566 hB630570 => ?_)
                      have ac630571 : (fI (F630491 q590254) 11).toInt = p630530.toInt := by rw [he630525]; rfl
                      have bp630530 : gB p630530 0 100 := (hB630569.2.2.1)
                      have ac630572 : (fI (F630491 q590254) 14).toInt = p630533.toInt := by rw [he630525]; rfl
                      have bp630533 : gB p630533 0 2000 := (hB630569.2.2.2.1)
                      have hm630573 : q630489 ∈ P630490 := RS_m hT630492 ht630500 (by decide)
                      obtain ⟨p630575, p630576, p630577, p630578, p630579, p630580, p630581, he630574, bp630575, bp630576, bp630579, bp630580, bp630581, r630582, r630583, r630584, r630585, r630586⟩ := show rk_1 gm_F630491 q630489 (F630491 q630489) from RS_o hT630492 ht630500
                      have bp630577 := gB_any p630577
                      have bp630578 := gB_any p630578
                      replace r630582 : gH _ := r630582
                      replace r630583 : gH _ := r630583
                      replace r630584 : gH _ := r630584
                      replace r630585 : gH _ := r630585
                      replace r630586 : gH _ := r630586
                      have r630587 : gm_F630491 7 (gm_F630491 1 q630489) = gm_F630491 7 f := by rw [hf630501]
                      refine G_aload 5 dr_cX17_spill_292 rfl ?_
                      have fq630588 : fI (F630491 q630489) 0 = p630575 := by rw [he630574]; rfl
                      refine Gw_callV (As := []) (gV_ok D I) (cp_410265_Row_sets l hl0 D I P630490 F630491 q630489 p630575 p630576 p630577 p630578 p630579 p630580 p630581 hm630573 he630574 bp630575 bp630576 bp630579 bp630580 bp630581) dr_cX17_spill_294 ⟨wr_10_181, wr_1_39, wr_10_184, by decide, rfl, (Nat.le_of_ble_eq_true rfl), (Nat.le_of_ble_eq_true rfl)⟩ wr_10_182 wr_10_183 hm630573 he630574 rfl (rm_zc pk630522) (rm_zs pk630522) (Nat.le_of_ble_eq_true rfl) (fun r630592 w630593 dc630589 ds630590 hp630591 => ?_) (fun _ _ _ _ _ z => z.elim)
                      obtain ⟨o630594, rfl, rfl, hdc, hds, bo630594, x630595, ht630596⟩ := hp630591
                      change G _ _ _ _ _ _ _ (.int o630594 :: _) _ _ _
                      refine G_widen (cs' := ((rPh gm_F630491 el_F630491 f - rPh γ0 el0 f) / 18)) (sl' := (rPh gm_F630491 el_F630491 f - rPh γ0 el0 f)) (rm_d0 hdc) (rm_d0 hds) ?_
                      refine G_if_eq 419 dr_cX17_spill_297 (by decide +kernel) (fun hc630597 => ?_) (fun hc630597 => ?_)
                      · have r630598 : o630594.toInt = 0 := gj_eq hc630597 (show Int32.toInt 0 = 0 by decide)
                        have bo630594' : gB o630594 0 0 := gB_t0 r630598
                        have rn630600 : rNx (nSp (cB (F590253 (γ0 9 3))) (cB (F625428 (γ0 9 19)))) (F630491 q630489) := rS2_n he630574 he630574 x630511 (fun h => (uS_0 x630595 (by omega) h).elim)
                        have pl630599 := sp_fin x630509 x630510 rn630600 (rfl : (g630488.toInt : Int).toNat + 1 = (g630488.toInt : Int).toNat + 1)
                        obtain ⟨z630601, hz630601⟩ : ∃ z : Int32, z = g630488 + Int32.ofInt 1 := ⟨_, rfl⟩
                        have ez630601 : z630601.toInt = g630488.toInt + 1 := gI_inc hz630601 (by decide) bg630488 (by decide) (by decide)
                        have bz630601 : gB z630601 1 1000002 := ⟨by omega, by omega⟩
                        refine G_iinc (L' := [(4, .int z630601), (0, .ref q590254), (1, .ref q590255), (2, .int g628709), (3, .ref q628852), (5, .ref q630489)]) z630601 4 dr_cX17_spill_419 rfl hz630601.symm (Nat.le_of_ble_eq_true rfl) rfl ?_
                        refine G_goto 90 dr_cX17_spill_422 (by decide +kernel) ?_
                        refine G_lv (L' := [(4, .int z630601), (3, .ref q628852), (2, .int g628709), (0, .ref q590254), (1, .ref q590255)]) [0, 4, 3, 1, 2] rfl ?_
                        have ac630602 : (fI (F630491 q590254) 11).toInt = p630530.toInt := by rw [he630525]; rfl
                        have ac630603 : (fI (F630491 q590254) 14).toInt = p630533.toInt := by rw [he630525]; rfl
                        exact ih90_630385 P630490 F630491 gm_F630491 el_F630491 z630601 (gB_w bz630601 (by decide) (by decide)) hT630492 hs630493 hph630494 hB630495 ht630496 hf630497 r630498 r630499 (by omega) (by omega) (by omega) (by omega) (by omega) (by omega) x630508 (by rw [(show (z630601.toInt : Int).toNat = ((g630488.toInt : Int).toNat + 1) from tn_eq1 (by omega) (by omega))]; exact pl630599) (by omega) (by omega) x630516 x630517 (fun k e1 e2 e3 e4 ht => kt90_630386 k e1 e2 e3 e4 (kj292_630518 k e1 e2 e3 e4 (tl_RModel_spill_90_k2 D I γ0 el0 f P590252 F590253 q590254 F625428 q590255 g628709 q628852 P630490 F630491 gm_F630491 el_F630491 g630488 q630489 p630575 o630594 z630601 k e1 e2 e3 e4 bg630488 hT630492 hs630493 x630502 x630503 x630504 x630505 x630507 x630508 x630509 x630510 x630511 x630512 x630513 x630515 x630516 x630517 fq630588 bo630594 ht630596 r630598 ez630601 ht))) (ms_g x630514 (by omega) (by omega) (by omega))
                      · have r630604 : o630594.toInt ≠ 0 := gj_neq hc630597 (show Int32.toInt 0 = 0 by decide)
                        have bo630594' : gB o630594 1 1 := gB_t1 bo630594 r630604
                        refine G_aload 5 dr_cX17_spill_300 rfl ?_
                        refine Gp_get 0 hm630573 he630574 dr_cX17_spill_302 (gk_X15 D I) (Nat.le_of_ble_eq_true rfl) wr_9_177 rfl ?_
                        refine G_bipush 21 dr_cX17_spill_305 (by decide +kernel) ?_
                        refine G_icmp_eq 419 dr_cX17_spill_307 (by decide +kernel) (fun hc630605 => ?_) (fun hc630605 => ?_)
                        · have r630606 : p630575.toInt = 21 := gj_eq hc630605 (show Int32.toInt 21 = 21 by decide)
                          have bp630575' : gB p630575 21 21 := ⟨by omega, by omega⟩
                          have rn630608 : rNx (nSp (cB (F590253 (γ0 9 3))) (cB (F625428 (γ0 9 19)))) (F630491 q630489) := rS2_n he630574 he630574 x630511 (fun _ => Or.inr ⟨rfl, Or.inl (by omega)⟩)
                          have pl630607 := sp_fin x630509 x630510 rn630608 (rfl : (g630488.toInt : Int).toNat + 1 = (g630488.toInt : Int).toNat + 1)
                          obtain ⟨z630609, hz630609⟩ : ∃ z : Int32, z = g630488 + Int32.ofInt 1 := ⟨_, rfl⟩
                          have ez630609 : z630609.toInt = g630488.toInt + 1 := gI_inc hz630609 (by decide) bg630488 (by decide) (by decide)
                          have bz630609 : gB z630609 1 1000002 := ⟨by omega, by omega⟩
                          refine G_iinc (L' := [(4, .int z630609), (0, .ref q590254), (1, .ref q590255), (2, .int g628709), (3, .ref q628852), (5, .ref q630489)]) z630609 4 dr_cX17_spill_419 rfl hz630609.symm (Nat.le_of_ble_eq_true rfl) rfl ?_
                          refine G_goto 90 dr_cX17_spill_422 (by decide +kernel) ?_
                          refine G_lv (L' := [(4, .int z630609), (3, .ref q628852), (2, .int g628709), (0, .ref q590254), (1, .ref q590255)]) [0, 4, 3, 1, 2] rfl ?_
                          have ac630610 : (fI (F630491 q590254) 11).toInt = p630530.toInt := by rw [he630525]; rfl
                          have ac630611 : (fI (F630491 q590254) 14).toInt = p630533.toInt := by rw [he630525]; rfl
                          exact ih90_630385 P630490 F630491 gm_F630491 el_F630491 z630609 (gB_w bz630609 (by decide) (by decide)) hT630492 hs630493 hph630494 hB630495 ht630496 hf630497 r630498 r630499 (by omega) (by omega) (by omega) (by omega) (by omega) (by omega) x630508 (by rw [(show (z630609.toInt : Int).toNat = ((g630488.toInt : Int).toNat + 1) from tn_eq1 (by omega) (by omega))]; exact pl630607) (by omega) (by omega) x630516 x630517 (fun k e1 e2 e3 e4 ht => kt90_630386 k e1 e2 e3 e4 (kj292_630518 k e1 e2 e3 e4 (tl_RModel_spill_90_k3 D I γ0 el0 f P590252 F590253 q590254 F625428 q590255 g628709 q628852 P630490 F630491 gm_F630491 el_F630491 g630488 q630489 p630575 o630594 z630609 k e1 e2 e3 e4 bg630488 hT630492 hs630493 x630502 x630503 x630504 x630505 x630507 x630508 x630509 x630510 x630511 x630512 x630513 x630515 x630516 x630517 fq630588 bo630594 ht630596 r630604 r630606 ez630609 ht))) (ms_g x630514 (by omega) (by omega) (by omega))
                        · have r630612 : p630575.toInt ≠ 21 := gj_neq hc630605 (show Int32.toInt 21 = 21 by decide)
                          refine G_aload_n 0 dr_cX17_spill_310 rfl ?_
                          have fq630613 : fR (F630491 q590254) 19 = (gm_F630491 9 19) := by rw [he630525]; rfl
                          refine Gp_get 19 hm630524 he630525 dr_cX17_spill_311 (gk_X17 D I) (Nat.le_of_ble_eq_true rfl) wr_7_93 rfl ?_
                          refine G_aload 5 dr_cX17_spill_314 rfl ?_
                          have fq630614 : fI (F630491 q630489) 1 = p630576 := by rw [he630574]; rfl
                          refine Gp_get 1 hm630573 he630574 dr_cX17_spill_316 (gk_X15 D I) (Nat.le_of_ble_eq_true rfl) wr_9_182 rfl ?_
                          have hm630615 : (gm_F630491 9 19) ∈ P630490 := RS_m hT630492 ht630558 (by decide)
                          obtain ⟨f630617, he630616, bf630617⟩ := show rk_21 I (F630491 (gm_F630491 9 19)) from RS_o hT630492 ht630558
                          refine Gp_iald 0 hm630615 he630616 dr_cX17_spill_319 rfl (gB_in bp630576 (by decide) (by decide)) (G_nam fun z630618 hz630618 => ?_)
                          have bz630618 : gB z630618 (-1) 1999 := by rw [hz630618]; exact bf630617 _
                          have c9_630619 : cB (F625428 (γ0 9 19)) = f630617 := by rw [← x630508, ← congrFun (rSk_9 hs630493) 19]; exact cB_of he630616
                          have hs630620 : (cB (F625428 (γ0 9 19)) p630576.toInt.toNat).toInt = z630618.toInt := by rw [c9_630619, hz630618]; rfl
                          refine G_if_ge 326 dr_cX17_spill_320 (by decide +kernel) (fun hc630622 => ?_) (fun hc630622 => ?_)
                          · have r630623 : 0 ≤ z630618.toInt := gj_leL hc630622 (show Int32.toInt 0 = 0 by decide)
                            have bz630618' : gB z630618 0 1999 := ⟨by omega, by omega⟩
                            refine G_aload_n 0 dr_cX17_spill_326 rfl ?_
                            refine Gp_get 19 hm630524 he630525 dr_cX17_spill_327 (gk_X17 D I) (Nat.le_of_ble_eq_true rfl) wr_7_93 rfl ?_
                            refine G_aload 5 dr_cX17_spill_330 rfl ?_
                            refine Gp_get 1 hm630573 he630574 dr_cX17_spill_332 (gk_X15 D I) (Nat.le_of_ble_eq_true rfl) wr_9_182 rfl ?_
                            refine Gp_iald 0 hm630615 he630616 dr_cX17_spill_335 rfl (gB_in bp630576 (by decide) (by decide)) (G_eqi (y := z630618) hz630618.symm ?_)
                            have r630624 := (spi625514.2.2.2 p630576.toInt.toNat (tn_lt (by omega) (by omega)) (by omega)).2.2
                            refine G_istore (L' := [(8, .int z630618), (0, .ref q590254), (1, .ref q590255), (2, .int g628709), (3, .ref q628852), (4, .int g630488), (5, .ref q630489)]) dr_cX17_spill_336 (Nat.le_of_ble_eq_true rfl) rfl ?_
                            refine G_aload_n 1 dr_cX17_spill_338 rfl ?_
                            have fq630625 : fI (F630491 q590254) 14 = p630533 := by rw [he630525]; rfl
                            refine Gp_get 14 hm630524 he630525 dr_cX17_spill_339 (gk_X17 D I) (Nat.le_of_ble_eq_true rfl) wr_7_88 rfl ?_
                            refine G_sipush 2000 dr_cX17_spill_342 (by decide +kernel) ?_
                            refine G_icmp_ne 350 dr_cX17_spill_345 (by decide +kernel) (fun hc630626 => ?_) (fun hc630626 => ?_)
                            · have r630627 : p630533.toInt ≠ 2000 := gj_neq hc630626 (show Int32.toInt 2000 = 2000 by decide)
                              have bp630533' : gB p630533 0 1999 := ⟨by omega, by omega⟩
                              have r630628 := eO_r x630515 (by rw [he630574]; rfl) (uS_1 x630595 (by omega))
                              refine G_aload 6 dr_cX17_spill_350 rfl ?_
                              refine G_aload_n 1 dr_cX17_spill_352 rfl ?_
                              refine Gp_get 14 hm630524 he630525 dr_cX17_spill_353 (gk_X17 D I) (Nat.le_of_ble_eq_true rfl) wr_7_88 rfl ?_
                              refine Gp_put 1 hm630573 he630574 dr_cX17_spill_356 (gk_X15 D I) (Nat.le_of_ble_eq_true rfl) wr_9_182 rfl rfl rfl (Nat.le_of_ble_eq_true rfl) (fun F630629 e630630 n630631 => ?_)
                              have r630632 := rk1_at hT630492 ht630500 he630574
                              have he630633 : F630629 q590254 = .inr (22, [.ref (gm_F630491 9 0), .ref (gm_F630491 9 1), .ref (gm_F630491 9 2), .ref (gm_F630491 9 3), .ref (gm_F630491 9 4), .ref (gm_F630491 9 5), .ref (gm_F630491 9 6), .ref (gm_F630491 9 7), .ref (gm_F630491 9 8), .int p630528, .int p630529, .int p630530, .int p630531, .int p630532, .int p630533, .ref (gm_F630491 9 15), .ref (gm_F630491 9 16), .ref (gm_F630491 9 17), .ref (gm_F630491 9 18), .ref (gm_F630491 9 19), .ref (gm_F630491 9 20), .ref (gm_F630491 9 21), .ref (gm_F630491 9 22), .int p630534, .int p630535, .int p630536, .int p630537, .int p630538, .ref q630526, .ref (gm_F630491 9 29), .int p630539, .ref (gm_F630491 9 31), .int p630540, .int p630541, .int p630542, .ref q630527]) := (n630631 q590254 (rn_oo he630525 he630574 (by decide))).trans he630525
                              have he630634 : F630629 (gm_F630491 9 19) = .inl (I .int, 2000, .inl f630617) := (n630631 (gm_F630491 9 19) (rn_ao he630616 he630574)).trans he630616
                              have he630635 : F630629 q630489 = .inr (20, [.int p630575, .int p630533, .int p630577, .int p630578, .int p630579, .int p630580, .int p630581]) := e630630
                              have mk630636 : mKp (F590253 q590254) (F630629 q590254) := mKp_tr x630517 (mKp_eq (n630631 q590254 (rn_ty ht630519 ht630500 (by decide))))
                              have kp630637 : F630629 (γ0 9 3) = F590253 (γ0 9 3) := (n630631 (γ0 9 3) (rn_ty (rSk_k hs630493 k0_3 (by decide) (by decide)) ht630500 (by decide))).trans x630516
                              have kp630638 : F630629 (γ0 9 19) = F625428 (γ0 9 19) := (n630631 (γ0 9 19) (rn_ty (rSk_k hs630493 k0_19 (by decide) (by decide)) ht630500 (by decide))).trans x630508
                              have fq630639 : F630629 q630489 = cF (F630491 q630489) 1 (.int p630533) := by rw [he630635, he630574]; rfl
                              have hT630640 : RS D I P630490 F630629 gm_F630491 el_F630491 := RS_set hT630492 n630631 ht630500 (by decide) ⟨p630575, p630533, p630577, p630578, p630579, p630580, p630581, he630635, bp630575, bp630533', bp630579, bp630580, bp630581, (gHe r630582), (gHe r630583), (gHe r630584), r630632.1, r630632.2⟩
                              have hs630642 := rSk_put hs630493 hT630640 n630631 ht630500 (by decide) (by decide) (Or.inr (Or.inl hf630501))
                              have hm630644 : q628852 ∈ P630490 := RS_m hT630640 ht630496 (by decide)
                              obtain ⟨q630646, q630647, p630648, p630649, he630645, ht630656, ht630650, ht630651, ht630652, ht630653, ht630654, bp630648, bp630649, r630655, r630657, r630658⟩ := show rk_2 gm_F630491 q628852 (F630629 q628852) from RS_o hT630640 ht630496
                              have hf630659 : gm_F630491 1 q630646 = f := (show gm_F630491 1 q630646 = gm_F630491 1 q628852 from ht630651).trans hf630497
                              have hf630660 : gm_F630491 1 q630647 = f := (show gm_F630491 1 q630647 = gm_F630491 1 q628852 from ht630653).trans hf630497
                              have r630661 : gm_F630491 6 (gm_F630491 1 q628852) = gm_F630491 6 f := by rw [hf630497]
                              have r630662 : gm_F630491 7 (gm_F630491 1 q628852) = gm_F630491 7 f := by rw [hf630497]
                              have r630663 : gm_F630491 19 (gm_F630491 1 q628852) = gm_F630491 19 f := by rw [hf630497]
                              have r630664 := r630655.resolve_left (by omega)
                              clear r630655
                              have r630665 : gm_F630491 2 (gm_F630491 14 q628852) = gm_F630491 2 q630646 := by rw [ht630656.1]
                              have pl630643 := sp_put hT630492 ht630520 hf630521 x630509 n630631 x630510 (show (g628709.toInt : Int).toNat < gm_F630491 6 f from tn_lt (by omega) (by omega)) (by unfold rwL; rw [r630499]; exact tn_le0 (by omega) (by omega))
                              have rn630667 : rNx (nSp (cB (F590253 (γ0 9 3))) (cB (F625428 (γ0 9 19)))) (F630629 q630489) := rS2_n he630574 he630635 x630511 (fun _ => Or.inl (by omega))
                              have pl630666 := sp_fin pl630643 x630510 rn630667 (rfl : (g630488.toInt : Int).toNat + 1 = (g630488.toInt : Int).toNat + 1)
                              refine G_aload_n 1 dr_cX17_spill_359 rfl ?_
                              refine G_dup dr_cX17_spill_360 rfl ?_
                              have fq630668 : fI (F630629 q590254) 14 = p630533 := by rw [he630633]; rfl
                              refine Gp_get 14 hm630524 he630633 dr_cX17_spill_361 (gk_X17 D I) (Nat.le_of_ble_eq_true rfl) wr_7_88 rfl ?_
                              refine G_iconst 1 dr_cX17_spill_364 (by decide +kernel) ?_
                              refine G_iadd dr_cX17_spill_365 (G_nam fun z630669 hz630669 => ?_)
                              have ez630669 : z630669.toInt = p630533.toInt + 1 := by rw [gI_add hz630669 bp630533' (gBl (show Int32.toInt 1 = 1 by decide)) (by decide) (by decide), show Int32.toInt 1 = 1 from by decide]
                              have bz630669 : gB z630669 1 2000 := gB_add (gI_add hz630669 bp630533' (gBl (show Int32.toInt 1 = 1 by decide)) (by decide) (by decide)) bp630533' (gBl (show Int32.toInt 1 = 1 by decide)) (by decide) (by decide)
                              refine Gp_put 14 hm630524 he630633 dr_cX17_spill_366 (gk_X17 D I) (Nat.le_of_ble_eq_true rfl) wr_7_88 rfl rfl rfl (Nat.le_of_ble_eq_true rfl) (fun F630670 e630671 n630672 => ?_)
                              have he630673 : F630670 q630489 = .inr (20, [.int p630575, .int p630533, .int p630577, .int p630578, .int p630579, .int p630580, .int p630581]) := (n630672 q630489 (rn_oo he630635 he630633 (by decide))).trans he630635
                              have he630674 : F630670 (gm_F630491 9 19) = .inl (I .int, 2000, .inl f630617) := (n630672 (gm_F630491 9 19) (rn_ao he630634 he630633)).trans he630634
                              have he630675 : F630670 q628852 = .inr (17, [.ref q630646, .ref q630647, .int p630648, .int p630649]) := (n630672 q628852 (rn_oo he630645 he630633 (by decide))).trans he630645
                              have he630676 : F630670 q590254 = .inr (22, [.ref (gm_F630491 9 0), .ref (gm_F630491 9 1), .ref (gm_F630491 9 2), .ref (gm_F630491 9 3), .ref (gm_F630491 9 4), .ref (gm_F630491 9 5), .ref (gm_F630491 9 6), .ref (gm_F630491 9 7), .ref (gm_F630491 9 8), .int p630528, .int p630529, .int p630530, .int p630531, .int p630532, .int z630669, .ref (gm_F630491 9 15), .ref (gm_F630491 9 16), .ref (gm_F630491 9 17), .ref (gm_F630491 9 18), .ref (gm_F630491 9 19), .ref (gm_F630491 9 20), .ref (gm_F630491 9 21), .ref (gm_F630491 9 22), .int p630534, .int p630535, .int p630536, .int p630537, .int p630538, .ref q630526, .ref (gm_F630491 9 29), .int p630539, .ref (gm_F630491 9 31), .int p630540, .int p630541, .int p630542, .ref q630527]) := e630671
                              have mk630677 : mKp (F590253 q590254) (F630670 q590254) := mKp_tr mk630636 (by rw [he630633, he630676]; exact ⟨rfl, rfl⟩)
                              have kp630678 : F630670 (γ0 9 3) = F590253 (γ0 9 3) := (n630672 (γ0 9 3) (rn_ty (rSk_k hs630642 k0_3 (by decide) (by decide)) ht630519 (by decide))).trans kp630637
                              have kp630679 : F630670 (γ0 9 19) = F625428 (γ0 9 19) := (n630672 (γ0 9 19) (rn_ty (rSk_k hs630642 k0_19 (by decide) (by decide)) ht630519 (by decide))).trans kp630638
                              have fq630680 : F630670 q590254 = cF (F630629 q590254) 14 (.int z630669) := by rw [he630676, he630633]; rfl
                              have hT630681 : RS D I P630490 F630670 gm_F630491 el_F630491 := RS_set hT630640 n630672 ht630519 (by decide) ⟨q630526, q630527, p630528, p630529, p630530, p630531, p630532, z630669, p630534, p630535, p630536, p630537, p630538, p630539, p630540, p630541, p630542, he630676, ⟨(hB630569.1), (hB630569.2.1), bp630530, (gB_w bz630669 (by decide) (by decide)), (hB630569.2.2.2.2.1), (hB630569.2.2.2.2.2.1), (hB630569.2.2.2.2.2.2.1), (hB630569.2.2.2.2.2.2.2.1), (hB630569.2.2.2.2.2.2.2.2)⟩, ht630543, ht630544, ht630545, ht630546, ht630547, ht630548, ht630549, ht630550, ht630551, ht630552, ht630553, ht630554, ht630555, ht630556, ht630557, ht630558, ht630559, ht630560, ht630561, ht630562, ht630563, ht630564, ht630565, ht630566, hB630570⟩
                              have hs630683 := rSk_put hs630642 hT630681 n630672 ht630519 (by decide) (by decide) (Or.inr (Or.inr (by decide)))
                              have pl630684 := rPl_fr hT630640 ht630520 hf630521 pl630666 (fun b hb _ => n630672 b (rn_ty (show rKd gm_F630491 b 1 from hb) ht630519 (by decide)))
                              have ac630685 : (fI (F630670 q590254) 11).toInt = p630530.toInt := by rw [he630676]; rfl
                              have ac630686 : (fI (F630670 q590254) 14).toInt = z630669.toInt := by rw [he630676]; rfl
                              refine G_aload_n 2 dr_cX17_spill_369 rfl ?_
                              have rg630687 := rM_ge hT630681 ht630520 hf630521
                              have rm630688 := rM_bd hB630495
                              have bd630689 := rBd_c hT630681 ht630520 hf630521 hB630495
                              have rc630690 := rc_at hT630681 ht630520 hf630521
                              obtain ⟨q630697, hl630698⟩ : ∃ z, z = gm_F630491 14 q628852 := ⟨_, rfl⟩
                              have hl630699 : gm_F630491 0 q630697 = 3 ∨ gm_F630491 0 q630697 = 103 := by rw [hl630698, ← r630499]; exact (RS_lst hT630681 rc630690.2.1 r630498).1
                              refine Gt_row (c := q590255) (f := f) hl0 dr_cX17_spill_370 ⟨wr_10_206, wr_1_15, wr_10_82, by decide, rfl, (Nat.le_of_ble_eq_true rfl), (Nat.le_of_ble_eq_true rfl)⟩ wr_10_80 wr_10_81 hT630681 ht630520 hf630521 (Nat.le_trans bd630689.2.2.1 (Nat.le_trans hBk (by decide))) (rm_cs hph630494 rg630687.2.1 rm630688 (by decide)) (rm_sl hph630494 rg630687.2.1 rm630688 rm_s18) (Nat.le_of_ble_eq_true rfl) (fun P630691 F630692 gm_F630692 el_F630692 q630693 dc630694 ds630695 hq630696 => ?_)
                              have hq630700 := hq630696
                              have pl630701 := rPl_row hT630681 ht630520 hf630521 hq630696 pl630684
                              obtain ⟨hk630702, x0630703, x1630704, x22630705, x8630706, h16630707, h18630708, hnu630709, hot630710, h45630711, hf0630712, ⟨hr1630713, hr2630714⟩, hM630715, hBB630716⟩ := hq630696
                              have hk630717 := rSk_of hk630702
                              obtain ⟨nu630718, nu630719, nu630720, nu630721⟩ := hnu630709
                              have hT630722 := hk630717.1
                              have hs630723 := rSk_tr hs630683 hk630717 (by decide) (by decide) (by decide)
                              have kp630724 : F630692 (γ0 9 3) = F590253 (γ0 9 3) := (rSk_F hk630717 (rSk_k hs630683 k0_3 (by decide) (by decide)) (by decide) (by decide)).trans kp630678
                              have kp630725 : F630692 (γ0 9 19) = F625428 (γ0 9 19) := (rSk_F hk630717 (rSk_k hs630683 k0_19 (by decide) (by decide)) (by decide) (by decide)).trans kp630679
                              have r630726 := rSk_F hk630717 ht630519 (by decide) (by decide)
                              have ht630727 : rKd gm_F630692 q590254 10 := rSk_k hk630717 ht630519 (by decide) (by decide)
                              have ht630728 : rKd gm_F630692 q590255 9 := rSk_k hk630717 ht630520 (by decide) (by decide)
                              have hf630729 : gm_F630692 1 q590255 = f := rSk_1 hk630717 ht630520 (by decide) hf630521
                              have ht630730 : rKd gm_F630692 q628852 2 := rSk_k hk630717 ht630496 (by decide) (by decide)
                              have hf630731 : gm_F630692 1 q628852 = f := rSk_1 hk630717 ht630496 (by decide) hf630497
                              have ht630732 : rKd gm_F630692 q630489 1 := rSk_k hk630717 ht630500 (by decide) (by decide)
                              have hf630733 : gm_F630692 1 q630489 = f := rSk_1 hk630717 ht630500 (by decide) hf630501
                              have ht630734 : rKd gm_F630692 q630646 3 := rSk_k hk630717 ht630650 (by decide) (by decide)
                              have hf630735 : gm_F630692 1 q630646 = f := rSk_1 hk630717 ht630650 (by decide) hf630659
                              have mk630736 : mKp (F590253 q590254) (F630692 q590254) := mKp_tr mk630677 (mKp_eq (rSk_F hk630717 ht630519 (by decide) (by decide)))
                              have r630737 := (rSk_s hk630717 ht630520 (by decide)).2.1
                              have r630738 := hot630710 _ (by rw [rc630690.2.1]; decide) (by rw [rc630690.2.1]; decide)
                              have r630739 : g628709.toInt.toNat < gm_F630692 2 (gm_F630692 14 q590255) := by rw [r630737, r630738.1]; exact r630498
                              have r630740 : el_F630692 (gm_F630692 14 q590255) g628709.toInt.toNat = q628852 := by rw [r630737, r630738.2]; exact r630499
                              have he630741 : F630692 q630489 = .inr (20, [.int p630575, .int p630533, .int p630577, .int p630578, .int p630579, .int p630580, .int p630581]) := (rSk_F hk630717 ht630500 (by decide) (by decide)).trans he630673
                              have hm630742 : q630489 ∈ P630691 := RS_m hT630722 ht630732 (by decide)
                              clear bp630648 bp630649 r630657 r630658 rg630687 rm630688 bd630689 rc630690
                              have hm630743 : q590254 ∈ P630691 := RS_m hT630722 ht630727 (by decide)
                              refine rk10_e (show rk_10 gm_F630692 (F630692 q590254) from RS_o hT630722 ht630727) (fun q630745 q630746 p630747 p630748 p630749 p630750 p630751 p630752 p630753 p630754 p630755 p630756 p630757 p630758 p630759 p630760 p630761 he630744 hB630788 ht630762 ht630763 ht630764 ht630765 ht630766 ht630767 ht630768 ht630769 ht630770 ht630771 ht630772 ht630773 ht630774 ht630775 ht630776 ht630777 ht630778 ht630779 ht630780 ht630781 ht630782 ht630783 ht630784 ht630785 hB630789 => ?_)
                              have r630790 : p630749.toInt = p630530.toInt := by have z : p630749 = p630530 := congrArg (fun e => fI e 11) (he630744.symm.trans (r630726.trans he630676)); rw [z]
                              have bp630749 : gB p630749 0 100 := (hB630788.2.2.1)
                              have r630791 : p630752.toInt = z630669.toInt := by have z : p630752 = z630669 := congrArg (fun e => fI e 14) (he630744.symm.trans (r630726.trans he630676)); rw [z]
                              have bp630752 : gB p630752 0 2000 := (hB630788.2.2.2.1)
                              have bp630752' : gB p630752 1 2000 := ⟨by omega, by omega⟩
                              have sz630792 := (rSk_s hk630717 ht630496 (by decide)).2.1
                              have sz630793 := congrArg (gm_F630692 2) sz630792
                              have sz630794 := (hot630710 q630697 (by omega) (by omega)).1
                              rw [hl630698] at sz630794
                              clear hl630699
                              have sz630795 := (hot630710 q630646 (rT0 ht630650 (by decide)) (by rw [show _ = 3 from ht630650]; decide)).1
                              have r630796 := hf0630712.2.2
                              have hB630797 : rBd gm_F630692 el_F630692 f B := hBB630716 B (by omega) hB630495
                              have ht630798 : rKd gm_F630692 q630693 101 := x0630703
                              have r630799 : gm_F630692 8 q630693 < gm_F630692 16 f := rm_x8 x8630706 h16630707 rfl
                              have hph630800 : rPh γ0 el0 f ≤ rPh gm_F630692 el_F630692 f := rm_ph hph630494 hr2630714
                              have pk630801 : rPh gm_F630692 el_F630692 f ≤ 387 * B + 6000 := rm_pk (rM_ge hT630722 ht630728 hf630729).1 (rM_bd hB630797)
                              have hm630802 : q630693 ∈ P630691 := RS_m hT630722 ht630798 (by decide)
                              obtain ⟨p630804, p630805, p630806, p630807, p630808, p630809, p630810, he630803, bp630804, bp630805, bp630808, bp630809, bp630810, r630811, r630812, r630813⟩ := show rkR (F630692 q630693) from RS_o hT630722 ht630798
                              have bp630806 := gB_any p630806
                              have bp630807 := gB_any p630807
                              replace r630811 : gH _ := r630811
                              replace r630812 : gH _ := r630812
                              replace r630813 : gH _ := r630813
                              have r630814 : gm_F630692 7 (gm_F630692 1 q630693) = gm_F630692 7 f := by rw [x1630704]
                              have r630815 : p630809.toInt = 0 := by have z := hf0630712.1; rw [he630803] at z; exact z
                              have bp630809' : gB p630809 0 0 := gB_t0 r630815
                              have r630816 : p630810.toInt = 0 := by have z := hf0630712.2.1; rw [he630803] at z; exact z
                              have bp630810' : gB p630810 0 0 := gB_t0 r630816
                              refine G_widen (cs' := ((rPh gm_F630692 el_F630692 f - rPh γ0 el0 f) / 18)) (sl' := (rPh gm_F630692 el_F630692 f - rPh γ0 el0 f)) (rm_wc hph630494 hr1630713) (rm_ws hph630494 hr2630714) ?_
                              refine G_astore (L' := [(9, .ref q630693), (8, .int z630618), (0, .ref q590254), (1, .ref q590255), (2, .int g628709), (3, .ref q628852), (4, .int g630488), (5, .ref q630489)]) dr_cX17_spill_373 (Nat.le_of_ble_eq_true rfl) rfl ?_
                              refine G_aload 0 dr_cX17_spill_375 rfl ?_
                              refine G_bipush 23 dr_cX17_spill_377 (by decide +kernel) ?_
                              refine Gp_put 0 hm630802 he630803 dr_cX17_spill_379 (gk_X15 D I) (Nat.le_of_ble_eq_true rfl) wr_9_177 rfl rfl rfl (Nat.le_of_ble_eq_true rfl) (fun F630817 e630818 n630819 => ?_)
                              have he630820 : F630817 q630489 = .inr (20, [.int p630575, .int p630533, .int p630577, .int p630578, .int p630579, .int p630580, .int p630581]) := (n630819 q630489 (rn_ty ht630732 ht630798 (by decide))).trans he630741
                              have he630821 : F630817 q590254 = .inr (22, [.ref (gm_F630692 9 0), .ref (gm_F630692 9 1), .ref (gm_F630692 9 2), .ref (gm_F630692 9 3), .ref (gm_F630692 9 4), .ref (gm_F630692 9 5), .ref (gm_F630692 9 6), .ref (gm_F630692 9 7), .ref (gm_F630692 9 8), .int p630747, .int p630748, .int p630749, .int p630750, .int p630751, .int p630752, .ref (gm_F630692 9 15), .ref (gm_F630692 9 16), .ref (gm_F630692 9 17), .ref (gm_F630692 9 18), .ref (gm_F630692 9 19), .ref (gm_F630692 9 20), .ref (gm_F630692 9 21), .ref (gm_F630692 9 22), .int p630753, .int p630754, .int p630755, .int p630756, .int p630757, .ref q630745, .ref (gm_F630692 9 29), .int p630758, .ref (gm_F630692 9 31), .int p630759, .int p630760, .int p630761, .ref q630746]) := (n630819 q590254 (rn_oo he630744 he630803 (by decide))).trans he630744
                              have he630822 : F630817 q630693 = .inr (20, [.int 23, .int p630805, .int p630806, .int p630807, .int p630808, .int p630809, .int p630810]) := e630818
                              have mk630823 : mKp (F590253 q590254) (F630817 q590254) := mKp_tr mk630736 (mKp_eq (n630819 q590254 (rn_ty ht630727 ht630798 (by decide))))
                              have kp630824 : F630817 (γ0 9 3) = F590253 (γ0 9 3) := (n630819 (γ0 9 3) (rn_ty (rSk_k hs630723 k0_3 (by decide) (by decide)) ht630798 (by decide))).trans kp630724
                              have kp630825 : F630817 (γ0 9 19) = F625428 (γ0 9 19) := (n630819 (γ0 9 19) (rn_ty (rSk_k hs630723 k0_19 (by decide) (by decide)) ht630798 (by decide))).trans kp630725
                              have fq630826 : F630817 q630693 = cF (F630692 q630693) 0 (.int 23) := by rw [he630822, he630803]; rfl
                              refine G_aload 0 dr_cX17_spill_382 rfl ?_
                              refine G_iload 1 dr_cX17_spill_384 rfl ?_
                              refine Gp_put 4 hm630802 he630822 dr_cX17_spill_386 (gk_X15 D I) (Nat.le_of_ble_eq_true rfl) wr_9_193 rfl rfl rfl (Nat.le_of_ble_eq_true rfl) (fun F630827 e630828 n630829 => ?_)
                              have he630830 : F630827 q630489 = .inr (20, [.int p630575, .int p630533, .int p630577, .int p630578, .int p630579, .int p630580, .int p630581]) := (n630829 q630489 (rn_ty ht630732 ht630798 (by decide))).trans he630820
                              have he630831 : F630827 q590254 = .inr (22, [.ref (gm_F630692 9 0), .ref (gm_F630692 9 1), .ref (gm_F630692 9 2), .ref (gm_F630692 9 3), .ref (gm_F630692 9 4), .ref (gm_F630692 9 5), .ref (gm_F630692 9 6), .ref (gm_F630692 9 7), .ref (gm_F630692 9 8), .int p630747, .int p630748, .int p630749, .int p630750, .int p630751, .int p630752, .ref (gm_F630692 9 15), .ref (gm_F630692 9 16), .ref (gm_F630692 9 17), .ref (gm_F630692 9 18), .ref (gm_F630692 9 19), .ref (gm_F630692 9 20), .ref (gm_F630692 9 21), .ref (gm_F630692 9 22), .int p630753, .int p630754, .int p630755, .int p630756, .int p630757, .ref q630745, .ref (gm_F630692 9 29), .int p630758, .ref (gm_F630692 9 31), .int p630759, .int p630760, .int p630761, .ref q630746]) := (n630829 q590254 (rn_oo he630821 he630822 (by decide))).trans he630821
                              have he630832 : F630827 q630693 = .inr (20, [.int 23, .int p630805, .int p630806, .int p630807, .int z630618, .int p630809, .int p630810]) := e630828
                              have mk630833 : mKp (F590253 q590254) (F630827 q590254) := mKp_tr mk630823 (mKp_eq (n630829 q590254 (rn_ty ht630727 ht630798 (by decide))))
                              have n630834 : ∀ b, b ≠ q630693 → F630827 b = F630692 b := fun b hb => (n630829 b hb).trans (n630819 b hb)
                              have kp630835 : F630827 (γ0 9 3) = F590253 (γ0 9 3) := (n630829 (γ0 9 3) (rn_ty (rSk_k hs630723 k0_3 (by decide) (by decide)) ht630798 (by decide))).trans kp630824
                              have kp630836 : F630827 (γ0 9 19) = F625428 (γ0 9 19) := (n630829 (γ0 9 19) (rn_ty (rSk_k hs630723 k0_19 (by decide) (by decide)) ht630798 (by decide))).trans kp630825
                              have fq630837 : F630827 q630693 = cF (F630817 q630693) 4 (.int z630618) := by rw [he630832, he630822]; rfl
                              refine G_aload 0 dr_cX17_spill_389 rfl ?_
                              refine G_aload 7 dr_cX17_spill_391 rfl ?_
                              have fq630838 : fI (F630827 q630489) 1 = p630533 := by rw [he630830]; rfl
                              refine Gp_get 1 hm630742 he630830 dr_cX17_spill_393 (gk_X15 D I) (Nat.le_of_ble_eq_true rfl) wr_9_182 rfl ?_
                              refine Gp_put 2 hm630802 he630832 dr_cX17_spill_396 (gk_X15 D I) (Nat.le_of_ble_eq_true rfl) wr_9_186 rfl rfl rfl (Nat.le_of_ble_eq_true rfl) (fun F630839 e630840 n630841 => ?_)
                              have he630842 : F630839 q630489 = .inr (20, [.int p630575, .int p630533, .int p630577, .int p630578, .int p630579, .int p630580, .int p630581]) := (n630841 q630489 (rn_ty ht630732 ht630798 (by decide))).trans he630830
                              have he630843 : F630839 q590254 = .inr (22, [.ref (gm_F630692 9 0), .ref (gm_F630692 9 1), .ref (gm_F630692 9 2), .ref (gm_F630692 9 3), .ref (gm_F630692 9 4), .ref (gm_F630692 9 5), .ref (gm_F630692 9 6), .ref (gm_F630692 9 7), .ref (gm_F630692 9 8), .int p630747, .int p630748, .int p630749, .int p630750, .int p630751, .int p630752, .ref (gm_F630692 9 15), .ref (gm_F630692 9 16), .ref (gm_F630692 9 17), .ref (gm_F630692 9 18), .ref (gm_F630692 9 19), .ref (gm_F630692 9 20), .ref (gm_F630692 9 21), .ref (gm_F630692 9 22), .int p630753, .int p630754, .int p630755, .int p630756, .int p630757, .ref q630745, .ref (gm_F630692 9 29), .int p630758, .ref (gm_F630692 9 31), .int p630759, .int p630760, .int p630761, .ref q630746]) := (n630841 q590254 (rn_oo he630831 he630832 (by decide))).trans he630831
                              have he630844 : F630839 q630693 = .inr (20, [.int 23, .int p630805, .int p630533, .int p630807, .int z630618, .int p630809, .int p630810]) := e630840
                              have mk630845 : mKp (F590253 q590254) (F630839 q590254) := mKp_tr mk630833 (mKp_eq (n630841 q590254 (rn_ty ht630727 ht630798 (by decide))))
                              have n630846 : ∀ b, b ≠ q630693 → F630839 b = F630692 b := fun b hb => (n630841 b hb).trans (n630834 b hb)
                              have kp630847 : F630839 (γ0 9 3) = F590253 (γ0 9 3) := (n630841 (γ0 9 3) (rn_ty (rSk_k hs630723 k0_3 (by decide) (by decide)) ht630798 (by decide))).trans kp630835
                              have kp630848 : F630839 (γ0 9 19) = F625428 (γ0 9 19) := (n630841 (γ0 9 19) (rn_ty (rSk_k hs630723 k0_19 (by decide) (by decide)) ht630798 (by decide))).trans kp630836
                              have fq630849 : F630839 q630693 = cF (F630827 q630693) 2 (.int p630533) := by rw [he630844, he630832]; rfl
                              refine G_aload 0 dr_cX17_spill_399 rfl ?_
                              refine G_iconst 1 dr_cX17_spill_401 (by decide +kernel) ?_
                              refine Gp_put 5 hm630802 he630844 dr_cX17_spill_402 (gk_X15 D I) (Nat.le_of_ble_eq_true rfl) wr_9_197 rfl rfl rfl (Nat.le_of_ble_eq_true rfl) (fun F630850 e630851 n630852 => ?_)
                              have he630853 : F630850 q630489 = .inr (20, [.int p630575, .int p630533, .int p630577, .int p630578, .int p630579, .int p630580, .int p630581]) := (n630852 q630489 (rn_ty ht630732 ht630798 (by decide))).trans he630842
                              have he630854 : F630850 q590254 = .inr (22, [.ref (gm_F630692 9 0), .ref (gm_F630692 9 1), .ref (gm_F630692 9 2), .ref (gm_F630692 9 3), .ref (gm_F630692 9 4), .ref (gm_F630692 9 5), .ref (gm_F630692 9 6), .ref (gm_F630692 9 7), .ref (gm_F630692 9 8), .int p630747, .int p630748, .int p630749, .int p630750, .int p630751, .int p630752, .ref (gm_F630692 9 15), .ref (gm_F630692 9 16), .ref (gm_F630692 9 17), .ref (gm_F630692 9 18), .ref (gm_F630692 9 19), .ref (gm_F630692 9 20), .ref (gm_F630692 9 21), .ref (gm_F630692 9 22), .int p630753, .int p630754, .int p630755, .int p630756, .int p630757, .ref q630745, .ref (gm_F630692 9 29), .int p630758, .ref (gm_F630692 9 31), .int p630759, .int p630760, .int p630761, .ref q630746]) := (n630852 q590254 (rn_oo he630843 he630844 (by decide))).trans he630843
                              have he630855 : F630850 q630693 = .inr (20, [.int 23, .int p630805, .int p630533, .int p630807, .int z630618, .int 1, .int p630810]) := e630851
                              have mk630856 : mKp (F590253 q590254) (F630850 q590254) := mKp_tr mk630845 (mKp_eq (n630852 q590254 (rn_ty ht630727 ht630798 (by decide))))
                              have n630857 : ∀ b, b ≠ q630693 → F630850 b = F630692 b := fun b hb => (n630852 b hb).trans (n630846 b hb)
                              have kp630858 : F630850 (γ0 9 3) = F590253 (γ0 9 3) := (n630852 (γ0 9 3) (rn_ty (rSk_k hs630723 k0_3 (by decide) (by decide)) ht630798 (by decide))).trans kp630847
                              have kp630859 : F630850 (γ0 9 19) = F625428 (γ0 9 19) := (n630852 (γ0 9 19) (rn_ty (rSk_k hs630723 k0_19 (by decide) (by decide)) ht630798 (by decide))).trans kp630848
                              have fq630860 : F630850 q630693 = cF (F630839 q630693) 5 (.int 1) := by rw [he630855, he630844]; rfl
                              obtain ⟨z630861, hz630861⟩ : ∃ z : Int32, z = g630488 + Int32.ofInt 1 := ⟨_, rfl⟩
                              have ez630861 : z630861.toInt = g630488.toInt + 1 := gI_inc hz630861 (by decide) bg630488 (by decide) (by decide)
                              have bz630861 : gB z630861 1 1000002 := ⟨by omega, by omega⟩
                              refine G_iinc (L' := [(4, .int z630861), (9, .ref q630693), (8, .int z630618), (0, .ref q590254), (1, .ref q590255), (2, .int g628709), (3, .ref q628852), (5, .ref q630489)]) z630861 6 dr_cX17_spill_405 rfl hz630861.symm (Nat.le_of_ble_eq_true rfl) rfl ?_
                              refine G_aload_n 6 dr_cX17_spill_408 rfl ?_
                              have hT630862 : RS D I P630691 F630850 gm_F630692 el_F630692 := RS_set hT630722 n630857 ht630798 (by decide) ⟨23, p630805, p630533, p630807, z630618, 1, p630810, he630855, (gB_w (gBl (show Int32.toInt 23 = 23 by decide)) (by decide) (by decide)), bp630805, bz630618', (gB_w (gBl (show Int32.toInt 1 = 1 by decide)) (by decide) (by decide)), (gB_w bp630810' (by decide) (by decide)), (Or.inr (by decide)), (Or.inr bp630533'), (gHe r630813)⟩
                              have hs630864 := rSk_put hs630723 hT630862 n630857 ht630798 (by decide) (by decide) (Or.inr (Or.inl x1630704))
                              have hm630865 : q628852 ∈ P630691 := RS_m hT630862 ht630730 (by decide)
                              obtain ⟨q630867, q630868, p630869, p630870, he630866, ht630877, ht630871, ht630872, ht630873, ht630874, ht630875, bp630869, bp630870, r630876, r630878, r630879⟩ := show rk_2 gm_F630692 q628852 (F630850 q628852) from RS_o hT630862 ht630730
                              have hf630880 : gm_F630692 1 q630867 = f := (show gm_F630692 1 q630867 = gm_F630692 1 q628852 from ht630872).trans hf630731
                              have hf630881 : gm_F630692 1 q630868 = f := (show gm_F630692 1 q630868 = gm_F630692 1 q628852 from ht630874).trans hf630731
                              have r630882 : gm_F630692 6 (gm_F630692 1 q628852) = gm_F630692 6 f := by rw [hf630731]
                              have r630883 : gm_F630692 7 (gm_F630692 1 q628852) = gm_F630692 7 f := by rw [hf630731]
                              have r630884 : gm_F630692 19 (gm_F630692 1 q628852) = gm_F630692 19 f := by rw [hf630731]
                              have r630885 := r630876.resolve_left (by omega)
                              clear r630876
                              have r630886 : gm_F630692 2 (gm_F630692 14 q628852) = gm_F630692 2 q630867 := by rw [ht630877.1]
                              have fq630887 : fR (F630850 q628852) 0 = q630867 := by rw [he630866]; rfl
                              refine Gp_get 0 hm630865 he630866 dr_cX17_spill_409 (gk_X12 D I) (Nat.le_of_ble_eq_true rfl) wr_9_220 rfl ?_
                              refine G_iload 0 dr_cX17_spill_412 rfl ?_
                              refine G_aload 1 dr_cX17_spill_414 rfl ?_
                              have pl630888 := rPl_fr hT630722 ht630728 hf630729 pl630701 (fun b hb _ => n630857 b (rn_ty (show rKd gm_F630692 b 1 from hb) ht630798 (by decide)))
                              have rg630889 := rM_ge hT630862 ht630728 hf630729
                              have rm630890 := rM_bd hB630797
                              have bd630891 := rBd_c hT630862 ht630728 hf630729 hB630797
                              have rc630892 := rc_at hT630862 ht630728 hf630729
                              have r630894 : gm_F630692 14 (el_F630692 (gm_F630692 14 q590255) g628709.toInt.toNat) = q630867 := by rw [r630740]; exact ht630877.1
                              have r630895 := rg630889.2.2 _ r630739
                              rw [r630894] at r630895
                              have r630896 := bd630891.2.2.2 _ r630739
                              rw [r630894] at r630896
                              have r630897 : gm_F630692 7 (gm_F630692 1 q630693) = gm_F630692 7 f := by rw [x1630704]
                              have hx630898 : rk_1 gm_F630692 q630693 (F630850 q630693) := ⟨23, p630805, p630533, p630807, z630618, 1, p630810, he630855, (gB_w (gBl (show Int32.toInt 23 = 23 by decide)) (by decide) (by decide)), bp630805, bz630618', (gB_w (gBl (show Int32.toInt 1 = 1 by decide)) (by decide) (by decide)), (gB_w bp630810' (by decide) (by decide)), (Or.inr (by decide)), (Or.inr bp630533'), (gHe r630813), (Or.inr (by omega)), (Or.inl x22630705)⟩
                              refine Gt_ins (c := q590255) (f := f) hl0 dr_cX17_spill_416 ⟨wr_10_207, wr_1_18, wr_10_210, by decide, rfl, (Nat.le_of_ble_eq_true rfl), (Nat.le_of_ble_eq_true rfl)⟩ wr_10_208 wr_10_209 hT630862 ht630871 hf630880 ht630798 x1630704 x22630705 r630799 (by omega) ht630728 hf630729 r630739 r630894 hx630898 (by omega) (by omega) (Nat.le_trans r630896 (Nat.le_trans hBk (by decide))) (rm_cs hph630800 r630895 rm630890 (by decide)) (rm_sl hph630800 r630895 rm630890 rm_s11) (Nat.le_of_ble_eq_true rfl) (fun P630899 F630893 gm_F630893 el_F630893 dc630900 ds630901 hq630902 => ?_)
                              have hq630903 := hq630902
                              have pl630904 := sp_ins (j1 := ((g630488.toInt : Int).toNat + 1) + 1) hT630862 ht630728 hf630729 hq630902 r630894 (tn_lt (by omega) (by omega)) (tn_le0 (by omega) (by omega)) (by rw [(show z630861.toInt.toNat = ((g630488.toInt : Int).toNat + 1) from tn_eq1 (by omega) (by omega))]; exact pl630888) (nm_sto he630855 (by decide)).1 (nm_sto he630855 (by decide)).2 (tn_ge (show 100 ≤ p630533.toInt by omega)) (congrArg (fun k => k + 1) (show z630861.toInt.toNat = ((g630488.toInt : Int).toNat + 1) from tn_eq1 (by omega) (by omega)).symm)
                              obtain ⟨hk630905, x0630906, h2630907, hel630908, hot630909, h16630910, h18630911, hnu630912, hFx630913, hr630914, hM630915, hBB630916⟩ := hq630902
                              have hk630917 := rSk_of hk630905
                              have r630918 : (fI (F630893 q590255) 3).toInt = (fI (F630850 q590255) 3).toInt := by rw [rSk_F hk630917 ht630728 (by decide) (by decide)]
                              obtain ⟨nu630919, nu630920, nu630921, nu630922⟩ := hnu630912
                              have hT630923 := hk630917.1
                              have hs630924 := rSk_tr hs630864 hk630917 (by decide) (by decide) (by decide)
                              have kp630925 : F630893 (γ0 9 3) = F590253 (γ0 9 3) := (rSk_F hk630917 (rSk_k hs630864 k0_3 (by decide) (by decide)) (by decide) (by decide)).trans kp630858
                              have kp630926 : F630893 (γ0 9 19) = F625428 (γ0 9 19) := (rSk_F hk630917 (rSk_k hs630864 k0_19 (by decide) (by decide)) (by decide) (by decide)).trans kp630859
                              have r630927 := rSk_F hk630917 ht630727 (by decide) (by decide)
                              have ht630928 : rKd gm_F630893 q590254 10 := rSk_k hk630917 ht630727 (by decide) (by decide)
                              have ht630929 : rKd gm_F630893 q590255 9 := rSk_k hk630917 ht630728 (by decide) (by decide)
                              have hf630930 : gm_F630893 1 q590255 = f := rSk_1 hk630917 ht630728 (by decide) hf630729
                              have ht630931 : rKd gm_F630893 q628852 2 := rSk_k hk630917 ht630730 (by decide) (by decide)
                              have hf630932 : gm_F630893 1 q628852 = f := rSk_1 hk630917 ht630730 (by decide) hf630731
                              have ht630933 : rKd gm_F630893 q630489 1 := rSk_k hk630917 ht630732 (by decide) (by decide)
                              have hf630934 : gm_F630893 1 q630489 = f := rSk_1 hk630917 ht630732 (by decide) hf630733
                              have ht630935 : rKd gm_F630893 q630646 3 := rSk_k hk630917 ht630734 (by decide) (by decide)
                              have hf630936 : gm_F630893 1 q630646 = f := rSk_1 hk630917 ht630734 (by decide) hf630735
                              have ht630937 : rKd gm_F630893 q630867 3 := rSk_k hk630917 ht630871 (by decide) (by decide)
                              have hf630938 : gm_F630893 1 q630867 = f := rSk_1 hk630917 ht630871 (by decide) hf630880
                              have mk630939 : mKp (F590253 q590254) (F630893 q590254) := mKp_tr mk630856 (mKp_eq (rSk_F hk630917 ht630727 (by decide) (by decide)))
                              have r630940 := (rSk_s hk630917 ht630728 (by decide)).2.1
                              have r630941 := hot630909 _ (by rw [rc630892.2.1]; decide) (fun q => by rw [q, show _ = 3 from ht630871] at rc630892; exact absurd rc630892.2.1 (by decide))
                              have r630942 : g628709.toInt.toNat < gm_F630893 2 (gm_F630893 14 q590255) := by rw [r630940, r630941.1]; exact r630739
                              have r630943 : el_F630893 (gm_F630893 14 q590255) g628709.toInt.toNat = q628852 := by rw [r630940, r630941.2]; exact r630740
                              have he630944 : F630893 q630489 = .inr (20, [.int p630575, .int p630533, .int p630577, .int p630578, .int p630579, .int p630580, .int p630581]) := (rSk_F hk630917 ht630732 (by decide) (by decide)).trans he630853
                              have hm630945 : q630489 ∈ P630899 := RS_m hT630923 ht630933 (by decide)
                              clear bp630804 bp630805 bp630808 bp630809 bp630810 bp630806 bp630807 bp630869 bp630870 r630878 r630879 rg630889 rm630890 bd630891 rc630892 r630895 r630896
                              clear r630811 r630812 r630813
                              have hm630946 : q590254 ∈ P630899 := RS_m hT630923 ht630928 (by decide)
                              refine rk10_e (show rk_10 gm_F630893 (F630893 q590254) from RS_o hT630923 ht630928) (fun q630948 q630949 p630950 p630951 p630952 p630953 p630954 p630955 p630956 p630957 p630958 p630959 p630960 p630961 p630962 p630963 p630964 he630947 hB630991 ht630965 ht630966 ht630967 ht630968 ht630969 ht630970 ht630971 ht630972 ht630973 ht630974 ht630975 ht630976 ht630977 ht630978 ht630979 ht630980 ht630981 ht630982 ht630983 ht630984 ht630985 ht630986 ht630987 ht630988 hB630992 => ?_)
                              have r630993 : p630952.toInt = p630749.toInt := by have z : p630952 = p630749 := congrArg (fun e => fI e 11) (he630947.symm.trans (r630927.trans he630854)); rw [z]
                              have bp630952 : gB p630952 0 100 := (hB630991.2.2.1)
                              have r630994 : p630955.toInt = p630752.toInt := by have z : p630955 = p630752 := congrArg (fun e => fI e 14) (he630947.symm.trans (r630927.trans he630854)); rw [z]
                              have bp630955 : gB p630955 0 2000 := (hB630991.2.2.2.1)
                              have bp630955' : gB p630955 1 2000 := ⟨by omega, by omega⟩
                              first | have sz630995 := (hot630909 q630646 (rT0 ht630734 (by decide)) (by assumption)).1 | skip
                              have ht630996 : rKd gm_F630893 q630693 1 := x0630906
                              have hB630997 : rBd gm_F630893 el_F630893 f B := hBB630916 B hB630797
                              have hph630998 : rPh γ0 el0 f ≤ rPh gm_F630893 el_F630893 f := rm_ph hph630800 hr630914.2
                              have pk630999 : rPh gm_F630893 el_F630893 f ≤ 387 * B + 6000 := rm_pk (rM_ge hT630923 ht630929 hf630930).1 (rM_bd hB630997)
                              refine G_widen (cs' := ((rPh gm_F630893 el_F630893 f - rPh γ0 el0 f) / 18)) (sl' := (rPh gm_F630893 el_F630893 f - rPh γ0 el0 f)) (rm_wc hph630800 hr630914.1) (rm_ws hph630800 hr630914.2) ?_
                              have r631000 : gm_F630893 14 q628852 = q630867 := ((rSk_s (rSk_of hk630905) ht630730 (by decide)).2.1).trans ht630877.1
                              have sz631001 : gm_F630893 2 (gm_F630893 14 q628852) = gm_F630893 2 q630867 := by rw [r631000]
                              obtain ⟨z631002, hz631002⟩ : ∃ z : Int32, z = z630861 + Int32.ofInt 1 := ⟨_, rfl⟩
                              have ez631002 : z631002.toInt = z630861.toInt + 1 := gI_inc hz631002 (by decide) bz630861 (by decide) (by decide)
                              have bz631002 : gB z631002 2 1000003 := ⟨by omega, by omega⟩
                              refine G_iinc (L' := [(4, .int z631002), (9, .ref q630693), (8, .int z630618), (0, .ref q590254), (1, .ref q590255), (2, .int g628709), (3, .ref q628852), (5, .ref q630489)]) z631002 0 dr_cX17_spill_419 rfl hz631002.symm (Nat.le_of_ble_eq_true rfl) rfl ?_
                              refine G_goto 90 dr_cX17_spill_422 (by decide +kernel) ?_
                              refine G_lv (L' := [(4, .int z631002), (3, .ref q628852), (2, .int g628709), (0, .ref q590254), (1, .ref q590255)]) [0, 6, 5, 3, 4] rfl ?_
                              have ac631003 : (fI (F630893 q590254) 11).toInt = p630952.toInt := by rw [he630947]; rfl
                              have ac631004 : (fI (F630893 q590254) 14).toInt = p630955.toInt := by rw [he630947]; rfl
                              exact ih90_630385 P630899 F630893 gm_F630893 el_F630893 z631002 (gB_w bz631002 (by decide) (by decide)) hT630923 hs630924 hph630998 hB630997 ht630931 hf630932 r630942 r630943 (by omega) (by omega) (by omega) (by omega) (by omega) (by omega) kp630926 (by rw [(show (z631002.toInt : Int).toNat = (((g630488.toInt : Int).toNat + 1) + 1) from tn_eq2 (by omega) (by omega))]; exact pl630904) (by omega) (by omega) kp630925 mk630939 (fun k e1 e2 e3 e4 ht => kt90_630386 k e1 e2 e3 e4 (kj292_630518 k e1 e2 e3 e4 (tl_RModel_spill_90_k4 D I γ0 el0 f P590252 F590253 q590254 F625428 q590255 g628709 q628852 P630490 F630491 gm_F630491 el_F630491 g630488 q630489 p630575 o630594 p630576 f630617 z630618 p630533 F630629 z630669 F630670 P630691 F630692 gm_F630692 el_F630692 q630693 dc630694 ds630695 F630817 F630827 F630839 F630850 z630861 q630867 P630899 F630893 gm_F630893 el_F630893 dc630900 ds630901 z631002 k e1 e2 e3 e4 bg630488 hT630492 hs630493 x630502 x630503 x630504 x630505 x630507 x630508 x630509 x630510 x630511 x630512 x630513 x630515 x630516 x630517 fq630588 bo630594 ht630596 r630604 r630612 fq630613 fq630614 he630616 hz630618 bz630618 r630623 fq630625 r630627 n630631 fq630639 fq630668 ez630669 n630672 fq630680 hq630700 n630819 fq630826 n630829 fq630837 fq630838 n630841 fq630849 n630852 fq630860 ez630861 fq630887 hq630903 ez631002 ht))) (ms_g x630514 (by omega) (by omega) (by omega))
                            · have r631005 : p630533.toInt = 2000 := gj_eq hc630626 (show Int32.toInt 2000 = 2000 by decide)
                              have bp630533' : gB p630533 2000 2000 := ⟨by omega, by omega⟩
                              have hx631006 : tl_RModel_spill_90 D I γ0 el0 f P590252 F590253 q590254 F625428 q590255 g628709 q628852 P628710 F628711 gm_F628711 el_F628711 (0 : Int32) 348 F630491 P630490 gm_F630491 el_F630491 := kt90_630386 348 F630491 P630490 gm_F630491 el_F630491 (kj292_630518 348 F630491 P630490 gm_F630491 el_F630491 (tl_RModel_spill_90_k5 D I γ0 el0 f P590252 F590253 q590254 F625428 q590255 g628709 q628852 P630490 F630491 gm_F630491 el_F630491 g630488 q630489 p630575 o630594 p630576 f630617 z630618 p630533 bg630488 hT630492 hs630493 x630502 x630503 x630504 x630505 x630507 x630508 x630509 x630510 x630511 x630512 x630513 x630515 x630516 x630517 fq630588 bo630594 ht630596 r630604 r630612 fq630613 fq630614 he630616 hz630618 bz630618 r630623 fq630625 r631005))
                              have hx631007 : tl_RModel_spill_73 D I γ0 el0 f P590252 F590253 q590254 F625428 q590255 P625427 F625428 gm_hg625517 el_F625428 (0 : Int32) 348 F630491 P630490 gm_F630491 el_F630491 := kt73_628726 348 F630491 P630490 gm_F630491 el_F630491 (fun R c1 c2 c3 c4 c5 => c3 P628710 F628711 gm_F628711 el_F628711 g628709 p628786 q628783 q628852 p628834 F630491 P630490 gm_F630491 el_F630491 bg628709 hT628712 hs628713 x628716 x628717 x628718 x628719 x628721 x628722 x628723 x628724 x628725 fq628808 r628830 fq628857 hx628853 fq628875 ht628881 hx631006)
                              refine G_iconst 0 dr_cX17_spill_348 (by decide +kernel) ?_
                              exact G_zretA FieldType.boolean dr_cX17_spill_349 rfl rfl (rm_zc pk630522) (rm_zs pk630522) ⟨P630490, F630491, gm_F630491, el_F630491, 0, rfl, rfl, hs630493, (rm_pp hph630494), hB630495, (gB_w (gBl (show Int32.toInt 0 = 0 by decide)) (by decide) (by decide)), (by have qa0 : Int32.toInt 0 = 0 := (by decide); omega), (Or.inl (by decide)), x630516, x630517, (fun R c1 c2 c3 c4 c5 c6 => c3 gm_0 el_0 F625428 P625427 gm_F625428 el_F625428 p625453 gm_hg625517 F630491 P630490 gm_F630491 el_F630491 hγ0 hel0 hx625511 fq625518 hg625517 hx631007)⟩
                          · have r631008 : z630618.toInt < 0 := gj_nleL hc630622 (show Int32.toInt 0 = 0 by decide)
                            have bz630618' : gB z630618 (-1) (-1) := ⟨by omega, by omega⟩
                            refine G_goto 419 dr_cX17_spill_323 (by decide +kernel) ?_
                            have rn631010 : rNx (nSp (cB (F590253 (γ0 9 3))) (cB (F625428 (γ0 9 19)))) (F630491 q630489) := rS2_n he630574 he630574 x630511 (fun _ => Or.inr ⟨rfl, Or.inr (by omega)⟩)
                            have pl631009 := sp_fin x630509 x630510 rn631010 (rfl : (g630488.toInt : Int).toNat + 1 = (g630488.toInt : Int).toNat + 1)
                            obtain ⟨z631011, hz631011⟩ : ∃ z : Int32, z = g630488 + Int32.ofInt 1 := ⟨_, rfl⟩
                            have ez631011 : z631011.toInt = g630488.toInt + 1 := gI_inc hz631011 (by decide) bg630488 (by decide) (by decide)
                            have bz631011 : gB z631011 1 1000002 := ⟨by omega, by omega⟩
                            refine G_iinc (L' := [(4, .int z631011), (0, .ref q590254), (1, .ref q590255), (2, .int g628709), (3, .ref q628852), (5, .ref q630489)]) z631011 4 dr_cX17_spill_419 rfl hz631011.symm (Nat.le_of_ble_eq_true rfl) rfl ?_
                            refine G_goto 90 dr_cX17_spill_422 (by decide +kernel) ?_
                            refine G_lv (L' := [(4, .int z631011), (3, .ref q628852), (2, .int g628709), (0, .ref q590254), (1, .ref q590255)]) [0, 4, 3, 1, 2] rfl ?_
                            have ac631012 : (fI (F630491 q590254) 11).toInt = p630530.toInt := by rw [he630525]; rfl
                            have ac631013 : (fI (F630491 q590254) 14).toInt = p630533.toInt := by rw [he630525]; rfl
                            exact ih90_630385 P630490 F630491 gm_F630491 el_F630491 z631011 (gB_w bz631011 (by decide) (by decide)) hT630492 hs630493 hph630494 hB630495 ht630496 hf630497 r630498 r630499 (by omega) (by omega) (by omega) (by omega) (by omega) (by omega) x630508 (by rw [(show (z631011.toInt : Int).toNat = ((g630488.toInt : Int).toNat + 1) from tn_eq1 (by omega) (by omega))]; exact pl631009) (by omega) (by omega) x630516 x630517 (fun k e1 e2 e3 e4 ht => kt90_630386 k e1 e2 e3 e4 (kj292_630518 k e1 e2 e3 e4 (tl_RModel_spill_90_k6 D I γ0 el0 f P590252 F590253 q590254 F625428 q590255 g628709 q628852 P630490 F630491 gm_F630491 el_F630491 g630488 q630489 p630575 o630594 p630576 f630617 z630618 z631011 k e1 e2 e3 e4 bg630488 hT630492 hs630493 x630502 x630503 x630504 x630505 x630507 x630508 x630509 x630510 x630511 x630512 x630513 x630515 x630516 x630517 fq630588 bo630594 ht630596 r630604 r630612 fq630613 fq630614 he630616 hz630618 bz630618 r631008 ez631011 ht))) (ms_g x630514 (by omega) (by omega) (by omega))
                    have jn236_631045 : ∀ (P631018 : List Nat) (F631019 : Nat → va_E) (gm_F631019 el_F631019 : Nat → Nat → Nat) (g631014 : Int32) (q631015 : Nat) (g631016 : Int32) (g631017 : Int32), gB g631014 0 1000001 → gB g631016 (-1) 1999 → gB g631017 (-1) 1999 → RS D I P631018 F631019 gm_F631019 el_F631019 → rSk f [101] ([1, 3, 5, 6, 8, 9, 101] ++ npk) D I P590252 F590253 γ0 el0 P631018 F631019 gm_F631019 el_F631019 → rPh γ0 el0 f ≤ rPh gm_F631019 el_F631019 f → rBd gm_F631019 el_F631019 f B → rKd gm_F631019 q628852 2 → gm_F631019 1 q628852 = f → g628709.toInt.toNat < gm_F631019 2 (gm_F631019 14 q590255) → el_F631019 (gm_F631019 14 q590255) g628709.toInt.toNat = q628852 → rKd gm_F631019 q631015 1 → gm_F631019 1 q631015 = f → gm_F631019 6 f = γ0 6 f → gm_F631019 18 f = γ0 18 f → ((gm_F631019 7 f : Nat) : Int) = (fI (F631019 q590254) 11).toInt → (fI (F631019 q590254) 11).toInt = (fI (F625428 q590254) 11).toInt → ((gm_F631019 16 f : Nat) : Int) + 2001 ≤ (B : Int) + (fI (F631019 q590254) 14).toInt → 100 ≤ (fI (F631019 q590254) 14).toInt → (F631019 (γ0 9 19) = F625428 (γ0 9 19)) → rPl gm_F631019 el_F631019 F631019 q590255 (gm_F631019 6 f) (spX (cB (F590253 (γ0 9 3))) (cB (F625428 (γ0 9 19))) (g628709.toInt : Int).toNat (g631014.toInt : Int).toNat) → rAt gm_F631019 el_F631019 q590255 (g628709.toInt : Int).toNat (g631014.toInt : Int).toNat = q631015 → rS1 (cB (F590253 (γ0 9 3))) (cB (F625428 (γ0 9 19))) (F631019 q631015) g631016.toInt g631017.toInt → (g631014.toInt : Int) ≤ gm_F631019 2 (gm_F631019 14 q628852) → (g628709.toInt : Int) < gm_F631019 6 f → (gm_F631019 2 (gm_F631019 14 q628852) + 1 - (g631014.toInt : Int).toNat) < n90_630385 + 1 → eO g631014.toInt (gm_F631019 2 (gm_F631019 14 q628852) : Nat) (fI (F631019 q631015) 0).toInt → (F631019 (γ0 9 3) = F590253 (γ0 9 3)) → mKp (F590253 q590254) (F631019 q590254) → (∀ (k : Nat) (e1 : Nat → va_E) (e2 : List Nat) (e3 : Nat → Nat → Nat) (e4 : Nat → Nat → Nat), tj_RModel_spill_90_236 D I γ0 el0 f P590252 F590253 q590254 F625428 q590255 g628709 q628852 P631018 F631019 gm_F631019 el_F631019 g631014 q631015 g631016 g631017 k e1 e2 e3 e4 → tl_RModel_spill_90 D I γ0 el0 f P590252 F590253 q590254 F625428 q590255 g628709 q628852 P630364 F630365 gm_F630365 el_F630365 g630363 k e1 e2 e3 e4) → G (gV D I) l (gRm 9 195 (((387 * B + 6000) - rPh γ0 el0 f) / 18) ((387 * B + 6000) - rPh γ0 el0 f)) (gMA (gV D I) (pg_590262_SpillForgeModel_spill D I γ0 el0 f B P590252 F590253 q590254 q590255) gNA (((387 * B + 6000) - rPh γ0 el0 f) / 18) ((387 * B + 6000) - rPh γ0 el0 f)) ky_590262_SpillForgeModel_spill 236 [(0, .ref q590254), (1, .ref q590255), (2, .int g628709), (3, .ref q628852), (4, .int g631014), (5, .ref q631015), (6, .int g631016), (7, .int g631017)] [] (va_pl P631018 F631019) ((rPh gm_F631019 el_F631019 f - rPh γ0 el0 f) / 18) (rPh gm_F631019 el_F631019 f - rPh γ0 el0 f) := by
                      intro P631018 F631019 gm_F631019 el_F631019 g631014 q631015 g631016 g631017 bg631014 bg631016 bg631017 hT631020 hs631021 hph631022 hB631023 ht631024 hf631025 r631026 r631027 ht631028 hf631029 x631030 x631031 x631032 x631033 x631034 x631035 x631036 x631037 x631038 x631039 x631040 x631041 x631042 x631043 x631044 x631045 kj236_631046
                      clear bp630445 bp630446 r630454 r630455 r630458 r630459 r630460 r630461 r630462 r630469 r630470 r630471 r630473 r630472
                      have ht631047 : rKd gm_F631019 q590254 10 := rSk_k hs631021 hzq590254 (by decide) (by decide)
                      have ht631048 : rKd gm_F631019 q590255 9 := rSk_k hs631021 hzq590255 (by decide) (by decide)
                      have hf631049 : gm_F631019 1 q590255 = f := rSk_1 hs631021 hzq590255 (by decide) hf0
                      have pk631050 : rPh gm_F631019 el_F631019 f ≤ 387 * B + 6000 := rm_pk (rM_ge hT631020 ht631048 hf631049).1 (rM_bd hB631023)
                      have r631051 : 0 < gm_F631019 6 (gm_F631019 1 q590255) := by rw [hf631049]; omega
                      have hm631052 : q590254 ∈ P631018 := RS_m hT631020 ht631047 (by decide)
                      refine rk10_e (show rk_10 gm_F631019 (F631019 q590254) from RS_o hT631020 ht631047) (fun q631054 q631055 p631056 p631057 p631058 p631059 p631060 p631061 p631062 p631063 p631064 p631065 p631066 p631067 p631068 p631069 p631070 he631053 hB631097 ht631071 ht631072 ht631073 ht631074 ht631075 ht631076 ht631077 ht631078 ht631079 ht631080 ht631081 ht631082 ht631083 ht631084 ht631085 ht631086 ht631087 ht631088 ht631089 ht631090 ht631091 ht631092 ht631093 ht631094 hB631098 => ?_)
                      have ac631099 : (fI (F631019 q590254) 11).toInt = p631058.toInt := by rw [he631053]; rfl
                      have bp631058 : gB p631058 0 100 := (hB631097.2.2.1)
                      have ac631100 : (fI (F631019 q590254) 14).toInt = p631061.toInt := by rw [he631053]; rfl
                      have bp631061 : gB p631061 0 2000 := (hB631097.2.2.2.1)
                      have hm631101 : q631015 ∈ P631018 := RS_m hT631020 ht631028 (by decide)
                      obtain ⟨p631103, p631104, p631105, p631106, p631107, p631108, p631109, he631102, bp631103, bp631104, bp631107, bp631108, bp631109, r631110, r631111, r631112, r631113, r631114⟩ := show rk_1 gm_F631019 q631015 (F631019 q631015) from RS_o hT631020 ht631028
                      have bp631105 := gB_any p631105
                      have bp631106 := gB_any p631106
                      replace r631110 : gH _ := r631110
                      replace r631111 : gH _ := r631111
                      replace r631112 : gH _ := r631112
                      replace r631113 : gH _ := r631113
                      replace r631114 : gH _ := r631114
                      have r631115 : gm_F631019 7 (gm_F631019 1 q631015) = gm_F631019 7 f := by rw [hf631029]
                      refine G_iload 7 dr_cX17_spill_236 rfl ?_
                      refine G_if_lt 292 dr_cX17_spill_238 (by decide +kernel) (fun hc631116 => ?_) (fun hc631116 => ?_)
                      · have r631117 : g631017.toInt < 0 := gj_lt hc631116 (show Int32.toInt 0 = 0 by decide)
                        have bg631017' : gB g631017 (-1) (-1) := ⟨by omega, by omega⟩
                        have ac631118 : (fI (F631019 q590254) 11).toInt = p631058.toInt := by rw [he631053]; rfl
                        have ac631119 : (fI (F631019 q590254) 14).toInt = p631061.toInt := by rw [he631053]; rfl
                        refine G_lv (L' := [(0, .ref q590254), (1, .ref q590255), (2, .int g628709), (3, .ref q628852), (4, .int g631014), (5, .ref q631015)]) [0, 1, 2, 3, 4, 5] rfl ?_
                        exact jn292_630517 P631018 F631019 gm_F631019 el_F631019 g631014 q631015 bg631014 hT631020 hs631021 hph631022 hB631023 ht631024 hf631025 r631026 r631027 ht631028 hf631029 (by omega) (by omega) (by omega) (by omega) (by omega) (by omega) x631036 (by exact x631037) (by exact x631038) (rS1_2 x631039 (Or.inl (by omega))) (by omega) (by omega) (ms_j x631042 (by omega) (by omega) (by omega)) (eO_j x631043 (by rw [he631102] <;> rfl) (by rw [he631102] <;> rfl) (by omega)) x631044 x631045 (fun k e1 e2 e3 e4 ht => kj236_631046 k e1 e2 e3 e4 (tl_RModel_spill_90_k7 D I γ0 el0 f P590252 F590253 q590254 F625428 q590255 g628709 q628852 P631018 F631019 gm_F631019 el_F631019 g631014 q631015 g631016 g631017 k e1 e2 e3 e4 bg631014 bg631016 bg631017 hT631020 hs631021 x631030 x631031 x631032 x631033 x631035 x631036 x631037 x631038 x631039 x631040 x631041 x631043 x631044 x631045 r631117 ht))
                      · have r631120 : 0 ≤ g631017.toInt := gj_nlt hc631116 (show Int32.toInt 0 = 0 by decide)
                        have bg631017' : gB g631017 0 1999 := ⟨by omega, by omega⟩
                        refine G_iload 7 dr_cX17_spill_241 rfl ?_
                        refine G_iload 6 dr_cX17_spill_243 rfl ?_
                        refine G_icmp_eq 292 dr_cX17_spill_245 (by decide +kernel) (fun hc631121 => ?_) (fun hc631121 => ?_)
                        · have r631122 : g631017.toInt = g631016.toInt := gC_eq hc631121
                          have bg631016' : gB g631016 0 1999 := ⟨by omega, by omega⟩
                          have ac631123 : (fI (F631019 q590254) 11).toInt = p631058.toInt := by rw [he631053]; rfl
                          have ac631124 : (fI (F631019 q590254) 14).toInt = p631061.toInt := by rw [he631053]; rfl
                          refine G_lv (L' := [(0, .ref q590254), (1, .ref q590255), (2, .int g628709), (3, .ref q628852), (4, .int g631014), (5, .ref q631015)]) [0, 1, 2, 3, 4, 5] rfl ?_
                          exact jn292_630517 P631018 F631019 gm_F631019 el_F631019 g631014 q631015 bg631014 hT631020 hs631021 hph631022 hB631023 ht631024 hf631025 r631026 r631027 ht631028 hf631029 (by omega) (by omega) (by omega) (by omega) (by omega) (by omega) x631036 (by exact x631037) (by exact x631038) (rS1_2 x631039 (Or.inr (Or.inl (by omega)))) (by omega) (by omega) (ms_j x631042 (by omega) (by omega) (by omega)) (eO_j x631043 (by rw [he631102] <;> rfl) (by rw [he631102] <;> rfl) (by omega)) x631044 x631045 (fun k e1 e2 e3 e4 ht => kj236_631046 k e1 e2 e3 e4 (tl_RModel_spill_90_k8 D I γ0 el0 f P590252 F590253 q590254 F625428 q590255 g628709 q628852 P631018 F631019 gm_F631019 el_F631019 g631014 q631015 g631016 g631017 k e1 e2 e3 e4 bg631014 bg631016 bg631017 hT631020 hs631021 x631030 x631031 x631032 x631033 x631035 x631036 x631037 x631038 x631039 x631040 x631041 x631043 x631044 x631045 r631120 r631122 ht))
                        · have r631125 : g631017.toInt ≠ g631016.toInt := gC_ne hc631121
                          refine G_aload_n 0 dr_cX17_spill_248 rfl ?_
                          have fq631126 : fR (F631019 q590254) 19 = (gm_F631019 9 19) := by rw [he631053]; rfl
                          refine Gp_get 19 hm631052 he631053 dr_cX17_spill_249 (gk_X17 D I) (Nat.le_of_ble_eq_true rfl) wr_7_93 rfl ?_
                          refine G_iload 7 dr_cX17_spill_252 rfl ?_
                          have hm631127 : (gm_F631019 9 19) ∈ P631018 := RS_m hT631020 ht631086 (by decide)
                          obtain ⟨f631129, he631128, bf631129⟩ := show rk_21 I (F631019 (gm_F631019 9 19)) from RS_o hT631020 ht631086
                          refine Gp_iald 0 hm631127 he631128 dr_cX17_spill_254 rfl (gB_in bg631017' (by decide) (by decide)) (G_nam fun z631130 hz631130 => ?_)
                          have bz631130 : gB z631130 (-1) 1999 := by rw [hz631130]; exact bf631129 _
                          have c9_631131 : cB (F625428 (γ0 9 19)) = f631129 := by rw [← x631036, ← congrFun (rSk_9 hs631021) 19]; exact cB_of he631128
                          have hs631132 : (cB (F625428 (γ0 9 19)) g631017.toInt.toNat).toInt = z631130.toInt := by rw [c9_631131, hz631130]; rfl
                          refine G_if_lt 292 dr_cX17_spill_255 (by decide +kernel) (fun hc631134 => ?_) (fun hc631134 => ?_)
                          · have r631135 : z631130.toInt < 0 := gj_lt hc631134 (show Int32.toInt 0 = 0 by decide)
                            have bz631130' : gB z631130 (-1) (-1) := ⟨by omega, by omega⟩
                            have ac631136 : (fI (F631019 q590254) 11).toInt = p631058.toInt := by rw [he631053]; rfl
                            have ac631137 : (fI (F631019 q590254) 14).toInt = p631061.toInt := by rw [he631053]; rfl
                            refine G_lv (L' := [(0, .ref q590254), (1, .ref q590255), (2, .int g628709), (3, .ref q628852), (4, .int g631014), (5, .ref q631015)]) [0, 1, 2, 3, 4, 5] rfl ?_
                            exact jn292_630517 P631018 F631019 gm_F631019 el_F631019 g631014 q631015 bg631014 hT631020 hs631021 hph631022 hB631023 ht631024 hf631025 r631026 r631027 ht631028 hf631029 (by omega) (by omega) (by omega) (by omega) (by omega) (by omega) x631036 (by exact x631037) (by exact x631038) (rS1_2 x631039 (Or.inr (Or.inr (by omega)))) (by omega) (by omega) (ms_j x631042 (by omega) (by omega) (by omega)) (eO_j x631043 (by rw [he631102] <;> rfl) (by rw [he631102] <;> rfl) (by omega)) x631044 x631045 (fun k e1 e2 e3 e4 ht => kj236_631046 k e1 e2 e3 e4 (tl_RModel_spill_90_k9 D I γ0 el0 f P590252 F590253 q590254 F625428 q590255 g628709 q628852 P631018 F631019 gm_F631019 el_F631019 g631014 q631015 g631016 g631017 f631129 z631130 k e1 e2 e3 e4 bg631014 bg631016 bg631017 hT631020 hs631021 x631030 x631031 x631032 x631033 x631035 x631036 x631037 x631038 x631039 x631040 x631041 x631043 x631044 x631045 r631120 r631125 fq631126 he631128 hz631130 bz631130 r631135 ht))
                          · have r631138 : 0 ≤ z631130.toInt := gj_nlt hc631134 (show Int32.toInt 0 = 0 by decide)
                            have bz631130' : gB z631130 0 1999 := ⟨by omega, by omega⟩
                            refine G_aload_n 0 dr_cX17_spill_258 rfl ?_
                            refine G_aload_n 1 dr_cX17_spill_259 rfl ?_
                            refine G_aload_n 3 dr_cX17_spill_260 rfl ?_
                            refine G_iload 4 dr_cX17_spill_261 rfl ?_
                            refine G_aload_n 0 dr_cX17_spill_263 rfl ?_
                            refine Gp_get 19 hm631052 he631053 dr_cX17_spill_264 (gk_X17 D I) (Nat.le_of_ble_eq_true rfl) wr_7_93 rfl ?_
                            refine G_iload 7 dr_cX17_spill_267 rfl ?_
                            refine Gp_iald 0 hm631127 he631128 dr_cX17_spill_269 rfl (gB_in bg631017' (by decide) (by decide)) (G_eqi (y := z631130) hz631130.symm ?_)
                            have hm631139 : q628852 ∈ P631018 := RS_m hT631020 ht631024 (by decide)
                            obtain ⟨q631141, q631142, p631143, p631144, he631140, ht631151, ht631145, ht631146, ht631147, ht631148, ht631149, bp631143, bp631144, r631150, r631152, r631153⟩ := show rk_2 gm_F631019 q628852 (F631019 q628852) from RS_o hT631020 ht631024
                            have hf631154 : gm_F631019 1 q631141 = f := (show gm_F631019 1 q631141 = gm_F631019 1 q628852 from ht631146).trans hf631025
                            have hf631155 : gm_F631019 1 q631142 = f := (show gm_F631019 1 q631142 = gm_F631019 1 q628852 from ht631148).trans hf631025
                            have r631156 : gm_F631019 6 (gm_F631019 1 q628852) = gm_F631019 6 f := by rw [hf631025]
                            have r631157 : gm_F631019 7 (gm_F631019 1 q628852) = gm_F631019 7 f := by rw [hf631025]
                            have r631158 : gm_F631019 19 (gm_F631019 1 q628852) = gm_F631019 19 f := by rw [hf631025]
                            have r631159 := r631150.resolve_left (by omega)
                            clear r631150
                            have r631160 : gm_F631019 2 (gm_F631019 14 q628852) = gm_F631019 2 q631141 := by rw [ht631151.1]
                            have hm631161 : q631141 ∈ P631018 := RS_m hT631020 ht631145 (by decide)
                            obtain ⟨⟨p631163, p631164, q631165, he631162, r631166, r631167, r631168, r631170⟩, r631169⟩ := show rk_3 D I gm_F631019 el_F631019 F631019 q631141 from RS_o hT631020 ht631145
                            have bp631163 := gB_any p631163
                            have bp631164 : gB p631164 0 1000000 := ⟨by omega, by omega⟩
                            have r631171 := (spi625514.2.2.2 g631017.toInt.toNat (tn_lt (by omega) (by omega)) (by omega)).2.2
                            have ac631172 : (fI (F631019 q590254) 11).toInt = p631058.toInt := by rw [he631053]; rfl
                            have ac631173 : (fI (F631019 q590254) 14).toInt = p631061.toInt := by rw [he631053]; rfl
                            have rg631174 := rM_ge hT631020 ht631048 hf631049
                            have rm631175 := rM_bd hB631023
                            have bd631176 := rBd_c hT631020 ht631048 hf631049 hB631023
                            have rc631177 := rc_at hT631020 ht631048 hf631049
                            refine Gw_callV (As := [.ref q590255, .ref q628852, .int g631014, .int z631130]) (gV_ok D I) (cg_409847_SpillForgeModel_load l hl0 D I gm_F631019 el_F631019 f B P631018 F631019 q590254 q590255 q628852 g631014 z631130 g628709.toInt.toNat hT631020 ht631047 ht631048 ht631024 hf631049 hB631023 hBk r631026 r631027 hf631025 ⟨by omega, by omega⟩ bz631130' (by omega) (by omega) (by omega) (by omega) (by omega)) dr_cX17_spill_270 ⟨wr_11_67, wr_1_14, wr_11_70, by decide, rfl, (Nat.le_of_ble_eq_true rfl), (Nat.le_of_ble_eq_true rfl)⟩ wr_11_69 wr_p_111 hm631052 he631053 rfl (rm_gc hph631022 pk631050) (rm_gs hph631022 pk631050) (Nat.le_of_ble_eq_true rfl) (fun r631181 w631182 dc631178 ds631179 hp631180 => ?_) (fun _ _ _ _ _ z => z.elim)
                            obtain ⟨P631194, F631195, gm_F631195, el_F631195, o631183, rfl, rfl, hk631196, ⟨hr631197, hr631198⟩, hB631199, bo631183, x631184, x631185, x631186, x631187, x631188, x631189, x631190, x631191, x631192, ht631193⟩ := hp631180
                            have hT631200 := hk631196.1
                            have hs631201 := rSk_tr hs631021 hk631196 (by decide) (by decide) (by decide)
                            have kp631202 : F631195 (γ0 9 3) = F590253 (γ0 9 3) := (rSk_F hk631196 (rSk_k hs631021 k0_3 (by decide) (by decide)) (by decide) (by decide)).trans x631044
                            have kp631203 : F631195 (γ0 9 19) = F625428 (γ0 9 19) := (rSk_F hk631196 (rSk_k hs631021 k0_19 (by decide) (by decide)) (by decide) (by decide)).trans x631036
                            have ht631204 : rKd gm_F631195 q590254 10 := rSk_k hk631196 ht631047 (by decide) (by decide)
                            have ht631205 : rKd gm_F631195 q590255 9 := rSk_k hk631196 ht631048 (by decide) (by decide)
                            have hf631206 : gm_F631195 1 q590255 = f := rSk_1 hk631196 ht631048 (by decide) hf631049
                            have ht631207 : rKd gm_F631195 q628852 2 := rSk_k hk631196 ht631024 (by decide) (by decide)
                            have hf631208 : gm_F631195 1 q628852 = f := rSk_1 hk631196 ht631024 (by decide) hf631025
                            have ht631209 : rKd gm_F631195 q631015 1 := rSk_k hk631196 ht631028 (by decide) (by decide)
                            have hf631210 : gm_F631195 1 q631015 = f := rSk_1 hk631196 ht631028 (by decide) hf631029
                            have ht631211 : rKd gm_F631195 q631141 3 := rSk_k hk631196 ht631145 (by decide) (by decide)
                            have hf631212 : gm_F631195 1 q631141 = f := rSk_1 hk631196 ht631145 (by decide) hf631154
                            have he631213 : F631195 q631015 = .inr (20, [.int p631103, .int p631104, .int p631105, .int p631106, .int p631107, .int p631108, .int p631109]) := (rSk_F hk631196 ht631028 (by decide) (by decide)).trans he631102
                            have hm631214 : q631015 ∈ P631194 := RS_m hT631200 ht631209 (by decide)
                            clear bp631143 bp631144 r631152 r631153 rg631174 rm631175 bd631176 rc631177
                            have mk631215 : mKp (F590253 q590254) (F631195 q590254) := mKp_tr x631045 x631192
                            have hph631216 : rPh γ0 el0 f ≤ rPh gm_F631195 el_F631195 f := rm_ph hph631022 hr631198
                            have pk631217 : rPh gm_F631195 el_F631195 f ≤ 387 * B + 6000 := rm_pk (rM_ge hT631200 ht631205 hf631206).1 (rM_bd hB631199)
                            change G _ _ _ _ _ _ _ (.int o631183 :: _) _ _ _
                            refine G_widen (cs' := ((rPh gm_F631195 el_F631195 f - rPh γ0 el0 f) / 18)) (sl' := (rPh gm_F631195 el_F631195 f - rPh γ0 el0 f)) (rm_wc hph631022 hr631197) (rm_ws hph631022 hr631198) ?_
                            have sz631218 := x631184
                            have r631219 : 0 < gm_F631195 6 (gm_F631195 1 q590255) := by rw [hf631206]; omega
                            have hm631220 : q590254 ∈ P631194 := RS_m hT631200 ht631204 (by decide)
                            refine rk10_e (show rk_10 gm_F631195 (F631195 q590254) from RS_o hT631200 ht631204) (fun q631222 q631223 p631224 p631225 p631226 p631227 p631228 p631229 p631230 p631231 p631232 p631233 p631234 p631235 p631236 p631237 p631238 he631221 hB631265 ht631239 ht631240 ht631241 ht631242 ht631243 ht631244 ht631245 ht631246 ht631247 ht631248 ht631249 ht631250 ht631251 ht631252 ht631253 ht631254 ht631255 ht631256 ht631257 ht631258 ht631259 ht631260 ht631261 ht631262 hB631266 => ?_)
                            have ac631267 : (fI (F631195 q590254) 11).toInt = p631226.toInt := by rw [he631221]; rfl
                            have bp631226 : gB p631226 0 100 := (hB631265.2.2.1)
                            have ac631268 : (fI (F631195 q590254) 14).toInt = p631229.toInt := by rw [he631221]; rfl
                            have bp631229 : gB p631229 0 2000 := (hB631265.2.2.2.1)
                            refine G_istore (L' := [(8, .int o631183), (0, .ref q590254), (1, .ref q590255), (2, .int g628709), (3, .ref q628852), (4, .int g631014), (5, .ref q631015), (6, .int g631016), (7, .int g631017)]) dr_cX17_spill_273 (Nat.le_of_ble_eq_true rfl) rfl ?_
                            refine G_iload 0 dr_cX17_spill_275 rfl ?_
                            refine G_if_ge 282 dr_cX17_spill_277 (by decide +kernel) (fun hc631269 => ?_) (fun hc631269 => ?_)
                            · have r631270 : 0 ≤ o631183.toInt := gj_leL hc631269 (show Int32.toInt 0 = 0 by decide)
                              have bo631183' : gB o631183 0 1999 := ⟨by omega, by omega⟩
                              have pl631272 := sp_ld (x631190.resolve_left (by omega)) x631037 (tn_ge (by omega)) (rfl : ((g631014.toInt : Int).toNat + 1) = (g631014.toInt : Int).toNat + 1)
                              have hp631273 : rAt gm_F631195 el_F631195 q590255 (g628709.toInt : Int).toNat ((g631014.toInt : Int).toNat + 1) = q631015 := ((x631191.resolve_left (by omega)) (g631014.toInt : Int).toNat (Nat.le_refl _)).trans x631038
                              have r631274 := x631188.resolve_left (by omega)
                              have x631188p := PLift.up x631188
                              have x631190p := PLift.up x631190
                              have x631191p := PLift.up x631191
                              clear x631188 x631190 x631191
                              obtain ⟨z631275, hz631275⟩ : ∃ z : Int32, z = g631014 + Int32.ofInt 1 := ⟨_, rfl⟩
                              have ez631275 : z631275.toInt = g631014.toInt + 1 := gI_inc hz631275 (by decide) bg631014 (by decide) (by decide)
                              have bz631275 : gB z631275 1 1000002 := ⟨by omega, by omega⟩
                              refine G_iinc (L' := [(4, .int z631275), (8, .int o631183), (0, .ref q590254), (1, .ref q590255), (2, .int g628709), (3, .ref q628852), (5, .ref q631015), (6, .int g631016), (7, .int g631017)]) z631275 5 dr_cX17_spill_282 rfl hz631275.symm (Nat.le_of_ble_eq_true rfl) rfl ?_
                              refine G_aload 6 dr_cX17_spill_285 rfl ?_
                              refine G_iload 1 dr_cX17_spill_287 rfl ?_
                              refine Gp_put 3 hm631214 he631213 dr_cX17_spill_289 (gk_X15 D I) (Nat.le_of_ble_eq_true rfl) wr_9_190 rfl rfl rfl (Nat.le_of_ble_eq_true rfl) (fun F631276 e631277 n631278 => ?_)
                              have r631279 := rk1_at hT631200 ht631209 he631213
                              have he631280 : F631276 q590254 = .inr (22, [.ref (gm_F631195 9 0), .ref (gm_F631195 9 1), .ref (gm_F631195 9 2), .ref (gm_F631195 9 3), .ref (gm_F631195 9 4), .ref (gm_F631195 9 5), .ref (gm_F631195 9 6), .ref (gm_F631195 9 7), .ref (gm_F631195 9 8), .int p631224, .int p631225, .int p631226, .int p631227, .int p631228, .int p631229, .ref (gm_F631195 9 15), .ref (gm_F631195 9 16), .ref (gm_F631195 9 17), .ref (gm_F631195 9 18), .ref (gm_F631195 9 19), .ref (gm_F631195 9 20), .ref (gm_F631195 9 21), .ref (gm_F631195 9 22), .int p631230, .int p631231, .int p631232, .int p631233, .int p631234, .ref q631222, .ref (gm_F631195 9 29), .int p631235, .ref (gm_F631195 9 31), .int p631236, .int p631237, .int p631238, .ref q631223]) := (n631278 q590254 (rn_oo he631221 he631213 (by decide))).trans he631221
                              have he631281 : F631276 q631015 = .inr (20, [.int p631103, .int p631104, .int p631105, .int o631183, .int p631107, .int p631108, .int p631109]) := e631277
                              have mk631282 : mKp (F590253 q590254) (F631276 q590254) := mKp_tr mk631215 (mKp_eq (n631278 q590254 (rn_ty ht631204 ht631209 (by decide))))
                              have kp631283 : F631276 (γ0 9 3) = F590253 (γ0 9 3) := (n631278 (γ0 9 3) (rn_ty (rSk_k hs631201 k0_3 (by decide) (by decide)) ht631209 (by decide))).trans kp631202
                              have kp631284 : F631276 (γ0 9 19) = F625428 (γ0 9 19) := (n631278 (γ0 9 19) (rn_ty (rSk_k hs631201 k0_19 (by decide) (by decide)) ht631209 (by decide))).trans kp631203
                              have fq631285 : F631276 q631015 = cF (F631195 q631015) 3 (.int o631183) := by rw [he631281, he631213]; rfl
                              have hT631286 : RS D I P631194 F631276 gm_F631195 el_F631195 := RS_set hT631200 n631278 ht631209 (by decide) ⟨p631103, p631104, p631105, o631183, p631107, p631108, p631109, he631281, bp631103, bp631104, bp631107, bp631108, bp631109, (gHe r631110), (gHe r631111), (Or.inr bo631183'), r631279.1, r631279.2⟩
                              have hs631288 := rSk_put hs631201 hT631286 n631278 ht631209 (by decide) (by decide) (Or.inr (Or.inl hf631210))
                              have hm631290 : q628852 ∈ P631194 := RS_m hT631286 ht631207 (by decide)
                              obtain ⟨q631292, q631293, p631294, p631295, he631291, ht631302, ht631296, ht631297, ht631298, ht631299, ht631300, bp631294, bp631295, r631301, r631303, r631304⟩ := show rk_2 gm_F631195 q628852 (F631276 q628852) from RS_o hT631286 ht631207
                              have hf631305 : gm_F631195 1 q631292 = f := (show gm_F631195 1 q631292 = gm_F631195 1 q628852 from ht631297).trans hf631208
                              have hf631306 : gm_F631195 1 q631293 = f := (show gm_F631195 1 q631293 = gm_F631195 1 q628852 from ht631299).trans hf631208
                              have r631307 : gm_F631195 6 (gm_F631195 1 q628852) = gm_F631195 6 f := by rw [hf631208]
                              have r631308 : gm_F631195 7 (gm_F631195 1 q628852) = gm_F631195 7 f := by rw [hf631208]
                              have r631309 : gm_F631195 19 (gm_F631195 1 q628852) = gm_F631195 19 f := by rw [hf631208]
                              have r631310 := r631301.resolve_left (by omega)
                              clear r631301
                              have r631311 : gm_F631195 2 (gm_F631195 14 q628852) = gm_F631195 2 q631292 := by rw [ht631302.1]
                              have pl631289 := sp_put hT631200 ht631205 hf631206 pl631272 n631278 hp631273 (show (g628709.toInt : Int).toNat < gm_F631195 6 f from tn_lt (by omega) (by omega)) (by unfold rwL; rw [x631187.2.2]; exact tn_le1 (by omega) (by omega))
                              have ac631312 : (fI (F631276 q590254) 11).toInt = p631226.toInt := by rw [he631280]; rfl
                              have ac631313 : (fI (F631276 q590254) 14).toInt = p631229.toInt := by rw [he631280]; rfl
                              refine G_lv (L' := [(0, .ref q590254), (1, .ref q590255), (2, .int g628709), (3, .ref q628852), (4, .int z631275), (5, .ref q631015)]) [2, 3, 4, 5, 0, 6] rfl ?_
                              exact jn292_630517 P631194 F631276 gm_F631195 el_F631195 z631275 q631015 ⟨by omega, by omega⟩ hT631286 hs631288 hph631216 hB631199 ht631207 hf631208 x631187.2.1 x631187.2.2 ht631209 hf631210 (by omega) (by omega) (by omega) (by omega) (by omega) (by omega) kp631284 (by rw [(show (z631275.toInt : Int).toNat = ((g631014.toInt : Int).toNat + 1) from tn_eq1 (by omega) (by omega))]; exact pl631289) (by rw [(show (z631275.toInt : Int).toNat = ((g631014.toInt : Int).toNat + 1) from tn_eq1 (by omega) (by omega))]; exact hp631273) (rS1_b he631102 he631281 (by omega) x631039) (by omega) (by omega) (ms_j x631042 (by omega) (by omega) (by omega)) (eO_j x631043 (by rw [he631281] <;> rfl) (by rw [he631102] <;> rfl) (by omega)) kp631283 mk631282 (fun k e1 e2 e3 e4 ht => kj236_631046 k e1 e2 e3 e4 (tl_RModel_spill_90_k10 D I γ0 el0 f P590252 F590253 q590254 F625428 q590255 g628709 q628852 P631018 F631019 gm_F631019 el_F631019 g631014 q631015 g631016 g631017 f631129 z631130 P631194 F631195 gm_F631195 el_F631195 o631183 z631275 F631276 k e1 e2 e3 e4 bg631014 bg631016 bg631017 hT631020 hs631021 x631030 x631031 x631032 x631033 x631035 x631036 x631037 x631038 x631039 x631040 x631041 x631043 x631044 x631045 r631120 r631125 fq631126 he631128 hz631130 bz631130 r631138 hk631196 x631184 x631185 x631186 x631187 x631188p.down x631189 x631190p.down x631191p.down x631192 ht631193 r631270 ez631275 n631278 fq631285 ht))
                            · have r631314 : o631183.toInt < 0 := gj_nleL hc631269 (show Int32.toInt 0 = 0 by decide)
                              have bo631183' : gB o631183 (-1) (-1) := ⟨by omega, by omega⟩
                              have hx631315 : tl_RModel_spill_90 D I γ0 el0 f P590252 F590253 q590254 F625428 q590255 g628709 q628852 P628710 F628711 gm_F628711 el_F628711 (0 : Int32) 280 F631195 P631194 gm_F631195 el_F631195 := kt90_630386 280 F631195 P631194 gm_F631195 el_F631195 (kj236_631046 280 F631195 P631194 gm_F631195 el_F631195 (tl_RModel_spill_90_k11 D I γ0 el0 f P590252 F590253 q590254 F625428 q590255 g628709 q628852 P631018 F631019 gm_F631019 el_F631019 g631014 q631015 g631016 g631017 f631129 z631130 P631194 F631195 gm_F631195 el_F631195 o631183 bg631014 bg631016 bg631017 hT631020 hs631021 x631030 x631031 x631032 x631033 x631035 x631036 x631037 x631038 x631039 x631040 x631041 x631043 x631044 x631045 r631120 r631125 fq631126 he631128 hz631130 bz631130 r631138 hk631196 x631184 x631185 x631186 x631187 x631188 x631189 x631190 x631191 x631192 ht631193 r631314))
                              have hx631316 : tl_RModel_spill_73 D I γ0 el0 f P590252 F590253 q590254 F625428 q590255 P625427 F625428 gm_hg625517 el_F625428 (0 : Int32) 280 F631195 P631194 gm_F631195 el_F631195 := kt73_628726 280 F631195 P631194 gm_F631195 el_F631195 (fun R c1 c2 c3 c4 c5 => c4 P628710 F628711 gm_F628711 el_F628711 g628709 p628786 q628783 q628852 p628834 F631195 P631194 gm_F631195 el_F631195 bg628709 hT628712 hs628713 x628716 x628717 x628718 x628719 x628721 x628722 x628723 x628724 x628725 fq628808 r628830 fq628857 hx628853 fq628875 ht628881 hx631315)
                              refine G_iconst 0 dr_cX17_spill_280 (by decide +kernel) ?_
                              exact G_zretA FieldType.boolean dr_cX17_spill_281 rfl rfl (rm_zc pk631217) (rm_zs pk631217) ⟨P631194, F631195, gm_F631195, el_F631195, 0, rfl, rfl, hs631201, (rm_pp hph631216), hB631199, (gB_w (gBl (show Int32.toInt 0 = 0 by decide)) (by decide) (by decide)), (by have qa0 : Int32.toInt 0 = 0 := (by decide); omega), (Or.inl (by decide)), kp631202, mk631215, (fun R c1 c2 c3 c4 c5 c6 => c4 gm_0 el_0 F625428 P625427 gm_F625428 el_F625428 p625453 gm_hg625517 F631195 P631194 gm_F631195 el_F631195 hγ0 hel0 hx625511 fq625518 hg625517 hx631316)⟩
                    refine G_iload 0 dr_cX17_spill_102 rfl ?_
                    refine G_aload_n 1 dr_cX17_spill_104 rfl ?_
                    refine Gp_get 0 hm630441 he630442 dr_cX17_spill_105 (gk_X12 D I) (Nat.le_of_ble_eq_true rfl) wr_9_220 rfl ?_
                    have fq631317 : p630467.toInt = (gm_F630365 2 q630443 : Int) := by omega
                    refine Gw_callV (As := []) (gV_ok D I) (cp_7_ArrayList_size l hl0 D I P630364 F630365 q630443 p630466 q630468 p630467 hm630464 he630465 (gB_w bp630467 (by decide) (by decide))) dr_cX17_spill_108 ⟨wr_10_200, wr_1_18, wr_9_160, by decide, rfl, (Nat.le_of_ble_eq_true rfl), (Nat.le_of_ble_eq_true rfl)⟩ wr_9_158 wr_9_159 hm630464 he630465 rfl (rm_zc pk630390) (rm_zs pk630390) (Nat.le_of_ble_eq_true rfl) (fun r631321 w631322 dc631318 ds631319 hp631320 => ?_) (fun _ _ _ _ _ z => z.elim)
                    obtain ⟨rfl, rfl, hdc, hds⟩ := hp631320
                    change G _ _ _ _ _ _ _ (.int p630467 :: _) _ _ _
                    refine G_widen (cs' := ((rPh gm_F630365 el_F630365 f - rPh γ0 el0 f) / 18)) (sl' := (rPh gm_F630365 el_F630365 f - rPh γ0 el0 f)) (rm_d0 hdc) (rm_d0 hds) ?_
                    refine G_icmp_ge 129 dr_cX17_spill_111 (by decide +kernel) (fun hc631323 => ?_) (fun hc631323 => ?_)
                    · have r631324 : p630467.toInt ≤ g630363.toInt := gC_le hc631323
                      refine G_aload_n 1 dr_cX17_spill_129 rfl ?_
                      have fq631325 : fR (F630365 q628852) 1 = q630444 := by rw [he630442]; rfl
                      refine Gp_get 1 hm630441 he630442 dr_cX17_spill_130 (gk_X12 D I) (Nat.le_of_ble_eq_true rfl) wr_9_223 rfl ?_
                      have fl631328 : p630467.toInt = gm_F630365 2 q630443 := r630469
                      have hp631326 : rAt gm_F630365 el_F630365 q590255 (g628709.toInt : Int).toNat (g630363.toInt : Int).toNat = q630444 := (rAt_e r630373 ht630453.1 (by omega)).trans ht630453.2.1
                      have hL631327 : (g630363.toInt : Int).toNat ≤ gm_F630365 2 (rwL gm_F630365 el_F630365 q590255 (g628709.toInt : Int).toNat) := by unfold rwL; rw [r630373, ht630453.1]; exact tn_le0 (by omega) (by omega)
                      have hm631329 : q630444 ∈ P630364 := RS_m hT630366 ht630449 (by decide)
                      obtain ⟨p631331, p631332, p631333, p631334, p631335, p631336, p631337, he631330, bp631331, bp631332, bp631335, bp631336, bp631337, r631338, r631339, r631340, r631341, r631342⟩ := show rk_1 gm_F630365 q630444 (F630365 q630444) from RS_o hT630366 ht630449
                      have bp631333 := gB_any p631333
                      have bp631334 := gB_any p631334
                      replace r631338 : gH _ := r631338
                      replace r631339 : gH _ := r631339
                      replace r631340 : gH _ := r631340
                      replace r631341 : gH _ := r631341
                      replace r631342 : gH _ := r631342
                      have r631343 : gm_F630365 7 (gm_F630365 1 q630444) = gm_F630365 7 f := by rw [hf630457]
                      have pl631344 := sp_hd x630381 hp631326 (show (g628709.toInt : Int).toNat < gm_F630365 6 f from tn_lt (by omega) (by omega)) hL631327
                      refine G_astore (L' := [(5, .ref q630444), (4, .int g630363), (3, .ref q628852), (2, .int g628709), (0, .ref q590254), (1, .ref q590255)]) dr_cX17_spill_133 (Nat.le_of_ble_eq_true rfl) rfl ?_
                      refine G_aload 0 dr_cX17_spill_135 rfl ?_
                      have fq631345 : fI (F630365 q630444) 0 = p631331 := by rw [he631330]; rfl
                      have fq631346 : fI (F630365 q630444) 5 = p631336 := by rw [he631330]; rfl
                      refine Gw_callV (As := []) (gV_ok D I) (cp_410220_Row_usesA l hl0 D I P630364 F630365 q630444 p631331 p631332 p631333 p631334 p631335 p631336 p631337 hm631329 he631330 bp631331 bp631332 bp631335 bp631336 bp631337) dr_cX17_spill_137 ⟨wr_10_192, wr_1_39, wr_10_195, by decide, rfl, (Nat.le_of_ble_eq_true rfl), (Nat.le_of_ble_eq_true rfl)⟩ wr_10_193 wr_10_194 hm631329 he631330 rfl (rm_zc pk630390) (rm_zs pk630390) (Nat.le_of_ble_eq_true rfl) (fun r631350 w631351 dc631347 ds631348 hp631349 => ?_) (fun _ _ _ _ _ z => z.elim)
                      obtain ⟨o631352, rfl, rfl, hdc, hds, bo631352, x631353, ht631354⟩ := hp631349
                      change G _ _ _ _ _ _ _ (.int o631352 :: _) _ _ _
                      refine G_widen (cs' := ((rPh gm_F630365 el_F630365 f - rPh γ0 el0 f) / 18)) (sl' := (rPh gm_F630365 el_F630365 f - rPh γ0 el0 f)) (rm_d0 hdc) (rm_d0 hds) ?_
                      refine G_if_eq 151 dr_cX17_spill_140 (by decide +kernel) (fun hc631355 => ?_) (fun hc631355 => ?_)
                      · have r631356 : o631352.toInt = 0 := gj_eq hc631355 (show Int32.toInt 0 = 0 by decide)
                        have bo631352' : gB o631352 0 0 := gB_t0 r631356
                        refine G_iconst (-1) dr_cX17_spill_151 (by decide +kernel) ?_
                        refine G_istore (L' := [(6, .int (-1)), (5, .ref q630444), (4, .int g630363), (3, .ref q628852), (2, .int g628709), (0, .ref q590254), (1, .ref q590255)]) dr_cX17_spill_152 (Nat.le_of_ble_eq_true rfl) rfl ?_
                        refine G_aload 1 dr_cX17_spill_154 rfl ?_
                        have fq631357 : fI (F630365 q630444) 6 = p631337 := by rw [he631330]; rfl
                        refine Gw_callV (As := []) (gV_ok D I) (cp_410244_Row_usesB l hl0 D I P630364 F630365 q630444 p631331 p631332 p631333 p631334 p631335 p631336 p631337 hm631329 he631330 bp631331 bp631332 bp631335 bp631336 bp631337) dr_cX17_spill_156 ⟨wr_10_196, wr_1_39, wr_10_199, by decide, rfl, (Nat.le_of_ble_eq_true rfl), (Nat.le_of_ble_eq_true rfl)⟩ wr_10_197 wr_10_198 hm631329 he631330 rfl (rm_zc pk630390) (rm_zs pk630390) (Nat.le_of_ble_eq_true rfl) (fun r631361 w631362 dc631358 ds631359 hp631360 => ?_) (fun _ _ _ _ _ z => z.elim)
                        obtain ⟨o631363, rfl, rfl, hdc, hds, bo631363, x631364, ht631365⟩ := hp631360
                        change G _ _ _ _ _ _ _ (.int o631363 :: _) _ _ _
                        refine G_widen (cs' := ((rPh gm_F630365 el_F630365 f - rPh γ0 el0 f) / 18)) (sl' := (rPh gm_F630365 el_F630365 f - rPh γ0 el0 f)) (rm_d0 hdc) (rm_d0 hds) ?_
                        refine G_if_eq 170 dr_cX17_spill_159 (by decide +kernel) (fun hc631366 => ?_) (fun hc631366 => ?_)
                        · have r631367 : o631363.toInt = 0 := gj_eq hc631366 (show Int32.toInt 0 = 0 by decide)
                          have bo631363' : gB o631363 0 0 := gB_t0 r631367
                          refine G_iconst (-1) dr_cX17_spill_170 (by decide +kernel) ?_
                          refine G_istore (L' := [(7, .int (-1)), (6, .int (-1)), (5, .ref q630444), (4, .int g630363), (3, .ref q628852), (2, .int g628709), (0, .ref q590254), (1, .ref q590255)]) dr_cX17_spill_171 (Nat.le_of_ble_eq_true rfl) rfl ?_
                          refine G_iload 1 dr_cX17_spill_173 rfl ?_
                          refine G_if_lt 236 dr_cX17_spill_175 (by decide +kernel) (fun _ => ?_) (fun hc => absurd hc (by decide))
                          have ac631368 : (fI (F630365 q590254) 11).toInt = p630398.toInt := by rw [he630393]; rfl
                          have ac631369 : (fI (F630365 q590254) 14).toInt = p630401.toInt := by rw [he630393]; rfl
                          refine G_lv (L' := [(0, .ref q590254), (1, .ref q590255), (2, .int g628709), (3, .ref q628852), (4, .int g630363), (5, .ref q630444), (6, .int (-1)), (7, .int (-1))]) [6, 7, 5, 4, 3, 2, 1, 0] rfl ?_
                          exact jn236_631045 P630364 F630365 gm_F630365 el_F630365 g630363 q630444 (-1) (-1) (gB_w bg630363' (by decide) (by decide)) (gB_w (gBl (show Int32.toInt (-1) = (-1) by decide)) (by decide) (by decide)) (gB_w (gBl (show Int32.toInt (-1) = (-1) by decide)) (by decide) (by decide)) hT630366 hs630367 hph630368 hB630369 ht630370 hf630371 r630372 r630373 ht630449 hf630457 (by have qa0 : Int32.toInt (-1) = (-1) := (by decide); omega) (by have qa0 : Int32.toInt (-1) = (-1) := (by decide); omega) (by have qa0 : Int32.toInt (-1) = (-1) := (by decide); omega) (by have qa0 : Int32.toInt (-1) = (-1) := (by decide); omega) (by have qa0 : Int32.toInt (-1) = (-1) := (by decide); omega) (by have qa0 : Int32.toInt (-1) = (-1) := (by decide); omega) x630380 (by exact pl631344.1) (by exact hp631326) (rS1_of he631330 he631330 pl631344.2 (fun h1 h2 h3 h4 => (uA_0 x631353 (by omega) h1 h2 h3 h4).elim) (fun h1 h2 h3 => (uB_0 x631364 (by omega) h1 h2 h3).elim)) (by have qa0 : Int32.toInt (-1) = (-1) := (by decide); omega) (by have qa0 : Int32.toInt (-1) = (-1) := (by decide); omega) (ms_j hm90_630385 (by omega) (by omega) (by omega)) (eO_c (op := p631331.toInt) (by rw [he631330] <;> rfl) (Or.inr ((gHe r631342).resolve_left (fun z => absurd (ht630451.2.symm.trans z) (by decide))))) x630384 x630385 (fun k e1 e2 e3 e4 ht => tl_RModel_spill_90_k12 D I γ0 el0 f P590252 F590253 q590254 F625428 q590255 g628709 q628852 P630364 F630365 gm_F630365 el_F630365 g630363 q630443 p630467 q630444 p631331 p631336 o631352 p631337 o631363 k e1 e2 e3 e4 bg630363 hT630366 hs630367 x630374 x630375 x630376 x630377 x630379 x630380 x630381 x630382 x630383 x630384 x630385 fq630463 fq630474 fq630475 r630487 fq631317 r631324 fq631325 fq631345 fq631346 bo631352 ht631354 r631356 fq631357 bo631363 ht631365 r631367 ht)
                        · have r631370 : o631363.toInt ≠ 0 := gj_neq hc631366 (show Int32.toInt 0 = 0 by decide)
                          have bo631363' : gB o631363 1 1 := gB_t1 bo631363 r631370
                          refine G_aload 1 dr_cX17_spill_162 rfl ?_
                          have fq631371 : fI (F630365 q630444) 3 = p631334 := by rw [he631330]; rfl
                          refine Gp_get 3 hm631329 he631330 dr_cX17_spill_164 (gk_X15 D I) (Nat.le_of_ble_eq_true rfl) wr_9_190 rfl ?_
                          have rb631372 : gB p631334 0 1999 := (gHe r631340).resolve_left (by have z := (uB_1 x631364 (by omega)).2.2; omega)
                          refine G_goto 171 dr_cX17_spill_167 (by decide +kernel) ?_
                          refine G_istore (L' := [(7, .int p631334), (6, .int (-1)), (5, .ref q630444), (4, .int g630363), (3, .ref q628852), (2, .int g628709), (0, .ref q590254), (1, .ref q590255)]) dr_cX17_spill_171 (Nat.le_of_ble_eq_true rfl) rfl ?_
                          refine G_iload 1 dr_cX17_spill_173 rfl ?_
                          refine G_if_lt 236 dr_cX17_spill_175 (by decide +kernel) (fun _ => ?_) (fun hc => absurd hc (by decide))
                          have ac631373 : (fI (F630365 q590254) 11).toInt = p630398.toInt := by rw [he630393]; rfl
                          have ac631374 : (fI (F630365 q590254) 14).toInt = p630401.toInt := by rw [he630393]; rfl
                          refine G_lv (L' := [(0, .ref q590254), (1, .ref q590255), (2, .int g628709), (3, .ref q628852), (4, .int g630363), (5, .ref q630444), (6, .int (-1)), (7, .int p631334)]) [6, 7, 5, 4, 3, 2, 1, 0] rfl ?_
                          exact jn236_631045 P630364 F630365 gm_F630365 el_F630365 g630363 q630444 (-1) p631334 (gB_w bg630363' (by decide) (by decide)) (gB_w (gBl (show Int32.toInt (-1) = (-1) by decide)) (by decide) (by decide)) (gB_w rb631372 (by decide) (by decide)) hT630366 hs630367 hph630368 hB630369 ht630370 hf630371 r630372 r630373 ht630449 hf630457 (by have qa0 : Int32.toInt (-1) = (-1) := (by decide); omega) (by have qa0 : Int32.toInt (-1) = (-1) := (by decide); omega) (by have qa0 : Int32.toInt (-1) = (-1) := (by decide); omega) (by have qa0 : Int32.toInt (-1) = (-1) := (by decide); omega) (by have qa0 : Int32.toInt (-1) = (-1) := (by decide); omega) (by have qa0 : Int32.toInt (-1) = (-1) := (by decide); omega) x630380 (by exact pl631344.1) (by exact hp631326) (rS1_of he631330 he631330 pl631344.2 (fun h1 h2 h3 h4 => (uA_0 x631353 (by omega) h1 h2 h3 h4).elim) (fun _ _ _ => Or.inr ⟨rfl, rfl, by omega, Or.inl (by have qa : Int32.toInt (-1) = -1 := (by decide); omega)⟩)) (by have qa0 : Int32.toInt (-1) = (-1) := (by decide); omega) (by have qa0 : Int32.toInt (-1) = (-1) := (by decide); omega) (ms_j hm90_630385 (by omega) (by omega) (by omega)) (eO_c (op := p631331.toInt) (by rw [he631330] <;> rfl) (Or.inr ((gHe r631342).resolve_left (fun z => absurd (ht630451.2.symm.trans z) (by decide))))) x630384 x630385 (fun k e1 e2 e3 e4 ht => tl_RModel_spill_90_k13 D I γ0 el0 f P590252 F590253 q590254 F625428 q590255 g628709 q628852 P630364 F630365 gm_F630365 el_F630365 g630363 q630443 p630467 q630444 p631331 p631336 o631352 p631337 o631363 p631334 k e1 e2 e3 e4 bg630363 hT630366 hs630367 x630374 x630375 x630376 x630377 x630379 x630380 x630381 x630382 x630383 x630384 x630385 fq630463 fq630474 fq630475 r630487 fq631317 r631324 fq631325 fq631345 fq631346 bo631352 ht631354 r631356 fq631357 bo631363 ht631365 r631370 fq631371 ht)
                      · have r631375 : o631352.toInt ≠ 0 := gj_neq hc631355 (show Int32.toInt 0 = 0 by decide)
                        have bo631352' : gB o631352 1 1 := gB_t1 bo631352 r631375
                        refine G_aload 0 dr_cX17_spill_143 rfl ?_
                        have fq631376 : fI (F630365 q630444) 2 = p631333 := by rw [he631330]; rfl
                        refine Gp_get 2 hm631329 he631330 dr_cX17_spill_145 (gk_X15 D I) (Nat.le_of_ble_eq_true rfl) wr_9_186 rfl ?_
                        have rb631377 : gB p631333 0 1999 := (gHe r631339).resolve_left (by have z := (uA_1 x631353 (by omega)).2.2.2; omega)
                        refine G_goto 152 dr_cX17_spill_148 (by decide +kernel) ?_
                        refine G_istore (L' := [(6, .int p631333), (5, .ref q630444), (4, .int g630363), (3, .ref q628852), (2, .int g628709), (0, .ref q590254), (1, .ref q590255)]) dr_cX17_spill_152 (Nat.le_of_ble_eq_true rfl) rfl ?_
                        refine G_aload 1 dr_cX17_spill_154 rfl ?_
                        have fq631378 : fI (F630365 q630444) 6 = p631337 := by rw [he631330]; rfl
                        refine Gw_callV (As := []) (gV_ok D I) (cp_410244_Row_usesB l hl0 D I P630364 F630365 q630444 p631331 p631332 p631333 p631334 p631335 p631336 p631337 hm631329 he631330 bp631331 bp631332 bp631335 bp631336 bp631337) dr_cX17_spill_156 ⟨wr_10_196, wr_1_39, wr_10_199, by decide, rfl, (Nat.le_of_ble_eq_true rfl), (Nat.le_of_ble_eq_true rfl)⟩ wr_10_197 wr_10_198 hm631329 he631330 rfl (rm_zc pk630390) (rm_zs pk630390) (Nat.le_of_ble_eq_true rfl) (fun r631382 w631383 dc631379 ds631380 hp631381 => ?_) (fun _ _ _ _ _ z => z.elim)
                        obtain ⟨o631384, rfl, rfl, hdc, hds, bo631384, x631385, ht631386⟩ := hp631381
                        change G _ _ _ _ _ _ _ (.int o631384 :: _) _ _ _
                        refine G_widen (cs' := ((rPh gm_F630365 el_F630365 f - rPh γ0 el0 f) / 18)) (sl' := (rPh gm_F630365 el_F630365 f - rPh γ0 el0 f)) (rm_d0 hdc) (rm_d0 hds) ?_
                        refine G_if_eq 170 dr_cX17_spill_159 (by decide +kernel) (fun hc631387 => ?_) (fun hc631387 => ?_)
                        · have r631388 : o631384.toInt = 0 := gj_eq hc631387 (show Int32.toInt 0 = 0 by decide)
                          have bo631384' : gB o631384 0 0 := gB_t0 r631388
                          refine G_iconst (-1) dr_cX17_spill_170 (by decide +kernel) ?_
                          refine G_istore (L' := [(7, .int (-1)), (6, .int p631333), (5, .ref q630444), (4, .int g630363), (3, .ref q628852), (2, .int g628709), (0, .ref q590254), (1, .ref q590255)]) dr_cX17_spill_171 (Nat.le_of_ble_eq_true rfl) rfl ?_
                          refine G_iload 1 dr_cX17_spill_173 rfl ?_
                          refine G_if_lt 236 dr_cX17_spill_175 (by decide +kernel) (fun hc => absurd (show False by have := gj_lt hc (show Int32.toInt 0 = 0 by decide); omega) not_false) (fun _ => ?_)
                          refine G_aload_n 6 dr_cX17_spill_178 rfl ?_
                          have fq631389 : fR (F630365 q590254) 19 = (gm_F630365 9 19) := by rw [he630393]; rfl
                          refine Gp_get 19 hm630392 he630393 dr_cX17_spill_179 (gk_X17 D I) (Nat.le_of_ble_eq_true rfl) wr_7_93 rfl ?_
                          refine G_iload 1 dr_cX17_spill_182 rfl ?_
                          have hm631390 : (gm_F630365 9 19) ∈ P630364 := RS_m hT630366 ht630426 (by decide)
                          obtain ⟨f631392, he631391, bf631392⟩ := show rk_21 I (F630365 (gm_F630365 9 19)) from RS_o hT630366 ht630426
                          refine Gp_iald 0 hm631390 he631391 dr_cX17_spill_184 rfl (gB_in rb631377 (by decide) (by decide)) (G_nam fun z631393 hz631393 => ?_)
                          have bz631393 : gB z631393 (-1) 1999 := by rw [hz631393]; exact bf631392 _
                          have c9_631394 : cB (F625428 (γ0 9 19)) = f631392 := by rw [← x630380, ← congrFun (rSk_9 hs630367) 19]; exact cB_of he631391
                          have hs631395 : (cB (F625428 (γ0 9 19)) p631333.toInt.toNat).toInt = z631393.toInt := by rw [c9_631394, hz631393]; rfl
                          refine G_if_lt 236 dr_cX17_spill_185 (by decide +kernel) (fun hc631397 => ?_) (fun hc631397 => ?_)
                          · have r631398 : z631393.toInt < 0 := gj_lt hc631397 (show Int32.toInt 0 = 0 by decide)
                            have bz631393' : gB z631393 (-1) (-1) := ⟨by omega, by omega⟩
                            have ac631399 : (fI (F630365 q590254) 11).toInt = p630398.toInt := by rw [he630393]; rfl
                            have ac631400 : (fI (F630365 q590254) 14).toInt = p630401.toInt := by rw [he630393]; rfl
                            refine G_lv (L' := [(0, .ref q590254), (1, .ref q590255), (2, .int g628709), (3, .ref q628852), (4, .int g630363), (5, .ref q630444), (6, .int p631333), (7, .int (-1))]) [6, 7, 5, 4, 3, 2, 1, 0] rfl ?_
                            exact jn236_631045 P630364 F630365 gm_F630365 el_F630365 g630363 q630444 p631333 (-1) (gB_w bg630363' (by decide) (by decide)) (gB_w rb631377 (by decide) (by decide)) (gB_w (gBl (show Int32.toInt (-1) = (-1) by decide)) (by decide) (by decide)) hT630366 hs630367 hph630368 hB630369 ht630370 hf630371 r630372 r630373 ht630449 hf630457 (by have qa0 : Int32.toInt (-1) = (-1) := (by decide); omega) (by have qa0 : Int32.toInt (-1) = (-1) := (by decide); omega) (by have qa0 : Int32.toInt (-1) = (-1) := (by decide); omega) (by have qa0 : Int32.toInt (-1) = (-1) := (by decide); omega) (by have qa0 : Int32.toInt (-1) = (-1) := (by decide); omega) (by have qa0 : Int32.toInt (-1) = (-1) := (by decide); omega) x630380 (by exact pl631344.1) (by exact hp631326) (rS1_of he631330 he631330 pl631344.2 (fun _ _ _ _ => Or.inr ⟨rfl, by omega⟩) (fun h1 h2 h3 => (uB_0 x631385 (by omega) h1 h2 h3).elim)) (by have qa0 : Int32.toInt (-1) = (-1) := (by decide); omega) (by have qa0 : Int32.toInt (-1) = (-1) := (by decide); omega) (ms_j hm90_630385 (by omega) (by omega) (by omega)) (eO_c (op := p631331.toInt) (by rw [he631330] <;> rfl) (Or.inr ((gHe r631342).resolve_left (fun z => absurd (ht630451.2.symm.trans z) (by decide))))) x630384 x630385 (fun k e1 e2 e3 e4 ht => tl_RModel_spill_90_k14 D I γ0 el0 f P590252 F590253 q590254 F625428 q590255 g628709 q628852 P630364 F630365 gm_F630365 el_F630365 g630363 q630443 p630467 q630444 p631331 p631336 o631352 p631333 p631337 o631384 f631392 z631393 k e1 e2 e3 e4 bg630363 hT630366 hs630367 x630374 x630375 x630376 x630377 x630379 x630380 x630381 x630382 x630383 x630384 x630385 fq630463 fq630474 fq630475 r630487 fq631317 r631324 fq631325 fq631345 fq631346 bo631352 ht631354 r631375 fq631376 fq631378 bo631384 ht631386 r631388 fq631389 he631391 hz631393 bz631393 r631398 ht)
                          · have r631401 : 0 ≤ z631393.toInt := gj_nlt hc631397 (show Int32.toInt 0 = 0 by decide)
                            have bz631393' : gB z631393 0 1999 := ⟨by omega, by omega⟩
                            refine G_aload_n 6 dr_cX17_spill_188 rfl ?_
                            refine G_aload_n 7 dr_cX17_spill_189 rfl ?_
                            refine G_aload_n 4 dr_cX17_spill_190 rfl ?_
                            refine G_iload 3 dr_cX17_spill_191 rfl ?_
                            refine G_aload_n 6 dr_cX17_spill_193 rfl ?_
                            refine Gp_get 19 hm630392 he630393 dr_cX17_spill_194 (gk_X17 D I) (Nat.le_of_ble_eq_true rfl) wr_7_93 rfl ?_
                            refine G_iload 1 dr_cX17_spill_197 rfl ?_
                            refine Gp_iald 0 hm631390 he631391 dr_cX17_spill_199 rfl (gB_in rb631377 (by decide) (by decide)) (G_eqi (y := z631393) hz631393.symm ?_)
                            have r631402 := (spi625514.2.2.2 p631333.toInt.toNat (tn_lt (by omega) (by omega)) (by omega)).2.2
                            have ac631403 : (fI (F630365 q590254) 11).toInt = p630398.toInt := by rw [he630393]; rfl
                            have ac631404 : (fI (F630365 q590254) 14).toInt = p630401.toInt := by rw [he630393]; rfl
                            have rg631405 := rM_ge hT630366 ht630388 hf630389
                            have rm631406 := rM_bd hB630369
                            have bd631407 := rBd_c hT630366 ht630388 hf630389 hB630369
                            have rc631408 := rc_at hT630366 ht630388 hf630389
                            refine Gw_callV (As := [.ref q590255, .ref q628852, .int g630363, .int z631393]) (gV_ok D I) (cg_409847_SpillForgeModel_load l hl0 D I gm_F630365 el_F630365 f B P630364 F630365 q590254 q590255 q628852 g630363 z631393 g628709.toInt.toNat hT630366 ht630387 ht630388 ht630370 hf630389 hB630369 hBk r630372 r630373 hf630371 bg630363' bz631393' (by have qa0 : Int32.toInt (-1) = (-1) := (by decide); omega) (by have qa0 : Int32.toInt (-1) = (-1) := (by decide); omega) (by have qa0 : Int32.toInt (-1) = (-1) := (by decide); omega) (by have qa0 : Int32.toInt (-1) = (-1) := (by decide); omega) (by have qa0 : Int32.toInt (-1) = (-1) := (by decide); omega)) dr_cX17_spill_200 ⟨wr_11_67, wr_1_14, wr_11_70, by decide, rfl, (Nat.le_of_ble_eq_true rfl), (Nat.le_of_ble_eq_true rfl)⟩ wr_11_69 wr_p_111 hm630392 he630393 rfl (rm_gc hph630368 pk630390) (rm_gs hph630368 pk630390) (Nat.le_of_ble_eq_true rfl) (fun r631412 w631413 dc631409 ds631410 hp631411 => ?_) (fun _ _ _ _ _ z => z.elim)
                            obtain ⟨P631425, F631426, gm_F631426, el_F631426, o631414, rfl, rfl, hk631427, ⟨hr631428, hr631429⟩, hB631430, bo631414, x631415, x631416, x631417, x631418, x631419, x631420, x631421, x631422, x631423, ht631424⟩ := hp631411
                            have hT631431 := hk631427.1
                            have hs631432 := rSk_tr hs630367 hk631427 (by decide) (by decide) (by decide)
                            have kp631433 : F631426 (γ0 9 3) = F590253 (γ0 9 3) := (rSk_F hk631427 (rSk_k hs630367 k0_3 (by decide) (by decide)) (by decide) (by decide)).trans x630384
                            have kp631434 : F631426 (γ0 9 19) = F625428 (γ0 9 19) := (rSk_F hk631427 (rSk_k hs630367 k0_19 (by decide) (by decide)) (by decide) (by decide)).trans x630380
                            have ht631435 : rKd gm_F631426 q590254 10 := rSk_k hk631427 ht630387 (by decide) (by decide)
                            have ht631436 : rKd gm_F631426 q590255 9 := rSk_k hk631427 ht630388 (by decide) (by decide)
                            have hf631437 : gm_F631426 1 q590255 = f := rSk_1 hk631427 ht630388 (by decide) hf630389
                            have ht631438 : rKd gm_F631426 q628852 2 := rSk_k hk631427 ht630370 (by decide) (by decide)
                            have hf631439 : gm_F631426 1 q628852 = f := rSk_1 hk631427 ht630370 (by decide) hf630371
                            have ht631440 : rKd gm_F631426 q630443 3 := rSk_k hk631427 ht630447 (by decide) (by decide)
                            have hf631441 : gm_F631426 1 q630443 = f := rSk_1 hk631427 ht630447 (by decide) hf630456
                            have ht631442 : rKd gm_F631426 q630444 1 := rSk_k hk631427 ht630449 (by decide) (by decide)
                            have hf631443 : gm_F631426 1 q630444 = f := rSk_1 hk631427 ht630449 (by decide) hf630457
                            have he631444 : F631426 q630444 = .inr (20, [.int p631331, .int p631332, .int p631333, .int p631334, .int p631335, .int p631336, .int p631337]) := (rSk_F hk631427 ht630449 (by decide) (by decide)).trans he631330
                            have hm631445 : q630444 ∈ P631425 := RS_m hT631431 ht631442 (by decide)
                            clear bp630445 bp630446 r630454 r630455 rg631405 rm631406 bd631407 rc631408
                            have mk631446 : mKp (F590253 q590254) (F631426 q590254) := mKp_tr x630385 x631423
                            have hph631447 : rPh γ0 el0 f ≤ rPh gm_F631426 el_F631426 f := rm_ph hph630368 hr631429
                            have pk631448 : rPh gm_F631426 el_F631426 f ≤ 387 * B + 6000 := rm_pk (rM_ge hT631431 ht631436 hf631437).1 (rM_bd hB631430)
                            change G _ _ _ _ _ _ _ (.int o631414 :: _) _ _ _
                            refine G_widen (cs' := ((rPh gm_F631426 el_F631426 f - rPh γ0 el0 f) / 18)) (sl' := (rPh gm_F631426 el_F631426 f - rPh γ0 el0 f)) (rm_wc hph630368 hr631428) (rm_ws hph630368 hr631429) ?_
                            have sz631449 := x631415
                            have r631450 : 0 < gm_F631426 6 (gm_F631426 1 q590255) := by rw [hf631437]; omega
                            have hm631451 : q590254 ∈ P631425 := RS_m hT631431 ht631435 (by decide)
                            refine rk10_e (show rk_10 gm_F631426 (F631426 q590254) from RS_o hT631431 ht631435) (fun q631453 q631454 p631455 p631456 p631457 p631458 p631459 p631460 p631461 p631462 p631463 p631464 p631465 p631466 p631467 p631468 p631469 he631452 hB631496 ht631470 ht631471 ht631472 ht631473 ht631474 ht631475 ht631476 ht631477 ht631478 ht631479 ht631480 ht631481 ht631482 ht631483 ht631484 ht631485 ht631486 ht631487 ht631488 ht631489 ht631490 ht631491 ht631492 ht631493 hB631497 => ?_)
                            have ac631498 : (fI (F631426 q590254) 11).toInt = p631457.toInt := by rw [he631452]; rfl
                            have bp631457 : gB p631457 0 100 := (hB631496.2.2.1)
                            have ac631499 : (fI (F631426 q590254) 14).toInt = p631460.toInt := by rw [he631452]; rfl
                            have bp631460 : gB p631460 0 2000 := (hB631496.2.2.2.1)
                            refine G_istore (L' := [(8, .int o631414), (7, .int (-1)), (6, .int p631333), (5, .ref q630444), (4, .int g630363), (3, .ref q628852), (2, .int g628709), (0, .ref q590254), (1, .ref q590255)]) dr_cX17_spill_203 (Nat.le_of_ble_eq_true rfl) rfl ?_
                            refine G_iload 0 dr_cX17_spill_205 rfl ?_
                            refine G_if_ge 212 dr_cX17_spill_207 (by decide +kernel) (fun hc631500 => ?_) (fun hc631500 => ?_)
                            · have r631501 : 0 ≤ o631414.toInt := gj_leL hc631500 (show Int32.toInt 0 = 0 by decide)
                              have bo631414' : gB o631414 0 1999 := ⟨by omega, by omega⟩
                              have pl631503 := sp_ld (x631421.resolve_left (by omega)) pl631344.1 (tn_ge (by omega)) (rfl : ((g630363.toInt : Int).toNat + 1) = (g630363.toInt : Int).toNat + 1)
                              have hp631504 : rAt gm_F631426 el_F631426 q590255 (g628709.toInt : Int).toNat ((g630363.toInt : Int).toNat + 1) = q630444 := ((x631422.resolve_left (by omega)) (g630363.toInt : Int).toNat (Nat.le_refl _)).trans hp631326
                              have r631505 := x631419.resolve_left (by omega)
                              have x631419p := PLift.up x631419
                              have x631421p := PLift.up x631421
                              have x631422p := PLift.up x631422
                              clear x631419 x631421 x631422
                              obtain ⟨z631506, hz631506⟩ : ∃ z : Int32, z = g630363 + Int32.ofInt 1 := ⟨_, rfl⟩
                              have ez631506 : z631506.toInt = g630363.toInt + 1 := gI_inc hz631506 (by decide) bg630363' (by decide) (by decide)
                              have bz631506 : gB z631506 1 1000001 := ⟨by omega, by omega⟩
                              refine G_iinc (L' := [(4, .int z631506), (8, .int o631414), (7, .int (-1)), (6, .int p631333), (5, .ref q630444), (3, .ref q628852), (2, .int g628709), (0, .ref q590254), (1, .ref q590255)]) z631506 4 dr_cX17_spill_212 rfl hz631506.symm (Nat.le_of_ble_eq_true rfl) rfl ?_
                              refine G_aload 4 dr_cX17_spill_215 rfl ?_
                              refine G_iload 1 dr_cX17_spill_217 rfl ?_
                              refine Gp_put 2 hm631445 he631444 dr_cX17_spill_219 (gk_X15 D I) (Nat.le_of_ble_eq_true rfl) wr_9_186 rfl rfl rfl (Nat.le_of_ble_eq_true rfl) (fun F631507 e631508 n631509 => ?_)
                              have r631510 := rk1_at hT631431 ht631442 he631444
                              have he631511 : F631507 q590254 = .inr (22, [.ref (gm_F631426 9 0), .ref (gm_F631426 9 1), .ref (gm_F631426 9 2), .ref (gm_F631426 9 3), .ref (gm_F631426 9 4), .ref (gm_F631426 9 5), .ref (gm_F631426 9 6), .ref (gm_F631426 9 7), .ref (gm_F631426 9 8), .int p631455, .int p631456, .int p631457, .int p631458, .int p631459, .int p631460, .ref (gm_F631426 9 15), .ref (gm_F631426 9 16), .ref (gm_F631426 9 17), .ref (gm_F631426 9 18), .ref (gm_F631426 9 19), .ref (gm_F631426 9 20), .ref (gm_F631426 9 21), .ref (gm_F631426 9 22), .int p631461, .int p631462, .int p631463, .int p631464, .int p631465, .ref q631453, .ref (gm_F631426 9 29), .int p631466, .ref (gm_F631426 9 31), .int p631467, .int p631468, .int p631469, .ref q631454]) := (n631509 q590254 (rn_oo he631452 he631444 (by decide))).trans he631452
                              have he631512 : F631507 q630444 = .inr (20, [.int p631331, .int p631332, .int o631414, .int p631334, .int p631335, .int p631336, .int p631337]) := e631508
                              have mk631513 : mKp (F590253 q590254) (F631507 q590254) := mKp_tr mk631446 (mKp_eq (n631509 q590254 (rn_ty ht631435 ht631442 (by decide))))
                              have kp631514 : F631507 (γ0 9 3) = F590253 (γ0 9 3) := (n631509 (γ0 9 3) (rn_ty (rSk_k hs631432 k0_3 (by decide) (by decide)) ht631442 (by decide))).trans kp631433
                              have kp631515 : F631507 (γ0 9 19) = F625428 (γ0 9 19) := (n631509 (γ0 9 19) (rn_ty (rSk_k hs631432 k0_19 (by decide) (by decide)) ht631442 (by decide))).trans kp631434
                              have fq631516 : F631507 q630444 = cF (F631426 q630444) 2 (.int o631414) := by rw [he631512, he631444]; rfl
                              refine G_iload 2 dr_cX17_spill_222 rfl ?_
                              refine G_iload 3 dr_cX17_spill_224 rfl ?_
                              refine G_icmp_ne 236 dr_cX17_spill_226 (by decide +kernel) (fun _ => ?_) (fun hc => absurd (show False by have := gj_eqL hc (show Int32.toInt (-1) = (-1) by decide); omega) not_false)
                              have hT631517 : RS D I P631425 F631507 gm_F631426 el_F631426 := RS_set hT631431 n631509 ht631442 (by decide) ⟨p631331, p631332, o631414, p631334, p631335, p631336, p631337, he631512, bp631331, bp631332, bp631335, bp631336, bp631337, (gHe r631338), (Or.inr bo631414'), (gHe r631340), r631510.1, r631510.2⟩
                              have hs631519 := rSk_put hs631432 hT631517 n631509 ht631442 (by decide) (by decide) (Or.inr (Or.inl hf631443))
                              have hm631521 : q628852 ∈ P631425 := RS_m hT631517 ht631438 (by decide)
                              obtain ⟨q631523, q631524, p631525, p631526, he631522, ht631533, ht631527, ht631528, ht631529, ht631530, ht631531, bp631525, bp631526, r631532, r631534, r631535⟩ := show rk_2 gm_F631426 q628852 (F631507 q628852) from RS_o hT631517 ht631438
                              have hf631536 : gm_F631426 1 q631523 = f := (show gm_F631426 1 q631523 = gm_F631426 1 q628852 from ht631528).trans hf631439
                              have hf631537 : gm_F631426 1 q631524 = f := (show gm_F631426 1 q631524 = gm_F631426 1 q628852 from ht631530).trans hf631439
                              have r631538 : gm_F631426 6 (gm_F631426 1 q628852) = gm_F631426 6 f := by rw [hf631439]
                              have r631539 : gm_F631426 7 (gm_F631426 1 q628852) = gm_F631426 7 f := by rw [hf631439]
                              have r631540 : gm_F631426 19 (gm_F631426 1 q628852) = gm_F631426 19 f := by rw [hf631439]
                              have r631541 := r631532.resolve_left (by omega)
                              clear r631532
                              have r631542 : gm_F631426 2 (gm_F631426 14 q628852) = gm_F631426 2 q631523 := by rw [ht631533.1]
                              have pl631520 := sp_put hT631431 ht631436 hf631437 pl631503 n631509 hp631504 (show (g628709.toInt : Int).toNat < gm_F631426 6 f from tn_lt (by omega) (by omega)) (by unfold rwL; rw [x631418.2.2]; exact tn_le1 (by omega) (by omega))
                              have ac631543 : (fI (F631507 q590254) 11).toInt = p631457.toInt := by rw [he631511]; rfl
                              have ac631544 : (fI (F631507 q590254) 14).toInt = p631460.toInt := by rw [he631511]; rfl
                              refine G_lv (L' := [(0, .ref q590254), (1, .ref q590255), (2, .int g628709), (3, .ref q628852), (4, .int z631506), (5, .ref q630444), (6, .int p631333), (7, .int (-1))]) [7, 8, 6, 5, 0, 4, 3, 2] rfl ?_
                              exact jn236_631045 P631425 F631507 gm_F631426 el_F631426 z631506 q630444 p631333 (-1) (gB_w bz631506 (by decide) (by decide)) (gB_w rb631377 (by decide) (by decide)) (gB_w (gBl (show Int32.toInt (-1) = (-1) by decide)) (by decide) (by decide)) hT631517 hs631519 hph631447 hB631430 ht631438 hf631439 x631418.2.1 x631418.2.2 ht631442 hf631443 (by have qa0 : Int32.toInt (-1) = (-1) := (by decide); omega) (by have qa0 : Int32.toInt (-1) = (-1) := (by decide); omega) (by have qa0 : Int32.toInt (-1) = (-1) := (by decide); omega) (by have qa0 : Int32.toInt (-1) = (-1) := (by decide); omega) (by have qa0 : Int32.toInt (-1) = (-1) := (by decide); omega) (by have qa0 : Int32.toInt (-1) = (-1) := (by decide); omega) kp631515 (by rw [(show (z631506.toInt : Int).toNat = ((g630363.toInt : Int).toNat + 1) from tn_eq1 (by omega) (by omega))]; exact pl631520) (by rw [(show (z631506.toInt : Int).toNat = ((g630363.toInt : Int).toNat + 1) from tn_eq1 (by omega) (by omega))]; exact hp631504) (rS1_of he631330 he631512 pl631344.2 (fun _ _ _ _ => Or.inl (by omega)) (fun h1 h2 h3 => (uB_0 x631385 (by omega) h1 h2 h3).elim)) (by have qa0 : Int32.toInt (-1) = (-1) := (by decide); omega) (by have qa0 : Int32.toInt (-1) = (-1) := (by decide); omega) (ms_j hm90_630385 (by omega) (by omega) (by omega)) (eO_c (op := p631331.toInt) (by rw [he631512] <;> rfl) (Or.inr ((gHe r631342).resolve_left (fun z => absurd (ht630451.2.symm.trans z) (by decide))))) kp631514 mk631513 (fun k e1 e2 e3 e4 ht => tl_RModel_spill_90_k15 D I γ0 el0 f P590252 F590253 q590254 F625428 q590255 g628709 q628852 P630364 F630365 gm_F630365 el_F630365 g630363 q630443 p630467 q630444 p631331 p631336 o631352 p631333 p631337 o631384 f631392 z631393 P631425 F631426 gm_F631426 el_F631426 o631414 z631506 F631507 k e1 e2 e3 e4 bg630363 hT630366 hs630367 x630374 x630375 x630376 x630377 x630379 x630380 x630381 x630382 x630383 x630384 x630385 fq630463 fq630474 fq630475 r630487 fq631317 r631324 fq631325 fq631345 fq631346 bo631352 ht631354 r631375 fq631376 fq631378 bo631384 ht631386 r631388 fq631389 he631391 hz631393 bz631393 r631401 hk631427 x631415 x631416 x631417 x631418 x631419p.down x631420 x631421p.down x631422p.down x631423 ht631424 r631501 ez631506 n631509 fq631516 ht)
                            · have r631545 : o631414.toInt < 0 := gj_nleL hc631500 (show Int32.toInt 0 = 0 by decide)
                              have bo631414' : gB o631414 (-1) (-1) := ⟨by omega, by omega⟩
                              have hx631546 : tl_RModel_spill_90 D I γ0 el0 f P590252 F590253 q590254 F625428 q590255 g628709 q628852 P628710 F628711 gm_F628711 el_F628711 (0 : Int32) 210 F631426 P631425 gm_F631426 el_F631426 := kt90_630386 210 F631426 P631425 gm_F631426 el_F631426 (tl_RModel_spill_90_k16 D I γ0 el0 f P590252 F590253 q590254 F625428 q590255 g628709 q628852 P630364 F630365 gm_F630365 el_F630365 g630363 q630443 p630467 q630444 p631331 p631336 o631352 p631333 p631337 o631384 f631392 z631393 P631425 F631426 gm_F631426 el_F631426 o631414 bg630363 hT630366 hs630367 x630374 x630375 x630376 x630377 x630379 x630380 x630381 x630382 x630383 x630384 x630385 fq630463 fq630474 fq630475 r630487 fq631317 r631324 fq631325 fq631345 fq631346 bo631352 ht631354 r631375 fq631376 fq631378 bo631384 ht631386 r631388 fq631389 he631391 hz631393 bz631393 r631401 hk631427 x631415 x631416 x631417 x631418 x631419 x631420 x631421 x631422 x631423 ht631424 r631545)
                              have hx631547 : tl_RModel_spill_73 D I γ0 el0 f P590252 F590253 q590254 F625428 q590255 P625427 F625428 gm_hg625517 el_F625428 (0 : Int32) 210 F631426 P631425 gm_F631426 el_F631426 := kt73_628726 210 F631426 P631425 gm_F631426 el_F631426 (fun R c1 c2 c3 c4 c5 => c5 P628710 F628711 gm_F628711 el_F628711 g628709 p628786 q628783 q628852 p628834 F631426 P631425 gm_F631426 el_F631426 bg628709 hT628712 hs628713 x628716 x628717 x628718 x628719 x628721 x628722 x628723 x628724 x628725 fq628808 r628830 fq628857 hx628853 fq628875 ht628881 hx631546)
                              refine G_iconst 0 dr_cX17_spill_210 (by decide +kernel) ?_
                              exact G_zretA FieldType.boolean dr_cX17_spill_211 rfl rfl (rm_zc pk631448) (rm_zs pk631448) ⟨P631425, F631426, gm_F631426, el_F631426, 0, rfl, rfl, hs631432, (rm_pp hph631447), hB631430, (gB_w (gBl (show Int32.toInt 0 = 0 by decide)) (by decide) (by decide)), (by have qa0 : Int32.toInt (-1) = (-1) := (by decide); have qa1 : Int32.toInt 0 = 0 := (by decide); omega), (Or.inl (by decide)), kp631433, mk631446, (fun R c1 c2 c3 c4 c5 c6 => c5 gm_0 el_0 F625428 P625427 gm_F625428 el_F625428 p625453 gm_hg625517 F631426 P631425 gm_F631426 el_F631426 hγ0 hel0 hx625511 fq625518 hg625517 hx631547)⟩
                        · have r631548 : o631384.toInt ≠ 0 := gj_neq hc631387 (show Int32.toInt 0 = 0 by decide)
                          have bo631384' : gB o631384 1 1 := gB_t1 bo631384 r631548
                          refine G_aload 1 dr_cX17_spill_162 rfl ?_
                          have fq631549 : fI (F630365 q630444) 3 = p631334 := by rw [he631330]; rfl
                          refine Gp_get 3 hm631329 he631330 dr_cX17_spill_164 (gk_X15 D I) (Nat.le_of_ble_eq_true rfl) wr_9_190 rfl ?_
                          have rb631550 : gB p631334 0 1999 := (gHe r631340).resolve_left (by have z := (uB_1 x631385 (by omega)).2.2; omega)
                          refine G_goto 171 dr_cX17_spill_167 (by decide +kernel) ?_
                          refine G_istore (L' := [(7, .int p631334), (6, .int p631333), (5, .ref q630444), (4, .int g630363), (3, .ref q628852), (2, .int g628709), (0, .ref q590254), (1, .ref q590255)]) dr_cX17_spill_171 (Nat.le_of_ble_eq_true rfl) rfl ?_
                          refine G_iload 1 dr_cX17_spill_173 rfl ?_
                          refine G_if_lt 236 dr_cX17_spill_175 (by decide +kernel) (fun hc => absurd (show False by have := gj_lt hc (show Int32.toInt 0 = 0 by decide); omega) not_false) (fun _ => ?_)
                          refine G_aload_n 6 dr_cX17_spill_178 rfl ?_
                          have fq631551 : fR (F630365 q590254) 19 = (gm_F630365 9 19) := by rw [he630393]; rfl
                          refine Gp_get 19 hm630392 he630393 dr_cX17_spill_179 (gk_X17 D I) (Nat.le_of_ble_eq_true rfl) wr_7_93 rfl ?_
                          refine G_iload 1 dr_cX17_spill_182 rfl ?_
                          have hm631552 : (gm_F630365 9 19) ∈ P630364 := RS_m hT630366 ht630426 (by decide)
                          obtain ⟨f631554, he631553, bf631554⟩ := show rk_21 I (F630365 (gm_F630365 9 19)) from RS_o hT630366 ht630426
                          refine Gp_iald 0 hm631552 he631553 dr_cX17_spill_184 rfl (gB_in rb631377 (by decide) (by decide)) (G_nam fun z631555 hz631555 => ?_)
                          have bz631555 : gB z631555 (-1) 1999 := by rw [hz631555]; exact bf631554 _
                          have c9_631556 : cB (F625428 (γ0 9 19)) = f631554 := by rw [← x630380, ← congrFun (rSk_9 hs630367) 19]; exact cB_of he631553
                          have hs631557 : (cB (F625428 (γ0 9 19)) p631333.toInt.toNat).toInt = z631555.toInt := by rw [c9_631556, hz631555]; rfl
                          refine G_if_lt 236 dr_cX17_spill_185 (by decide +kernel) (fun hc631559 => ?_) (fun hc631559 => ?_)
                          · have r631560 : z631555.toInt < 0 := gj_lt hc631559 (show Int32.toInt 0 = 0 by decide)
                            have bz631555' : gB z631555 (-1) (-1) := ⟨by omega, by omega⟩
                            have ac631561 : (fI (F630365 q590254) 11).toInt = p630398.toInt := by rw [he630393]; rfl
                            have ac631562 : (fI (F630365 q590254) 14).toInt = p630401.toInt := by rw [he630393]; rfl
                            refine G_lv (L' := [(0, .ref q590254), (1, .ref q590255), (2, .int g628709), (3, .ref q628852), (4, .int g630363), (5, .ref q630444), (6, .int p631333), (7, .int p631334)]) [6, 7, 5, 4, 3, 2, 1, 0] rfl ?_
                            exact jn236_631045 P630364 F630365 gm_F630365 el_F630365 g630363 q630444 p631333 p631334 (gB_w bg630363' (by decide) (by decide)) (gB_w rb631377 (by decide) (by decide)) (gB_w rb631550 (by decide) (by decide)) hT630366 hs630367 hph630368 hB630369 ht630370 hf630371 r630372 r630373 ht630449 hf630457 (by omega) (by omega) (by omega) (by omega) (by omega) (by omega) x630380 (by exact pl631344.1) (by exact hp631326) (rS1_of he631330 he631330 pl631344.2 (fun _ _ _ _ => Or.inr ⟨rfl, by omega⟩) (fun _ _ _ => Or.inr ⟨rfl, rfl, by omega, (Classical.em (p631334.toInt = p631333.toInt)).elim (fun e => Or.inr (by rw [e]; omega)) (fun e => Or.inl e)⟩)) (by omega) (by omega) (ms_j hm90_630385 (by omega) (by omega) (by omega)) (eO_c (op := p631331.toInt) (by rw [he631330] <;> rfl) (Or.inr ((gHe r631342).resolve_left (fun z => absurd (ht630451.2.symm.trans z) (by decide))))) x630384 x630385 (fun k e1 e2 e3 e4 ht => tl_RModel_spill_90_k17 D I γ0 el0 f P590252 F590253 q590254 F625428 q590255 g628709 q628852 P630364 F630365 gm_F630365 el_F630365 g630363 q630443 p630467 q630444 p631331 p631336 o631352 p631333 p631337 o631384 p631334 f631554 z631555 k e1 e2 e3 e4 bg630363 hT630366 hs630367 x630374 x630375 x630376 x630377 x630379 x630380 x630381 x630382 x630383 x630384 x630385 fq630463 fq630474 fq630475 r630487 fq631317 r631324 fq631325 fq631345 fq631346 bo631352 ht631354 r631375 fq631376 fq631378 bo631384 ht631386 r631548 fq631549 fq631551 he631553 hz631555 bz631555 r631560 ht)
                          · have r631563 : 0 ≤ z631555.toInt := gj_nlt hc631559 (show Int32.toInt 0 = 0 by decide)
                            have bz631555' : gB z631555 0 1999 := ⟨by omega, by omega⟩
                            refine G_aload_n 6 dr_cX17_spill_188 rfl ?_
                            refine G_aload_n 7 dr_cX17_spill_189 rfl ?_
                            refine G_aload_n 4 dr_cX17_spill_190 rfl ?_
                            refine G_iload 3 dr_cX17_spill_191 rfl ?_
                            refine G_aload_n 6 dr_cX17_spill_193 rfl ?_
                            refine Gp_get 19 hm630392 he630393 dr_cX17_spill_194 (gk_X17 D I) (Nat.le_of_ble_eq_true rfl) wr_7_93 rfl ?_
                            refine G_iload 1 dr_cX17_spill_197 rfl ?_
                            refine Gp_iald 0 hm631552 he631553 dr_cX17_spill_199 rfl (gB_in rb631377 (by decide) (by decide)) (G_eqi (y := z631555) hz631555.symm ?_)
                            have r631564 := (spi625514.2.2.2 p631333.toInt.toNat (tn_lt (by omega) (by omega)) (by omega)).2.2
                            have ac631565 : (fI (F630365 q590254) 11).toInt = p630398.toInt := by rw [he630393]; rfl
                            have ac631566 : (fI (F630365 q590254) 14).toInt = p630401.toInt := by rw [he630393]; rfl
                            have rg631567 := rM_ge hT630366 ht630388 hf630389
                            have rm631568 := rM_bd hB630369
                            have bd631569 := rBd_c hT630366 ht630388 hf630389 hB630369
                            have rc631570 := rc_at hT630366 ht630388 hf630389
                            refine Gw_callV (As := [.ref q590255, .ref q628852, .int g630363, .int z631555]) (gV_ok D I) (cg_409847_SpillForgeModel_load l hl0 D I gm_F630365 el_F630365 f B P630364 F630365 q590254 q590255 q628852 g630363 z631555 g628709.toInt.toNat hT630366 ht630387 ht630388 ht630370 hf630389 hB630369 hBk r630372 r630373 hf630371 bg630363' bz631555' (by omega) (by omega) (by omega) (by omega) (by omega)) dr_cX17_spill_200 ⟨wr_11_67, wr_1_14, wr_11_70, by decide, rfl, (Nat.le_of_ble_eq_true rfl), (Nat.le_of_ble_eq_true rfl)⟩ wr_11_69 wr_p_111 hm630392 he630393 rfl (rm_gc hph630368 pk630390) (rm_gs hph630368 pk630390) (Nat.le_of_ble_eq_true rfl) (fun r631574 w631575 dc631571 ds631572 hp631573 => ?_) (fun _ _ _ _ _ z => z.elim)
                            obtain ⟨P631587, F631588, gm_F631588, el_F631588, o631576, rfl, rfl, hk631589, ⟨hr631590, hr631591⟩, hB631592, bo631576, x631577, x631578, x631579, x631580, x631581, x631582, x631583, x631584, x631585, ht631586⟩ := hp631573
                            have hT631593 := hk631589.1
                            have hs631594 := rSk_tr hs630367 hk631589 (by decide) (by decide) (by decide)
                            have kp631595 : F631588 (γ0 9 3) = F590253 (γ0 9 3) := (rSk_F hk631589 (rSk_k hs630367 k0_3 (by decide) (by decide)) (by decide) (by decide)).trans x630384
                            have kp631596 : F631588 (γ0 9 19) = F625428 (γ0 9 19) := (rSk_F hk631589 (rSk_k hs630367 k0_19 (by decide) (by decide)) (by decide) (by decide)).trans x630380
                            have ht631597 : rKd gm_F631588 q590254 10 := rSk_k hk631589 ht630387 (by decide) (by decide)
                            have ht631598 : rKd gm_F631588 q590255 9 := rSk_k hk631589 ht630388 (by decide) (by decide)
                            have hf631599 : gm_F631588 1 q590255 = f := rSk_1 hk631589 ht630388 (by decide) hf630389
                            have ht631600 : rKd gm_F631588 q628852 2 := rSk_k hk631589 ht630370 (by decide) (by decide)
                            have hf631601 : gm_F631588 1 q628852 = f := rSk_1 hk631589 ht630370 (by decide) hf630371
                            have ht631602 : rKd gm_F631588 q630443 3 := rSk_k hk631589 ht630447 (by decide) (by decide)
                            have hf631603 : gm_F631588 1 q630443 = f := rSk_1 hk631589 ht630447 (by decide) hf630456
                            have ht631604 : rKd gm_F631588 q630444 1 := rSk_k hk631589 ht630449 (by decide) (by decide)
                            have hf631605 : gm_F631588 1 q630444 = f := rSk_1 hk631589 ht630449 (by decide) hf630457
                            have he631606 : F631588 q630444 = .inr (20, [.int p631331, .int p631332, .int p631333, .int p631334, .int p631335, .int p631336, .int p631337]) := (rSk_F hk631589 ht630449 (by decide) (by decide)).trans he631330
                            have hm631607 : q630444 ∈ P631587 := RS_m hT631593 ht631604 (by decide)
                            clear bp630445 bp630446 r630454 r630455 rg631567 rm631568 bd631569 rc631570
                            have mk631608 : mKp (F590253 q590254) (F631588 q590254) := mKp_tr x630385 x631585
                            have hph631609 : rPh γ0 el0 f ≤ rPh gm_F631588 el_F631588 f := rm_ph hph630368 hr631591
                            have pk631610 : rPh gm_F631588 el_F631588 f ≤ 387 * B + 6000 := rm_pk (rM_ge hT631593 ht631598 hf631599).1 (rM_bd hB631592)
                            change G _ _ _ _ _ _ _ (.int o631576 :: _) _ _ _
                            refine G_widen (cs' := ((rPh gm_F631588 el_F631588 f - rPh γ0 el0 f) / 18)) (sl' := (rPh gm_F631588 el_F631588 f - rPh γ0 el0 f)) (rm_wc hph630368 hr631590) (rm_ws hph630368 hr631591) ?_
                            have sz631611 := x631577
                            have r631612 : 0 < gm_F631588 6 (gm_F631588 1 q590255) := by rw [hf631599]; omega
                            have hm631613 : q590254 ∈ P631587 := RS_m hT631593 ht631597 (by decide)
                            refine rk10_e (show rk_10 gm_F631588 (F631588 q590254) from RS_o hT631593 ht631597) (fun q631615 q631616 p631617 p631618 p631619 p631620 p631621 p631622 p631623 p631624 p631625 p631626 p631627 p631628 p631629 p631630 p631631 he631614 hB631658 ht631632 ht631633 ht631634 ht631635 ht631636 ht631637 ht631638 ht631639 ht631640 ht631641 ht631642 ht631643 ht631644 ht631645 ht631646 ht631647 ht631648 ht631649 ht631650 ht631651 ht631652 ht631653 ht631654 ht631655 hB631659 => ?_)
                            have ac631660 : (fI (F631588 q590254) 11).toInt = p631619.toInt := by rw [he631614]; rfl
                            have bp631619 : gB p631619 0 100 := (hB631658.2.2.1)
                            have ac631661 : (fI (F631588 q590254) 14).toInt = p631622.toInt := by rw [he631614]; rfl
                            have bp631622 : gB p631622 0 2000 := (hB631658.2.2.2.1)
                            refine G_istore (L' := [(8, .int o631576), (7, .int p631334), (6, .int p631333), (5, .ref q630444), (4, .int g630363), (3, .ref q628852), (2, .int g628709), (0, .ref q590254), (1, .ref q590255)]) dr_cX17_spill_203 (Nat.le_of_ble_eq_true rfl) rfl ?_
                            refine G_iload 0 dr_cX17_spill_205 rfl ?_
                            refine G_if_ge 212 dr_cX17_spill_207 (by decide +kernel) (fun hc631662 => ?_) (fun hc631662 => ?_)
                            · have r631663 : 0 ≤ o631576.toInt := gj_leL hc631662 (show Int32.toInt 0 = 0 by decide)
                              have bo631576' : gB o631576 0 1999 := ⟨by omega, by omega⟩
                              have pl631665 := sp_ld (x631583.resolve_left (by omega)) pl631344.1 (tn_ge (by omega)) (rfl : ((g630363.toInt : Int).toNat + 1) = (g630363.toInt : Int).toNat + 1)
                              have hp631666 : rAt gm_F631588 el_F631588 q590255 (g628709.toInt : Int).toNat ((g630363.toInt : Int).toNat + 1) = q630444 := ((x631584.resolve_left (by omega)) (g630363.toInt : Int).toNat (Nat.le_refl _)).trans hp631326
                              have r631667 := x631581.resolve_left (by omega)
                              have x631581p := PLift.up x631581
                              have x631583p := PLift.up x631583
                              have x631584p := PLift.up x631584
                              clear x631581 x631583 x631584
                              obtain ⟨z631668, hz631668⟩ : ∃ z : Int32, z = g630363 + Int32.ofInt 1 := ⟨_, rfl⟩
                              have ez631668 : z631668.toInt = g630363.toInt + 1 := gI_inc hz631668 (by decide) bg630363' (by decide) (by decide)
                              have bz631668 : gB z631668 1 1000001 := ⟨by omega, by omega⟩
                              refine G_iinc (L' := [(4, .int z631668), (8, .int o631576), (7, .int p631334), (6, .int p631333), (5, .ref q630444), (3, .ref q628852), (2, .int g628709), (0, .ref q590254), (1, .ref q590255)]) z631668 4 dr_cX17_spill_212 rfl hz631668.symm (Nat.le_of_ble_eq_true rfl) rfl ?_
                              refine G_aload 4 dr_cX17_spill_215 rfl ?_
                              refine G_iload 1 dr_cX17_spill_217 rfl ?_
                              refine Gp_put 2 hm631607 he631606 dr_cX17_spill_219 (gk_X15 D I) (Nat.le_of_ble_eq_true rfl) wr_9_186 rfl rfl rfl (Nat.le_of_ble_eq_true rfl) (fun F631669 e631670 n631671 => ?_)
                              have r631672 := rk1_at hT631593 ht631604 he631606
                              have he631673 : F631669 q590254 = .inr (22, [.ref (gm_F631588 9 0), .ref (gm_F631588 9 1), .ref (gm_F631588 9 2), .ref (gm_F631588 9 3), .ref (gm_F631588 9 4), .ref (gm_F631588 9 5), .ref (gm_F631588 9 6), .ref (gm_F631588 9 7), .ref (gm_F631588 9 8), .int p631617, .int p631618, .int p631619, .int p631620, .int p631621, .int p631622, .ref (gm_F631588 9 15), .ref (gm_F631588 9 16), .ref (gm_F631588 9 17), .ref (gm_F631588 9 18), .ref (gm_F631588 9 19), .ref (gm_F631588 9 20), .ref (gm_F631588 9 21), .ref (gm_F631588 9 22), .int p631623, .int p631624, .int p631625, .int p631626, .int p631627, .ref q631615, .ref (gm_F631588 9 29), .int p631628, .ref (gm_F631588 9 31), .int p631629, .int p631630, .int p631631, .ref q631616]) := (n631671 q590254 (rn_oo he631614 he631606 (by decide))).trans he631614
                              have he631674 : F631669 q630444 = .inr (20, [.int p631331, .int p631332, .int o631576, .int p631334, .int p631335, .int p631336, .int p631337]) := e631670
                              have mk631675 : mKp (F590253 q590254) (F631669 q590254) := mKp_tr mk631608 (mKp_eq (n631671 q590254 (rn_ty ht631597 ht631604 (by decide))))
                              have kp631676 : F631669 (γ0 9 3) = F590253 (γ0 9 3) := (n631671 (γ0 9 3) (rn_ty (rSk_k hs631594 k0_3 (by decide) (by decide)) ht631604 (by decide))).trans kp631595
                              have kp631677 : F631669 (γ0 9 19) = F625428 (γ0 9 19) := (n631671 (γ0 9 19) (rn_ty (rSk_k hs631594 k0_19 (by decide) (by decide)) ht631604 (by decide))).trans kp631596
                              have fq631678 : F631669 q630444 = cF (F631588 q630444) 2 (.int o631576) := by rw [he631674, he631606]; rfl
                              refine G_iload 2 dr_cX17_spill_222 rfl ?_
                              refine G_iload 3 dr_cX17_spill_224 rfl ?_
                              refine G_icmp_ne 236 dr_cX17_spill_226 (by decide +kernel) (fun hc631679 => ?_) (fun hc631679 => ?_)
                              · have r631680 : p631334.toInt ≠ p631333.toInt := gC_ne hc631679
                                have hT631681 : RS D I P631587 F631669 gm_F631588 el_F631588 := RS_set hT631593 n631671 ht631604 (by decide) ⟨p631331, p631332, o631576, p631334, p631335, p631336, p631337, he631674, bp631331, bp631332, bp631335, bp631336, bp631337, (gHe r631338), (Or.inr bo631576'), (gHe r631340), r631672.1, r631672.2⟩
                                have hs631683 := rSk_put hs631594 hT631681 n631671 ht631604 (by decide) (by decide) (Or.inr (Or.inl hf631605))
                                have hm631685 : q628852 ∈ P631587 := RS_m hT631681 ht631600 (by decide)
                                obtain ⟨q631687, q631688, p631689, p631690, he631686, ht631697, ht631691, ht631692, ht631693, ht631694, ht631695, bp631689, bp631690, r631696, r631698, r631699⟩ := show rk_2 gm_F631588 q628852 (F631669 q628852) from RS_o hT631681 ht631600
                                have hf631700 : gm_F631588 1 q631687 = f := (show gm_F631588 1 q631687 = gm_F631588 1 q628852 from ht631692).trans hf631601
                                have hf631701 : gm_F631588 1 q631688 = f := (show gm_F631588 1 q631688 = gm_F631588 1 q628852 from ht631694).trans hf631601
                                have r631702 : gm_F631588 6 (gm_F631588 1 q628852) = gm_F631588 6 f := by rw [hf631601]
                                have r631703 : gm_F631588 7 (gm_F631588 1 q628852) = gm_F631588 7 f := by rw [hf631601]
                                have r631704 : gm_F631588 19 (gm_F631588 1 q628852) = gm_F631588 19 f := by rw [hf631601]
                                have r631705 := r631696.resolve_left (by omega)
                                clear r631696
                                have r631706 : gm_F631588 2 (gm_F631588 14 q628852) = gm_F631588 2 q631687 := by rw [ht631697.1]
                                have pl631684 := sp_put hT631593 ht631598 hf631599 pl631665 n631671 hp631666 (show (g628709.toInt : Int).toNat < gm_F631588 6 f from tn_lt (by omega) (by omega)) (by unfold rwL; rw [x631580.2.2]; exact tn_le1 (by omega) (by omega))
                                have ac631707 : (fI (F631669 q590254) 11).toInt = p631619.toInt := by rw [he631673]; rfl
                                have ac631708 : (fI (F631669 q590254) 14).toInt = p631622.toInt := by rw [he631673]; rfl
                                refine G_lv (L' := [(0, .ref q590254), (1, .ref q590255), (2, .int g628709), (3, .ref q628852), (4, .int z631668), (5, .ref q630444), (6, .int p631333), (7, .int p631334)]) [7, 8, 6, 5, 0, 4, 3, 2] rfl ?_
                                exact jn236_631045 P631587 F631669 gm_F631588 el_F631588 z631668 q630444 p631333 p631334 (gB_w bz631668 (by decide) (by decide)) (gB_w rb631377 (by decide) (by decide)) (gB_w rb631550 (by decide) (by decide)) hT631681 hs631683 hph631609 hB631592 ht631600 hf631601 x631580.2.1 x631580.2.2 ht631604 hf631605 (by omega) (by omega) (by omega) (by omega) (by omega) (by omega) kp631677 (by rw [(show (z631668.toInt : Int).toNat = ((g630363.toInt : Int).toNat + 1) from tn_eq1 (by omega) (by omega))]; exact pl631684) (by rw [(show (z631668.toInt : Int).toNat = ((g630363.toInt : Int).toNat + 1) from tn_eq1 (by omega) (by omega))]; exact hp631666) (rS1_of he631330 he631674 pl631344.2 (fun _ _ _ _ => Or.inl (by omega)) (fun _ _ _ => Or.inr ⟨rfl, rfl, by omega, Or.inl (by omega)⟩)) (by omega) (by omega) (ms_j hm90_630385 (by omega) (by omega) (by omega)) (eO_c (op := p631331.toInt) (by rw [he631674] <;> rfl) (Or.inr ((gHe r631342).resolve_left (fun z => absurd (ht630451.2.symm.trans z) (by decide))))) kp631676 mk631675 (fun k e1 e2 e3 e4 ht => tl_RModel_spill_90_k18 D I γ0 el0 f P590252 F590253 q590254 F625428 q590255 g628709 q628852 P630364 F630365 gm_F630365 el_F630365 g630363 q630443 p630467 q630444 p631331 p631336 o631352 p631333 p631337 o631384 p631334 f631554 z631555 P631587 F631588 gm_F631588 el_F631588 o631576 z631668 F631669 k e1 e2 e3 e4 bg630363 hT630366 hs630367 x630374 x630375 x630376 x630377 x630379 x630380 x630381 x630382 x630383 x630384 x630385 fq630463 fq630474 fq630475 r630487 fq631317 r631324 fq631325 fq631345 fq631346 bo631352 ht631354 r631375 fq631376 fq631378 bo631384 ht631386 r631548 fq631549 fq631551 he631553 hz631555 bz631555 r631563 hk631589 x631577 x631578 x631579 x631580 x631581p.down x631582 x631583p.down x631584p.down x631585 ht631586 r631663 ez631668 n631671 fq631678 r631680 ht)
                              · have r631709 : p631334.toInt = p631333.toInt := gC_eq hc631679
                                refine G_aload 4 dr_cX17_spill_229 rfl ?_
                                refine G_iload 1 dr_cX17_spill_231 rfl ?_
                                refine Gp_put 3 hm631607 he631674 dr_cX17_spill_233 (gk_X15 D I) (Nat.le_of_ble_eq_true rfl) wr_9_190 rfl rfl rfl (Nat.le_of_ble_eq_true rfl) (fun F631710 e631711 n631712 => ?_)
                                have he631713 : F631710 q590254 = .inr (22, [.ref (gm_F631588 9 0), .ref (gm_F631588 9 1), .ref (gm_F631588 9 2), .ref (gm_F631588 9 3), .ref (gm_F631588 9 4), .ref (gm_F631588 9 5), .ref (gm_F631588 9 6), .ref (gm_F631588 9 7), .ref (gm_F631588 9 8), .int p631617, .int p631618, .int p631619, .int p631620, .int p631621, .int p631622, .ref (gm_F631588 9 15), .ref (gm_F631588 9 16), .ref (gm_F631588 9 17), .ref (gm_F631588 9 18), .ref (gm_F631588 9 19), .ref (gm_F631588 9 20), .ref (gm_F631588 9 21), .ref (gm_F631588 9 22), .int p631623, .int p631624, .int p631625, .int p631626, .int p631627, .ref q631615, .ref (gm_F631588 9 29), .int p631628, .ref (gm_F631588 9 31), .int p631629, .int p631630, .int p631631, .ref q631616]) := (n631712 q590254 (rn_oo he631673 he631674 (by decide))).trans he631673
                                have he631714 : F631710 q630444 = .inr (20, [.int p631331, .int p631332, .int o631576, .int o631576, .int p631335, .int p631336, .int p631337]) := e631711
                                have mk631715 : mKp (F590253 q590254) (F631710 q590254) := mKp_tr mk631675 (mKp_eq (n631712 q590254 (rn_ty ht631597 ht631604 (by decide))))
                                have n631716 : ∀ b, b ≠ q630444 → F631710 b = F631588 b := fun b hb => (n631712 b hb).trans (n631671 b hb)
                                have kp631717 : F631710 (γ0 9 3) = F590253 (γ0 9 3) := (n631712 (γ0 9 3) (rn_ty (rSk_k hs631594 k0_3 (by decide) (by decide)) ht631604 (by decide))).trans kp631676
                                have kp631718 : F631710 (γ0 9 19) = F625428 (γ0 9 19) := (n631712 (γ0 9 19) (rn_ty (rSk_k hs631594 k0_19 (by decide) (by decide)) ht631604 (by decide))).trans kp631677
                                have fq631719 : F631710 q630444 = cF (F631669 q630444) 3 (.int o631576) := by rw [he631714, he631674]; rfl
                                have hT631720 : RS D I P631587 F631710 gm_F631588 el_F631588 := RS_set hT631593 n631716 ht631604 (by decide) ⟨p631331, p631332, o631576, o631576, p631335, p631336, p631337, he631714, bp631331, bp631332, bp631335, bp631336, bp631337, (gHe r631338), (Or.inr bo631576'), (Or.inr bo631576'), r631672.1, r631672.2⟩
                                have hs631722 := rSk_put hs631594 hT631720 n631716 ht631604 (by decide) (by decide) (Or.inr (Or.inl hf631605))
                                have hm631724 : q628852 ∈ P631587 := RS_m hT631720 ht631600 (by decide)
                                obtain ⟨q631726, q631727, p631728, p631729, he631725, ht631736, ht631730, ht631731, ht631732, ht631733, ht631734, bp631728, bp631729, r631735, r631737, r631738⟩ := show rk_2 gm_F631588 q628852 (F631710 q628852) from RS_o hT631720 ht631600
                                have hf631739 : gm_F631588 1 q631726 = f := (show gm_F631588 1 q631726 = gm_F631588 1 q628852 from ht631731).trans hf631601
                                have hf631740 : gm_F631588 1 q631727 = f := (show gm_F631588 1 q631727 = gm_F631588 1 q628852 from ht631733).trans hf631601
                                have r631741 : gm_F631588 6 (gm_F631588 1 q628852) = gm_F631588 6 f := by rw [hf631601]
                                have r631742 : gm_F631588 7 (gm_F631588 1 q628852) = gm_F631588 7 f := by rw [hf631601]
                                have r631743 : gm_F631588 19 (gm_F631588 1 q628852) = gm_F631588 19 f := by rw [hf631601]
                                have r631744 := r631735.resolve_left (by omega)
                                clear r631735
                                have r631745 : gm_F631588 2 (gm_F631588 14 q628852) = gm_F631588 2 q631726 := by rw [ht631736.1]
                                have pl631723 := sp_put hT631593 ht631598 hf631599 pl631665 n631716 hp631666 (show (g628709.toInt : Int).toNat < gm_F631588 6 f from tn_lt (by omega) (by omega)) (by unfold rwL; rw [x631580.2.2]; exact tn_le1 (by omega) (by omega))
                                have ac631746 : (fI (F631710 q590254) 11).toInt = p631619.toInt := by rw [he631713]; rfl
                                have ac631747 : (fI (F631710 q590254) 14).toInt = p631622.toInt := by rw [he631713]; rfl
                                refine G_lv (L' := [(0, .ref q590254), (1, .ref q590255), (2, .int g628709), (3, .ref q628852), (4, .int z631668), (5, .ref q630444), (6, .int p631333), (7, .int p631334)]) [7, 8, 6, 5, 0, 4, 3, 2] rfl ?_
                                exact jn236_631045 P631587 F631710 gm_F631588 el_F631588 z631668 q630444 p631333 p631334 (gB_w bz631668 (by decide) (by decide)) (gB_w rb631377 (by decide) (by decide)) (gB_w rb631550 (by decide) (by decide)) hT631720 hs631722 hph631609 hB631592 ht631600 hf631601 x631580.2.1 x631580.2.2 ht631604 hf631605 (by omega) (by omega) (by omega) (by omega) (by omega) (by omega) kp631718 (by rw [(show (z631668.toInt : Int).toNat = ((g630363.toInt : Int).toNat + 1) from tn_eq1 (by omega) (by omega))]; exact pl631723) (by rw [(show (z631668.toInt : Int).toNat = ((g630363.toInt : Int).toNat + 1) from tn_eq1 (by omega) (by omega))]; exact hp631666) (rS1_of he631330 he631714 pl631344.2 (fun _ _ _ _ => Or.inl (by omega)) (fun _ _ _ => Or.inl (by omega))) (by omega) (by omega) (ms_j hm90_630385 (by omega) (by omega) (by omega)) (eO_c (op := p631331.toInt) (by rw [he631714] <;> rfl) (Or.inr ((gHe r631342).resolve_left (fun z => absurd (ht630451.2.symm.trans z) (by decide))))) kp631717 mk631715 (fun k e1 e2 e3 e4 ht => tl_RModel_spill_90_k19 D I γ0 el0 f P590252 F590253 q590254 F625428 q590255 g628709 q628852 P630364 F630365 gm_F630365 el_F630365 g630363 q630443 p630467 q630444 p631331 p631336 o631352 p631333 p631337 o631384 p631334 f631554 z631555 P631587 F631588 gm_F631588 el_F631588 o631576 z631668 F631669 F631710 k e1 e2 e3 e4 bg630363 hT630366 hs630367 x630374 x630375 x630376 x630377 x630379 x630380 x630381 x630382 x630383 x630384 x630385 fq630463 fq630474 fq630475 r630487 fq631317 r631324 fq631325 fq631345 fq631346 bo631352 ht631354 r631375 fq631376 fq631378 bo631384 ht631386 r631548 fq631549 fq631551 he631553 hz631555 bz631555 r631563 hk631589 x631577 x631578 x631579 x631580 x631581p.down x631582 x631583p.down x631584p.down x631585 ht631586 r631663 ez631668 n631671 fq631678 r631709 n631712 fq631719 ht)
                            · have r631748 : o631576.toInt < 0 := gj_nleL hc631662 (show Int32.toInt 0 = 0 by decide)
                              have bo631576' : gB o631576 (-1) (-1) := ⟨by omega, by omega⟩
                              have hx631749 : tl_RModel_spill_90 D I γ0 el0 f P590252 F590253 q590254 F625428 q590255 g628709 q628852 P628710 F628711 gm_F628711 el_F628711 (0 : Int32) 210 F631588 P631587 gm_F631588 el_F631588 := kt90_630386 210 F631588 P631587 gm_F631588 el_F631588 (tl_RModel_spill_90_k20 D I γ0 el0 f P590252 F590253 q590254 F625428 q590255 g628709 q628852 P630364 F630365 gm_F630365 el_F630365 g630363 q630443 p630467 q630444 p631331 p631336 o631352 p631333 p631337 o631384 f631554 z631555 P631587 F631588 gm_F631588 el_F631588 o631576 bg630363 hT630366 hs630367 x630374 x630375 x630376 x630377 x630379 x630380 x630381 x630382 x630383 x630384 x630385 fq630463 fq630474 fq630475 r630487 fq631317 r631324 fq631325 fq631345 fq631346 bo631352 ht631354 r631375 fq631376 fq631378 bo631384 ht631386 r631548 fq631551 he631553 hz631555 bz631555 r631563 hk631589 x631577 x631578 x631579 x631580 x631581 x631582 x631583 x631584 x631585 ht631586 r631748)
                              have hx631750 : tl_RModel_spill_73 D I γ0 el0 f P590252 F590253 q590254 F625428 q590255 P625427 F625428 gm_hg625517 el_F625428 (0 : Int32) 210 F631588 P631587 gm_F631588 el_F631588 := kt73_628726 210 F631588 P631587 gm_F631588 el_F631588 (fun R c1 c2 c3 c4 c5 => c5 P628710 F628711 gm_F628711 el_F628711 g628709 p628786 q628783 q628852 p628834 F631588 P631587 gm_F631588 el_F631588 bg628709 hT628712 hs628713 x628716 x628717 x628718 x628719 x628721 x628722 x628723 x628724 x628725 fq628808 r628830 fq628857 hx628853 fq628875 ht628881 hx631749)
                              refine G_iconst 0 dr_cX17_spill_210 (by decide +kernel) ?_
                              exact G_zretA FieldType.boolean dr_cX17_spill_211 rfl rfl (rm_zc pk631610) (rm_zs pk631610) ⟨P631587, F631588, gm_F631588, el_F631588, 0, rfl, rfl, hs631594, (rm_pp hph631609), hB631592, (gB_w (gBl (show Int32.toInt 0 = 0 by decide)) (by decide) (by decide)), (by have qa0 : Int32.toInt 0 = 0 := (by decide); omega), (Or.inl (by decide)), kp631595, mk631608, (fun R c1 c2 c3 c4 c5 c6 => c5 gm_0 el_0 F625428 P625427 gm_F625428 el_F625428 p625453 gm_hg625517 F631588 P631587 gm_F631588 el_F631588 hγ0 hel0 hx625511 fq625518 hg625517 hx631750)⟩
                    · have r631751 : g630363.toInt < p630467.toInt := gC_nle hc631323
                      have bg630363'' : gB g630363 0 999999 := ⟨by omega, by omega⟩
                      have bp630467' : gB p630467 1 1000000 := ⟨by omega, by omega⟩
                      refine G_aload_n 1 dr_cX17_spill_114 rfl ?_
                      refine Gp_get 0 hm630441 he630442 dr_cX17_spill_115 (gk_X12 D I) (Nat.le_of_ble_eq_true rfl) wr_9_220 rfl ?_
                      refine G_iload 0 dr_cX17_spill_118 rfl ?_
                      obtain ⟨r631752, r631753, n631760, f631761, r631754, r631755, r631756, r631757, r631758, r631759⟩ := rLC_n r630471 (by omega)
                      have hm631762 : q630468 ∈ P630364 := RS_m hT630366 r631752 (by decide)
                      obtain ⟨q631763, hx631764⟩ : ∃ x, x = el_F630365 q630443 g630363.toInt.toNat := ⟨_, rfl⟩
                      have hx631765 : f631761 g630363.toNatClampNeg = some q631763 := (r631758 _ (show g630363.toInt.toNat < gm_F630365 2 q630443 by first | assumption | omega)).trans (by rw [hx631764])
                      have ht631766 : rKd gm_F630365 q631763 1 := by rw [hx631764]; exact (r630472 _ (show g630363.toInt.toNat < gm_F630365 2 q630443 by first | assumption | omega)).1
                      have ht631767 : rFm gm_F630365 q631763 q630443 := by rw [hx631764]; exact (r630472 _ (show g630363.toInt.toNat < gm_F630365 2 q630443 by first | assumption | omega)).2.1
                      have hf631768 : gm_F630365 1 q631763 = f := (show gm_F630365 1 q631763 = gm_F630365 1 q630443 from ht631767).trans hf630456
                      refine Gw_callV (As := [.int g630363]) (gV_ok D I) (cp_22_ArrayList_get l hl0 D I P630364 F630365 q630443 q630468 g630363 p630466 p630467 f631761 n631760 q631763 hm630464 hm631762 he630465 r631754 (gB_w bg630363'' (by decide) (by decide)) (gB_w bp630467' (by decide) (by decide)) (by omega) (by omega) (by assumption) (by omega)) dr_cX17_spill_120 ⟨wr_10_201, wr_1_18, wr_10_65, by decide, rfl, (Nat.le_of_ble_eq_true rfl), (Nat.le_of_ble_eq_true rfl)⟩ wr_10_63 wr_10_64 hm630464 he630465 rfl (rm_zc pk630390) (rm_zs pk630390) (Nat.le_of_ble_eq_true rfl) (fun r631772 w631773 dc631769 ds631770 hp631771 => ?_) (fun _ _ _ _ _ z => z.elim)
                      obtain ⟨rfl, rfl, hdc, hds, ht631774⟩ := hp631771
                      change G _ _ _ _ _ _ _ (.ref q631763 :: _) _ _ _
                      refine G_widen (cs' := ((rPh gm_F630365 el_F630365 f - rPh γ0 el0 f) / 18)) (sl' := (rPh gm_F630365 el_F630365 f - rPh γ0 el0 f)) (rm_d0 hdc) (rm_d0 hds) ?_
                      have hm631775 : q631763 ∈ P630364 := RS_m hT630366 ht631766 (by decide)
                      obtain ⟨p631777, p631778, p631779, p631780, p631781, p631782, p631783, he631776, bp631777, bp631778, bp631781, bp631782, bp631783, r631784, r631785, r631786, r631787, r631788⟩ := show rk_1 gm_F630365 q631763 (F630365 q631763) from RS_o hT630366 ht631766
                      have bp631779 := gB_any p631779
                      have bp631780 := gB_any p631780
                      replace r631784 : gH _ := r631784
                      replace r631785 : gH _ := r631785
                      replace r631786 : gH _ := r631786
                      replace r631787 : gH _ := r631787
                      replace r631788 : gH _ := r631788
                      have r631789 : gm_F630365 7 (gm_F630365 1 q631763) = gm_F630365 7 f := by rw [hf631768]
                      refine Gp_cast hm631775 he631776 rfl dr_cX17_spill_123 wr_10_202 (gr_cast 1 rfl) ?_
                      refine G_goto 133 dr_cX17_spill_126 (by decide +kernel) ?_
                      have fl631792 : p630467.toInt = gm_F630365 2 q630443 := r630469
                      have hp631790 : rAt gm_F630365 el_F630365 q590255 (g628709.toInt : Int).toNat (g630363.toInt : Int).toNat = q631763 := (rAt_r r630373 ht630453.1 (by omega)).trans (by rw [hx631764])
                      have hL631791 : (g630363.toInt : Int).toNat ≤ gm_F630365 2 (rwL gm_F630365 el_F630365 q590255 (g628709.toInt : Int).toNat) := by unfold rwL; rw [r630373, ht630453.1]; exact tn_le0 (by omega) (by omega)
                      have pl631793 := sp_hd x630381 hp631790 (show (g628709.toInt : Int).toNat < gm_F630365 6 f from tn_lt (by omega) (by omega)) hL631791
                      refine G_astore (L' := [(5, .ref q631763), (4, .int g630363), (3, .ref q628852), (2, .int g628709), (0, .ref q590254), (1, .ref q590255)]) dr_cX17_spill_133 (Nat.le_of_ble_eq_true rfl) rfl ?_
                      refine G_aload 0 dr_cX17_spill_135 rfl ?_
                      have fq631794 : fI (F630365 q631763) 0 = p631777 := by rw [he631776]; rfl
                      have fq631795 : fI (F630365 q631763) 5 = p631782 := by rw [he631776]; rfl
                      refine Gw_callV (As := []) (gV_ok D I) (cp_410220_Row_usesA l hl0 D I P630364 F630365 q631763 p631777 p631778 p631779 p631780 p631781 p631782 p631783 hm631775 he631776 bp631777 bp631778 bp631781 bp631782 bp631783) dr_cX17_spill_137 ⟨wr_10_192, wr_1_39, wr_10_195, by decide, rfl, (Nat.le_of_ble_eq_true rfl), (Nat.le_of_ble_eq_true rfl)⟩ wr_10_193 wr_10_194 hm631775 he631776 rfl (rm_zc pk630390) (rm_zs pk630390) (Nat.le_of_ble_eq_true rfl) (fun r631799 w631800 dc631796 ds631797 hp631798 => ?_) (fun _ _ _ _ _ z => z.elim)
                      obtain ⟨o631801, rfl, rfl, hdc, hds, bo631801, x631802, ht631803⟩ := hp631798
                      change G _ _ _ _ _ _ _ (.int o631801 :: _) _ _ _
                      refine G_widen (cs' := ((rPh gm_F630365 el_F630365 f - rPh γ0 el0 f) / 18)) (sl' := (rPh gm_F630365 el_F630365 f - rPh γ0 el0 f)) (rm_d0 hdc) (rm_d0 hds) ?_
                      refine G_if_eq 151 dr_cX17_spill_140 (by decide +kernel) (fun hc631804 => ?_) (fun hc631804 => ?_)
                      · have r631805 : o631801.toInt = 0 := gj_eq hc631804 (show Int32.toInt 0 = 0 by decide)
                        have bo631801' : gB o631801 0 0 := gB_t0 r631805
                        refine G_iconst (-1) dr_cX17_spill_151 (by decide +kernel) ?_
                        refine G_istore (L' := [(6, .int (-1)), (5, .ref q631763), (4, .int g630363), (3, .ref q628852), (2, .int g628709), (0, .ref q590254), (1, .ref q590255)]) dr_cX17_spill_152 (Nat.le_of_ble_eq_true rfl) rfl ?_
                        refine G_aload 1 dr_cX17_spill_154 rfl ?_
                        have fq631806 : fI (F630365 q631763) 6 = p631783 := by rw [he631776]; rfl
                        refine Gw_callV (As := []) (gV_ok D I) (cp_410244_Row_usesB l hl0 D I P630364 F630365 q631763 p631777 p631778 p631779 p631780 p631781 p631782 p631783 hm631775 he631776 bp631777 bp631778 bp631781 bp631782 bp631783) dr_cX17_spill_156 ⟨wr_10_196, wr_1_39, wr_10_199, by decide, rfl, (Nat.le_of_ble_eq_true rfl), (Nat.le_of_ble_eq_true rfl)⟩ wr_10_197 wr_10_198 hm631775 he631776 rfl (rm_zc pk630390) (rm_zs pk630390) (Nat.le_of_ble_eq_true rfl) (fun r631810 w631811 dc631807 ds631808 hp631809 => ?_) (fun _ _ _ _ _ z => z.elim)
                        obtain ⟨o631812, rfl, rfl, hdc, hds, bo631812, x631813, ht631814⟩ := hp631809
                        change G _ _ _ _ _ _ _ (.int o631812 :: _) _ _ _
                        refine G_widen (cs' := ((rPh gm_F630365 el_F630365 f - rPh γ0 el0 f) / 18)) (sl' := (rPh gm_F630365 el_F630365 f - rPh γ0 el0 f)) (rm_d0 hdc) (rm_d0 hds) ?_
                        refine G_if_eq 170 dr_cX17_spill_159 (by decide +kernel) (fun hc631815 => ?_) (fun hc631815 => ?_)
                        · have r631816 : o631812.toInt = 0 := gj_eq hc631815 (show Int32.toInt 0 = 0 by decide)
                          have bo631812' : gB o631812 0 0 := gB_t0 r631816
                          refine G_iconst (-1) dr_cX17_spill_170 (by decide +kernel) ?_
                          refine G_istore (L' := [(7, .int (-1)), (6, .int (-1)), (5, .ref q631763), (4, .int g630363), (3, .ref q628852), (2, .int g628709), (0, .ref q590254), (1, .ref q590255)]) dr_cX17_spill_171 (Nat.le_of_ble_eq_true rfl) rfl ?_
                          refine G_iload 1 dr_cX17_spill_173 rfl ?_
                          refine G_if_lt 236 dr_cX17_spill_175 (by decide +kernel) (fun _ => ?_) (fun hc => absurd hc (by decide))
                          have ac631817 : (fI (F630365 q590254) 11).toInt = p630398.toInt := by rw [he630393]; rfl
                          have ac631818 : (fI (F630365 q590254) 14).toInt = p630401.toInt := by rw [he630393]; rfl
                          refine G_lv (L' := [(0, .ref q590254), (1, .ref q590255), (2, .int g628709), (3, .ref q628852), (4, .int g630363), (5, .ref q631763), (6, .int (-1)), (7, .int (-1))]) [6, 7, 5, 4, 3, 2, 1, 0] rfl ?_
                          exact jn236_631045 P630364 F630365 gm_F630365 el_F630365 g630363 q631763 (-1) (-1) (gB_w bg630363'' (by decide) (by decide)) (gB_w (gBl (show Int32.toInt (-1) = (-1) by decide)) (by decide) (by decide)) (gB_w (gBl (show Int32.toInt (-1) = (-1) by decide)) (by decide) (by decide)) hT630366 hs630367 hph630368 hB630369 ht630370 hf630371 r630372 r630373 ht631766 hf631768 (by have qa0 : Int32.toInt (-1) = (-1) := (by decide); omega) (by have qa0 : Int32.toInt (-1) = (-1) := (by decide); omega) (by have qa0 : Int32.toInt (-1) = (-1) := (by decide); omega) (by have qa0 : Int32.toInt (-1) = (-1) := (by decide); omega) (by have qa0 : Int32.toInt (-1) = (-1) := (by decide); omega) (by have qa0 : Int32.toInt (-1) = (-1) := (by decide); omega) x630380 (by exact pl631793.1) (by exact hp631790) (rS1_of he631776 he631776 pl631793.2 (fun h1 h2 h3 h4 => (uA_0 x631802 (by omega) h1 h2 h3 h4).elim) (fun h1 h2 h3 => (uB_0 x631813 (by omega) h1 h2 h3).elim)) (by have qa0 : Int32.toInt (-1) = (-1) := (by decide); omega) (by have qa0 : Int32.toInt (-1) = (-1) := (by decide); omega) (ms_j hm90_630385 (by omega) (by omega) (by omega)) (eO_l (by omega)) x630384 x630385 (fun k e1 e2 e3 e4 ht => tl_RModel_spill_90_k21 D I γ0 el0 f P590252 F590253 q590254 F625428 q590255 g628709 q628852 P630364 F630365 gm_F630365 el_F630365 g630363 q630443 p630467 q631763 p631777 p631782 o631801 p631783 o631812 k e1 e2 e3 e4 bg630363 hT630366 hs630367 x630374 x630375 x630376 x630377 x630379 x630380 x630381 x630382 x630383 x630384 x630385 fq630463 fq630474 fq630475 r630487 fq631317 r631751 hx631764 ht631774 fq631794 fq631795 bo631801 ht631803 r631805 fq631806 bo631812 ht631814 r631816 ht)
                        · have r631819 : o631812.toInt ≠ 0 := gj_neq hc631815 (show Int32.toInt 0 = 0 by decide)
                          have bo631812' : gB o631812 1 1 := gB_t1 bo631812 r631819
                          refine G_aload 1 dr_cX17_spill_162 rfl ?_
                          have fq631820 : fI (F630365 q631763) 3 = p631780 := by rw [he631776]; rfl
                          refine Gp_get 3 hm631775 he631776 dr_cX17_spill_164 (gk_X15 D I) (Nat.le_of_ble_eq_true rfl) wr_9_190 rfl ?_
                          have rb631821 : gB p631780 0 1999 := (gHe r631786).resolve_left (by have z := (uB_1 x631813 (by omega)).2.2; omega)
                          refine G_goto 171 dr_cX17_spill_167 (by decide +kernel) ?_
                          refine G_istore (L' := [(7, .int p631780), (6, .int (-1)), (5, .ref q631763), (4, .int g630363), (3, .ref q628852), (2, .int g628709), (0, .ref q590254), (1, .ref q590255)]) dr_cX17_spill_171 (Nat.le_of_ble_eq_true rfl) rfl ?_
                          refine G_iload 1 dr_cX17_spill_173 rfl ?_
                          refine G_if_lt 236 dr_cX17_spill_175 (by decide +kernel) (fun _ => ?_) (fun hc => absurd hc (by decide))
                          have ac631822 : (fI (F630365 q590254) 11).toInt = p630398.toInt := by rw [he630393]; rfl
                          have ac631823 : (fI (F630365 q590254) 14).toInt = p630401.toInt := by rw [he630393]; rfl
                          refine G_lv (L' := [(0, .ref q590254), (1, .ref q590255), (2, .int g628709), (3, .ref q628852), (4, .int g630363), (5, .ref q631763), (6, .int (-1)), (7, .int p631780)]) [6, 7, 5, 4, 3, 2, 1, 0] rfl ?_
                          exact jn236_631045 P630364 F630365 gm_F630365 el_F630365 g630363 q631763 (-1) p631780 (gB_w bg630363'' (by decide) (by decide)) (gB_w (gBl (show Int32.toInt (-1) = (-1) by decide)) (by decide) (by decide)) (gB_w rb631821 (by decide) (by decide)) hT630366 hs630367 hph630368 hB630369 ht630370 hf630371 r630372 r630373 ht631766 hf631768 (by have qa0 : Int32.toInt (-1) = (-1) := (by decide); omega) (by have qa0 : Int32.toInt (-1) = (-1) := (by decide); omega) (by have qa0 : Int32.toInt (-1) = (-1) := (by decide); omega) (by have qa0 : Int32.toInt (-1) = (-1) := (by decide); omega) (by have qa0 : Int32.toInt (-1) = (-1) := (by decide); omega) (by have qa0 : Int32.toInt (-1) = (-1) := (by decide); omega) x630380 (by exact pl631793.1) (by exact hp631790) (rS1_of he631776 he631776 pl631793.2 (fun h1 h2 h3 h4 => (uA_0 x631802 (by omega) h1 h2 h3 h4).elim) (fun _ _ _ => Or.inr ⟨rfl, rfl, by omega, Or.inl (by have qa : Int32.toInt (-1) = -1 := (by decide); omega)⟩)) (by have qa0 : Int32.toInt (-1) = (-1) := (by decide); omega) (by have qa0 : Int32.toInt (-1) = (-1) := (by decide); omega) (ms_j hm90_630385 (by omega) (by omega) (by omega)) (eO_l (by omega)) x630384 x630385 (fun k e1 e2 e3 e4 ht => tl_RModel_spill_90_k22 D I γ0 el0 f P590252 F590253 q590254 F625428 q590255 g628709 q628852 P630364 F630365 gm_F630365 el_F630365 g630363 q630443 p630467 q631763 p631777 p631782 o631801 p631783 o631812 p631780 k e1 e2 e3 e4 bg630363 hT630366 hs630367 x630374 x630375 x630376 x630377 x630379 x630380 x630381 x630382 x630383 x630384 x630385 fq630463 fq630474 fq630475 r630487 fq631317 r631751 hx631764 ht631774 fq631794 fq631795 bo631801 ht631803 r631805 fq631806 bo631812 ht631814 r631819 fq631820 ht)
                      · have r631824 : o631801.toInt ≠ 0 := gj_neq hc631804 (show Int32.toInt 0 = 0 by decide)
                        have bo631801' : gB o631801 1 1 := gB_t1 bo631801 r631824
                        refine G_aload 0 dr_cX17_spill_143 rfl ?_
                        have fq631825 : fI (F630365 q631763) 2 = p631779 := by rw [he631776]; rfl
                        refine Gp_get 2 hm631775 he631776 dr_cX17_spill_145 (gk_X15 D I) (Nat.le_of_ble_eq_true rfl) wr_9_186 rfl ?_
                        have rb631826 : gB p631779 0 1999 := (gHe r631785).resolve_left (by have z := (uA_1 x631802 (by omega)).2.2.2; omega)
                        refine G_goto 152 dr_cX17_spill_148 (by decide +kernel) ?_
                        refine G_istore (L' := [(6, .int p631779), (5, .ref q631763), (4, .int g630363), (3, .ref q628852), (2, .int g628709), (0, .ref q590254), (1, .ref q590255)]) dr_cX17_spill_152 (Nat.le_of_ble_eq_true rfl) rfl ?_
                        refine G_aload 1 dr_cX17_spill_154 rfl ?_
                        have fq631827 : fI (F630365 q631763) 6 = p631783 := by rw [he631776]; rfl
                        refine Gw_callV (As := []) (gV_ok D I) (cp_410244_Row_usesB l hl0 D I P630364 F630365 q631763 p631777 p631778 p631779 p631780 p631781 p631782 p631783 hm631775 he631776 bp631777 bp631778 bp631781 bp631782 bp631783) dr_cX17_spill_156 ⟨wr_10_196, wr_1_39, wr_10_199, by decide, rfl, (Nat.le_of_ble_eq_true rfl), (Nat.le_of_ble_eq_true rfl)⟩ wr_10_197 wr_10_198 hm631775 he631776 rfl (rm_zc pk630390) (rm_zs pk630390) (Nat.le_of_ble_eq_true rfl) (fun r631831 w631832 dc631828 ds631829 hp631830 => ?_) (fun _ _ _ _ _ z => z.elim)
                        obtain ⟨o631833, rfl, rfl, hdc, hds, bo631833, x631834, ht631835⟩ := hp631830
                        change G _ _ _ _ _ _ _ (.int o631833 :: _) _ _ _
                        refine G_widen (cs' := ((rPh gm_F630365 el_F630365 f - rPh γ0 el0 f) / 18)) (sl' := (rPh gm_F630365 el_F630365 f - rPh γ0 el0 f)) (rm_d0 hdc) (rm_d0 hds) ?_
                        refine G_if_eq 170 dr_cX17_spill_159 (by decide +kernel) (fun hc631836 => ?_) (fun hc631836 => ?_)
                        · have r631837 : o631833.toInt = 0 := gj_eq hc631836 (show Int32.toInt 0 = 0 by decide)
                          have bo631833' : gB o631833 0 0 := gB_t0 r631837
                          refine G_iconst (-1) dr_cX17_spill_170 (by decide +kernel) ?_
                          refine G_istore (L' := [(7, .int (-1)), (6, .int p631779), (5, .ref q631763), (4, .int g630363), (3, .ref q628852), (2, .int g628709), (0, .ref q590254), (1, .ref q590255)]) dr_cX17_spill_171 (Nat.le_of_ble_eq_true rfl) rfl ?_
                          refine G_iload 1 dr_cX17_spill_173 rfl ?_
                          refine G_if_lt 236 dr_cX17_spill_175 (by decide +kernel) (fun hc => absurd (show False by have := gj_lt hc (show Int32.toInt 0 = 0 by decide); omega) not_false) (fun _ => ?_)
                          refine G_aload_n 6 dr_cX17_spill_178 rfl ?_
                          have fq631838 : fR (F630365 q590254) 19 = (gm_F630365 9 19) := by rw [he630393]; rfl
                          refine Gp_get 19 hm630392 he630393 dr_cX17_spill_179 (gk_X17 D I) (Nat.le_of_ble_eq_true rfl) wr_7_93 rfl ?_
                          refine G_iload 1 dr_cX17_spill_182 rfl ?_
                          have hm631839 : (gm_F630365 9 19) ∈ P630364 := RS_m hT630366 ht630426 (by decide)
                          obtain ⟨f631841, he631840, bf631841⟩ := show rk_21 I (F630365 (gm_F630365 9 19)) from RS_o hT630366 ht630426
                          refine Gp_iald 0 hm631839 he631840 dr_cX17_spill_184 rfl (gB_in rb631826 (by decide) (by decide)) (G_nam fun z631842 hz631842 => ?_)
                          have bz631842 : gB z631842 (-1) 1999 := by rw [hz631842]; exact bf631841 _
                          have c9_631843 : cB (F625428 (γ0 9 19)) = f631841 := by rw [← x630380, ← congrFun (rSk_9 hs630367) 19]; exact cB_of he631840
                          have hs631844 : (cB (F625428 (γ0 9 19)) p631779.toInt.toNat).toInt = z631842.toInt := by rw [c9_631843, hz631842]; rfl
                          refine G_if_lt 236 dr_cX17_spill_185 (by decide +kernel) (fun hc631846 => ?_) (fun hc631846 => ?_)
                          · have r631847 : z631842.toInt < 0 := gj_lt hc631846 (show Int32.toInt 0 = 0 by decide)
                            have bz631842' : gB z631842 (-1) (-1) := ⟨by omega, by omega⟩
                            have ac631848 : (fI (F630365 q590254) 11).toInt = p630398.toInt := by rw [he630393]; rfl
                            have ac631849 : (fI (F630365 q590254) 14).toInt = p630401.toInt := by rw [he630393]; rfl
                            refine G_lv (L' := [(0, .ref q590254), (1, .ref q590255), (2, .int g628709), (3, .ref q628852), (4, .int g630363), (5, .ref q631763), (6, .int p631779), (7, .int (-1))]) [6, 7, 5, 4, 3, 2, 1, 0] rfl ?_
                            exact jn236_631045 P630364 F630365 gm_F630365 el_F630365 g630363 q631763 p631779 (-1) (gB_w bg630363'' (by decide) (by decide)) (gB_w rb631826 (by decide) (by decide)) (gB_w (gBl (show Int32.toInt (-1) = (-1) by decide)) (by decide) (by decide)) hT630366 hs630367 hph630368 hB630369 ht630370 hf630371 r630372 r630373 ht631766 hf631768 (by have qa0 : Int32.toInt (-1) = (-1) := (by decide); omega) (by have qa0 : Int32.toInt (-1) = (-1) := (by decide); omega) (by have qa0 : Int32.toInt (-1) = (-1) := (by decide); omega) (by have qa0 : Int32.toInt (-1) = (-1) := (by decide); omega) (by have qa0 : Int32.toInt (-1) = (-1) := (by decide); omega) (by have qa0 : Int32.toInt (-1) = (-1) := (by decide); omega) x630380 (by exact pl631793.1) (by exact hp631790) (rS1_of he631776 he631776 pl631793.2 (fun _ _ _ _ => Or.inr ⟨rfl, by omega⟩) (fun h1 h2 h3 => (uB_0 x631834 (by omega) h1 h2 h3).elim)) (by have qa0 : Int32.toInt (-1) = (-1) := (by decide); omega) (by have qa0 : Int32.toInt (-1) = (-1) := (by decide); omega) (ms_j hm90_630385 (by omega) (by omega) (by omega)) (eO_l (by omega)) x630384 x630385 (fun k e1 e2 e3 e4 ht => tl_RModel_spill_90_k23 D I γ0 el0 f P590252 F590253 q590254 F625428 q590255 g628709 q628852 P630364 F630365 gm_F630365 el_F630365 g630363 q630443 p630467 q631763 p631777 p631782 o631801 p631779 p631783 o631833 f631841 z631842 k e1 e2 e3 e4 bg630363 hT630366 hs630367 x630374 x630375 x630376 x630377 x630379 x630380 x630381 x630382 x630383 x630384 x630385 fq630463 fq630474 fq630475 r630487 fq631317 r631751 hx631764 ht631774 fq631794 fq631795 bo631801 ht631803 r631824 fq631825 fq631827 bo631833 ht631835 r631837 fq631838 he631840 hz631842 bz631842 r631847 ht)
                          · have r631850 : 0 ≤ z631842.toInt := gj_nlt hc631846 (show Int32.toInt 0 = 0 by decide)
                            have bz631842' : gB z631842 0 1999 := ⟨by omega, by omega⟩
                            refine G_aload_n 6 dr_cX17_spill_188 rfl ?_
                            refine G_aload_n 7 dr_cX17_spill_189 rfl ?_
                            refine G_aload_n 4 dr_cX17_spill_190 rfl ?_
                            refine G_iload 3 dr_cX17_spill_191 rfl ?_
                            refine G_aload_n 6 dr_cX17_spill_193 rfl ?_
                            refine Gp_get 19 hm630392 he630393 dr_cX17_spill_194 (gk_X17 D I) (Nat.le_of_ble_eq_true rfl) wr_7_93 rfl ?_
                            refine G_iload 1 dr_cX17_spill_197 rfl ?_
                            refine Gp_iald 0 hm631839 he631840 dr_cX17_spill_199 rfl (gB_in rb631826 (by decide) (by decide)) (G_eqi (y := z631842) hz631842.symm ?_)
                            have r631851 := (spi625514.2.2.2 p631779.toInt.toNat (tn_lt (by omega) (by omega)) (by omega)).2.2
                            have ac631852 : (fI (F630365 q590254) 11).toInt = p630398.toInt := by rw [he630393]; rfl
                            have ac631853 : (fI (F630365 q590254) 14).toInt = p630401.toInt := by rw [he630393]; rfl
                            have rg631854 := rM_ge hT630366 ht630388 hf630389
                            have rm631855 := rM_bd hB630369
                            have bd631856 := rBd_c hT630366 ht630388 hf630389 hB630369
                            have rc631857 := rc_at hT630366 ht630388 hf630389
                            refine Gw_callV (As := [.ref q590255, .ref q628852, .int g630363, .int z631842]) (gV_ok D I) (cg_409847_SpillForgeModel_load l hl0 D I gm_F630365 el_F630365 f B P630364 F630365 q590254 q590255 q628852 g630363 z631842 g628709.toInt.toNat hT630366 ht630387 ht630388 ht630370 hf630389 hB630369 hBk r630372 r630373 hf630371 (gB_w bg630363'' (by decide) (by decide)) bz631842' (by have qa0 : Int32.toInt (-1) = (-1) := (by decide); omega) (by have qa0 : Int32.toInt (-1) = (-1) := (by decide); omega) (by have qa0 : Int32.toInt (-1) = (-1) := (by decide); omega) (by have qa0 : Int32.toInt (-1) = (-1) := (by decide); omega) (by have qa0 : Int32.toInt (-1) = (-1) := (by decide); omega)) dr_cX17_spill_200 ⟨wr_11_67, wr_1_14, wr_11_70, by decide, rfl, (Nat.le_of_ble_eq_true rfl), (Nat.le_of_ble_eq_true rfl)⟩ wr_11_69 wr_p_111 hm630392 he630393 rfl (rm_gc hph630368 pk630390) (rm_gs hph630368 pk630390) (Nat.le_of_ble_eq_true rfl) (fun r631861 w631862 dc631858 ds631859 hp631860 => ?_) (fun _ _ _ _ _ z => z.elim)
                            obtain ⟨P631874, F631875, gm_F631875, el_F631875, o631863, rfl, rfl, hk631876, ⟨hr631877, hr631878⟩, hB631879, bo631863, x631864, x631865, x631866, x631867, x631868, x631869, x631870, x631871, x631872, ht631873⟩ := hp631860
                            have hT631880 := hk631876.1
                            have hs631881 := rSk_tr hs630367 hk631876 (by decide) (by decide) (by decide)
                            have kp631882 : F631875 (γ0 9 3) = F590253 (γ0 9 3) := (rSk_F hk631876 (rSk_k hs630367 k0_3 (by decide) (by decide)) (by decide) (by decide)).trans x630384
                            have kp631883 : F631875 (γ0 9 19) = F625428 (γ0 9 19) := (rSk_F hk631876 (rSk_k hs630367 k0_19 (by decide) (by decide)) (by decide) (by decide)).trans x630380
                            have ht631884 : rKd gm_F631875 q590254 10 := rSk_k hk631876 ht630387 (by decide) (by decide)
                            have ht631885 : rKd gm_F631875 q590255 9 := rSk_k hk631876 ht630388 (by decide) (by decide)
                            have hf631886 : gm_F631875 1 q590255 = f := rSk_1 hk631876 ht630388 (by decide) hf630389
                            have ht631887 : rKd gm_F631875 q628852 2 := rSk_k hk631876 ht630370 (by decide) (by decide)
                            have hf631888 : gm_F631875 1 q628852 = f := rSk_1 hk631876 ht630370 (by decide) hf630371
                            have ht631889 : rKd gm_F631875 q630443 3 := rSk_k hk631876 ht630447 (by decide) (by decide)
                            have hf631890 : gm_F631875 1 q630443 = f := rSk_1 hk631876 ht630447 (by decide) hf630456
                            have ht631891 : rKd gm_F631875 q631763 1 := rSk_k hk631876 ht631766 (by decide) (by decide)
                            have hf631892 : gm_F631875 1 q631763 = f := rSk_1 hk631876 ht631766 (by decide) hf631768
                            have he631893 : F631875 q631763 = .inr (20, [.int p631777, .int p631778, .int p631779, .int p631780, .int p631781, .int p631782, .int p631783]) := (rSk_F hk631876 ht631766 (by decide) (by decide)).trans he631776
                            have hm631894 : q631763 ∈ P631874 := RS_m hT631880 ht631891 (by decide)
                            clear bp630445 bp630446 r630454 r630455 rg631854 rm631855 bd631856 rc631857
                            have mk631895 : mKp (F590253 q590254) (F631875 q590254) := mKp_tr x630385 x631872
                            have hph631896 : rPh γ0 el0 f ≤ rPh gm_F631875 el_F631875 f := rm_ph hph630368 hr631878
                            have pk631897 : rPh gm_F631875 el_F631875 f ≤ 387 * B + 6000 := rm_pk (rM_ge hT631880 ht631885 hf631886).1 (rM_bd hB631879)
                            change G _ _ _ _ _ _ _ (.int o631863 :: _) _ _ _
                            refine G_widen (cs' := ((rPh gm_F631875 el_F631875 f - rPh γ0 el0 f) / 18)) (sl' := (rPh gm_F631875 el_F631875 f - rPh γ0 el0 f)) (rm_wc hph630368 hr631877) (rm_ws hph630368 hr631878) ?_
                            have sz631898 := x631864
                            have r631899 : 0 < gm_F631875 6 (gm_F631875 1 q590255) := by rw [hf631886]; omega
                            have hm631900 : q590254 ∈ P631874 := RS_m hT631880 ht631884 (by decide)
                            refine rk10_e (show rk_10 gm_F631875 (F631875 q590254) from RS_o hT631880 ht631884) (fun q631902 q631903 p631904 p631905 p631906 p631907 p631908 p631909 p631910 p631911 p631912 p631913 p631914 p631915 p631916 p631917 p631918 he631901 hB631945 ht631919 ht631920 ht631921 ht631922 ht631923 ht631924 ht631925 ht631926 ht631927 ht631928 ht631929 ht631930 ht631931 ht631932 ht631933 ht631934 ht631935 ht631936 ht631937 ht631938 ht631939 ht631940 ht631941 ht631942 hB631946 => ?_)
                            have ac631947 : (fI (F631875 q590254) 11).toInt = p631906.toInt := by rw [he631901]; rfl
                            have bp631906 : gB p631906 0 100 := (hB631945.2.2.1)
                            have ac631948 : (fI (F631875 q590254) 14).toInt = p631909.toInt := by rw [he631901]; rfl
                            have bp631909 : gB p631909 0 2000 := (hB631945.2.2.2.1)
                            refine G_istore (L' := [(8, .int o631863), (7, .int (-1)), (6, .int p631779), (5, .ref q631763), (4, .int g630363), (3, .ref q628852), (2, .int g628709), (0, .ref q590254), (1, .ref q590255)]) dr_cX17_spill_203 (Nat.le_of_ble_eq_true rfl) rfl ?_
                            refine G_iload 0 dr_cX17_spill_205 rfl ?_
                            refine G_if_ge 212 dr_cX17_spill_207 (by decide +kernel) (fun hc631949 => ?_) (fun hc631949 => ?_)
                            · have r631950 : 0 ≤ o631863.toInt := gj_leL hc631949 (show Int32.toInt 0 = 0 by decide)
                              have bo631863' : gB o631863 0 1999 := ⟨by omega, by omega⟩
                              have pl631952 := sp_ld (x631870.resolve_left (by omega)) pl631793.1 (tn_ge (by omega)) (rfl : ((g630363.toInt : Int).toNat + 1) = (g630363.toInt : Int).toNat + 1)
                              have hp631953 : rAt gm_F631875 el_F631875 q590255 (g628709.toInt : Int).toNat ((g630363.toInt : Int).toNat + 1) = q631763 := ((x631871.resolve_left (by omega)) (g630363.toInt : Int).toNat (Nat.le_refl _)).trans hp631790
                              have r631954 := x631868.resolve_left (by omega)
                              have x631868p := PLift.up x631868
                              have x631870p := PLift.up x631870
                              have x631871p := PLift.up x631871
                              clear x631868 x631870 x631871
                              obtain ⟨z631955, hz631955⟩ : ∃ z : Int32, z = g630363 + Int32.ofInt 1 := ⟨_, rfl⟩
                              have ez631955 : z631955.toInt = g630363.toInt + 1 := gI_inc hz631955 (by decide) bg630363'' (by decide) (by decide)
                              have bz631955 : gB z631955 1 1000000 := ⟨by omega, by omega⟩
                              refine G_iinc (L' := [(4, .int z631955), (8, .int o631863), (7, .int (-1)), (6, .int p631779), (5, .ref q631763), (3, .ref q628852), (2, .int g628709), (0, .ref q590254), (1, .ref q590255)]) z631955 4 dr_cX17_spill_212 rfl hz631955.symm (Nat.le_of_ble_eq_true rfl) rfl ?_
                              refine G_aload 4 dr_cX17_spill_215 rfl ?_
                              refine G_iload 1 dr_cX17_spill_217 rfl ?_
                              refine Gp_put 2 hm631894 he631893 dr_cX17_spill_219 (gk_X15 D I) (Nat.le_of_ble_eq_true rfl) wr_9_186 rfl rfl rfl (Nat.le_of_ble_eq_true rfl) (fun F631956 e631957 n631958 => ?_)
                              have r631959 := rk1_at hT631880 ht631891 he631893
                              have he631960 : F631956 q590254 = .inr (22, [.ref (gm_F631875 9 0), .ref (gm_F631875 9 1), .ref (gm_F631875 9 2), .ref (gm_F631875 9 3), .ref (gm_F631875 9 4), .ref (gm_F631875 9 5), .ref (gm_F631875 9 6), .ref (gm_F631875 9 7), .ref (gm_F631875 9 8), .int p631904, .int p631905, .int p631906, .int p631907, .int p631908, .int p631909, .ref (gm_F631875 9 15), .ref (gm_F631875 9 16), .ref (gm_F631875 9 17), .ref (gm_F631875 9 18), .ref (gm_F631875 9 19), .ref (gm_F631875 9 20), .ref (gm_F631875 9 21), .ref (gm_F631875 9 22), .int p631910, .int p631911, .int p631912, .int p631913, .int p631914, .ref q631902, .ref (gm_F631875 9 29), .int p631915, .ref (gm_F631875 9 31), .int p631916, .int p631917, .int p631918, .ref q631903]) := (n631958 q590254 (rn_oo he631901 he631893 (by decide))).trans he631901
                              have he631961 : F631956 q631763 = .inr (20, [.int p631777, .int p631778, .int o631863, .int p631780, .int p631781, .int p631782, .int p631783]) := e631957
                              have mk631962 : mKp (F590253 q590254) (F631956 q590254) := mKp_tr mk631895 (mKp_eq (n631958 q590254 (rn_ty ht631884 ht631891 (by decide))))
                              have kp631963 : F631956 (γ0 9 3) = F590253 (γ0 9 3) := (n631958 (γ0 9 3) (rn_ty (rSk_k hs631881 k0_3 (by decide) (by decide)) ht631891 (by decide))).trans kp631882
                              have kp631964 : F631956 (γ0 9 19) = F625428 (γ0 9 19) := (n631958 (γ0 9 19) (rn_ty (rSk_k hs631881 k0_19 (by decide) (by decide)) ht631891 (by decide))).trans kp631883
                              have fq631965 : F631956 q631763 = cF (F631875 q631763) 2 (.int o631863) := by rw [he631961, he631893]; rfl
                              refine G_iload 2 dr_cX17_spill_222 rfl ?_
                              refine G_iload 3 dr_cX17_spill_224 rfl ?_
                              refine G_icmp_ne 236 dr_cX17_spill_226 (by decide +kernel) (fun _ => ?_) (fun hc => absurd (show False by have := gj_eqL hc (show Int32.toInt (-1) = (-1) by decide); omega) not_false)
                              have hT631966 : RS D I P631874 F631956 gm_F631875 el_F631875 := RS_set hT631880 n631958 ht631891 (by decide) ⟨p631777, p631778, o631863, p631780, p631781, p631782, p631783, he631961, bp631777, bp631778, bp631781, bp631782, bp631783, (gHe r631784), (Or.inr bo631863'), (gHe r631786), r631959.1, r631959.2⟩
                              have hs631968 := rSk_put hs631881 hT631966 n631958 ht631891 (by decide) (by decide) (Or.inr (Or.inl hf631892))
                              have hm631970 : q628852 ∈ P631874 := RS_m hT631966 ht631887 (by decide)
                              obtain ⟨q631972, q631973, p631974, p631975, he631971, ht631982, ht631976, ht631977, ht631978, ht631979, ht631980, bp631974, bp631975, r631981, r631983, r631984⟩ := show rk_2 gm_F631875 q628852 (F631956 q628852) from RS_o hT631966 ht631887
                              have hf631985 : gm_F631875 1 q631972 = f := (show gm_F631875 1 q631972 = gm_F631875 1 q628852 from ht631977).trans hf631888
                              have hf631986 : gm_F631875 1 q631973 = f := (show gm_F631875 1 q631973 = gm_F631875 1 q628852 from ht631979).trans hf631888
                              have r631987 : gm_F631875 6 (gm_F631875 1 q628852) = gm_F631875 6 f := by rw [hf631888]
                              have r631988 : gm_F631875 7 (gm_F631875 1 q628852) = gm_F631875 7 f := by rw [hf631888]
                              have r631989 : gm_F631875 19 (gm_F631875 1 q628852) = gm_F631875 19 f := by rw [hf631888]
                              have r631990 := r631981.resolve_left (by omega)
                              clear r631981
                              have r631991 : gm_F631875 2 (gm_F631875 14 q628852) = gm_F631875 2 q631972 := by rw [ht631982.1]
                              have pl631969 := sp_put hT631880 ht631885 hf631886 pl631952 n631958 hp631953 (show (g628709.toInt : Int).toNat < gm_F631875 6 f from tn_lt (by omega) (by omega)) (by unfold rwL; rw [x631867.2.2]; exact tn_le1 (by omega) (by omega))
                              have ac631992 : (fI (F631956 q590254) 11).toInt = p631906.toInt := by rw [he631960]; rfl
                              have ac631993 : (fI (F631956 q590254) 14).toInt = p631909.toInt := by rw [he631960]; rfl
                              refine G_lv (L' := [(0, .ref q590254), (1, .ref q590255), (2, .int g628709), (3, .ref q628852), (4, .int z631955), (5, .ref q631763), (6, .int p631779), (7, .int (-1))]) [7, 8, 6, 5, 0, 4, 3, 2] rfl ?_
                              exact jn236_631045 P631874 F631956 gm_F631875 el_F631875 z631955 q631763 p631779 (-1) (gB_w bz631955 (by decide) (by decide)) (gB_w rb631826 (by decide) (by decide)) (gB_w (gBl (show Int32.toInt (-1) = (-1) by decide)) (by decide) (by decide)) hT631966 hs631968 hph631896 hB631879 ht631887 hf631888 x631867.2.1 x631867.2.2 ht631891 hf631892 (by have qa0 : Int32.toInt (-1) = (-1) := (by decide); omega) (by have qa0 : Int32.toInt (-1) = (-1) := (by decide); omega) (by have qa0 : Int32.toInt (-1) = (-1) := (by decide); omega) (by have qa0 : Int32.toInt (-1) = (-1) := (by decide); omega) (by have qa0 : Int32.toInt (-1) = (-1) := (by decide); omega) (by have qa0 : Int32.toInt (-1) = (-1) := (by decide); omega) kp631964 (by rw [(show (z631955.toInt : Int).toNat = ((g630363.toInt : Int).toNat + 1) from tn_eq1 (by omega) (by omega))]; exact pl631969) (by rw [(show (z631955.toInt : Int).toNat = ((g630363.toInt : Int).toNat + 1) from tn_eq1 (by omega) (by omega))]; exact hp631953) (rS1_of he631776 he631961 pl631793.2 (fun _ _ _ _ => Or.inl (by omega)) (fun h1 h2 h3 => (uB_0 x631834 (by omega) h1 h2 h3).elim)) (by have qa0 : Int32.toInt (-1) = (-1) := (by decide); omega) (by have qa0 : Int32.toInt (-1) = (-1) := (by decide); omega) (ms_j hm90_630385 (by omega) (by omega) (by omega)) (eO_l (by omega)) kp631963 mk631962 (fun k e1 e2 e3 e4 ht => tl_RModel_spill_90_k24 D I γ0 el0 f P590252 F590253 q590254 F625428 q590255 g628709 q628852 P630364 F630365 gm_F630365 el_F630365 g630363 q630443 p630467 q631763 p631777 p631782 o631801 p631779 p631783 o631833 f631841 z631842 P631874 F631875 gm_F631875 el_F631875 o631863 z631955 F631956 k e1 e2 e3 e4 bg630363 hT630366 hs630367 x630374 x630375 x630376 x630377 x630379 x630380 x630381 x630382 x630383 x630384 x630385 fq630463 fq630474 fq630475 r630487 fq631317 r631751 hx631764 ht631774 fq631794 fq631795 bo631801 ht631803 r631824 fq631825 fq631827 bo631833 ht631835 r631837 fq631838 he631840 hz631842 bz631842 r631850 hk631876 x631864 x631865 x631866 x631867 x631868p.down x631869 x631870p.down x631871p.down x631872 ht631873 r631950 ez631955 n631958 fq631965 ht)
                            · have r631994 : o631863.toInt < 0 := gj_nleL hc631949 (show Int32.toInt 0 = 0 by decide)
                              have bo631863' : gB o631863 (-1) (-1) := ⟨by omega, by omega⟩
                              have hx631995 : tl_RModel_spill_90 D I γ0 el0 f P590252 F590253 q590254 F625428 q590255 g628709 q628852 P628710 F628711 gm_F628711 el_F628711 (0 : Int32) 210 F631875 P631874 gm_F631875 el_F631875 := kt90_630386 210 F631875 P631874 gm_F631875 el_F631875 (tl_RModel_spill_90_k25 D I γ0 el0 f P590252 F590253 q590254 F625428 q590255 g628709 q628852 P630364 F630365 gm_F630365 el_F630365 g630363 q630443 p630467 q631763 p631777 p631782 o631801 p631779 p631783 o631833 f631841 z631842 P631874 F631875 gm_F631875 el_F631875 o631863 bg630363 hT630366 hs630367 x630374 x630375 x630376 x630377 x630379 x630380 x630381 x630382 x630383 x630384 x630385 fq630463 fq630474 fq630475 r630487 fq631317 r631751 hx631764 ht631774 fq631794 fq631795 bo631801 ht631803 r631824 fq631825 fq631827 bo631833 ht631835 r631837 fq631838 he631840 hz631842 bz631842 r631850 hk631876 x631864 x631865 x631866 x631867 x631868 x631869 x631870 x631871 x631872 ht631873 r631994)
                              have hx631996 : tl_RModel_spill_73 D I γ0 el0 f P590252 F590253 q590254 F625428 q590255 P625427 F625428 gm_hg625517 el_F625428 (0 : Int32) 210 F631875 P631874 gm_F631875 el_F631875 := kt73_628726 210 F631875 P631874 gm_F631875 el_F631875 (fun R c1 c2 c3 c4 c5 => c5 P628710 F628711 gm_F628711 el_F628711 g628709 p628786 q628783 q628852 p628834 F631875 P631874 gm_F631875 el_F631875 bg628709 hT628712 hs628713 x628716 x628717 x628718 x628719 x628721 x628722 x628723 x628724 x628725 fq628808 r628830 fq628857 hx628853 fq628875 ht628881 hx631995)
                              refine G_iconst 0 dr_cX17_spill_210 (by decide +kernel) ?_
                              exact G_zretA FieldType.boolean dr_cX17_spill_211 rfl rfl (rm_zc pk631897) (rm_zs pk631897) ⟨P631874, F631875, gm_F631875, el_F631875, 0, rfl, rfl, hs631881, (rm_pp hph631896), hB631879, (gB_w (gBl (show Int32.toInt 0 = 0 by decide)) (by decide) (by decide)), (by have qa0 : Int32.toInt (-1) = (-1) := (by decide); have qa1 : Int32.toInt 0 = 0 := (by decide); omega), (Or.inl (by decide)), kp631882, mk631895, (fun R c1 c2 c3 c4 c5 c6 => c5 gm_0 el_0 F625428 P625427 gm_F625428 el_F625428 p625453 gm_hg625517 F631875 P631874 gm_F631875 el_F631875 hγ0 hel0 hx625511 fq625518 hg625517 hx631996)⟩
                        · have r631997 : o631833.toInt ≠ 0 := gj_neq hc631836 (show Int32.toInt 0 = 0 by decide)
                          have bo631833' : gB o631833 1 1 := gB_t1 bo631833 r631997
                          refine G_aload 1 dr_cX17_spill_162 rfl ?_
                          have fq631998 : fI (F630365 q631763) 3 = p631780 := by rw [he631776]; rfl
                          refine Gp_get 3 hm631775 he631776 dr_cX17_spill_164 (gk_X15 D I) (Nat.le_of_ble_eq_true rfl) wr_9_190 rfl ?_
                          have rb631999 : gB p631780 0 1999 := (gHe r631786).resolve_left (by have z := (uB_1 x631834 (by omega)).2.2; omega)
                          refine G_goto 171 dr_cX17_spill_167 (by decide +kernel) ?_
                          refine G_istore (L' := [(7, .int p631780), (6, .int p631779), (5, .ref q631763), (4, .int g630363), (3, .ref q628852), (2, .int g628709), (0, .ref q590254), (1, .ref q590255)]) dr_cX17_spill_171 (Nat.le_of_ble_eq_true rfl) rfl ?_
                          refine G_iload 1 dr_cX17_spill_173 rfl ?_
                          refine G_if_lt 236 dr_cX17_spill_175 (by decide +kernel) (fun hc => absurd (show False by have := gj_lt hc (show Int32.toInt 0 = 0 by decide); omega) not_false) (fun _ => ?_)
                          refine G_aload_n 6 dr_cX17_spill_178 rfl ?_
                          have fq632000 : fR (F630365 q590254) 19 = (gm_F630365 9 19) := by rw [he630393]; rfl
                          refine Gp_get 19 hm630392 he630393 dr_cX17_spill_179 (gk_X17 D I) (Nat.le_of_ble_eq_true rfl) wr_7_93 rfl ?_
                          refine G_iload 1 dr_cX17_spill_182 rfl ?_
                          have hm632001 : (gm_F630365 9 19) ∈ P630364 := RS_m hT630366 ht630426 (by decide)
                          obtain ⟨f632003, he632002, bf632003⟩ := show rk_21 I (F630365 (gm_F630365 9 19)) from RS_o hT630366 ht630426
                          refine Gp_iald 0 hm632001 he632002 dr_cX17_spill_184 rfl (gB_in rb631826 (by decide) (by decide)) (G_nam fun z632004 hz632004 => ?_)
                          have bz632004 : gB z632004 (-1) 1999 := by rw [hz632004]; exact bf632003 _
                          have c9_632005 : cB (F625428 (γ0 9 19)) = f632003 := by rw [← x630380, ← congrFun (rSk_9 hs630367) 19]; exact cB_of he632002
                          have hs632006 : (cB (F625428 (γ0 9 19)) p631779.toInt.toNat).toInt = z632004.toInt := by rw [c9_632005, hz632004]; rfl
                          refine G_if_lt 236 dr_cX17_spill_185 (by decide +kernel) (fun hc632008 => ?_) (fun hc632008 => ?_)
                          · have r632009 : z632004.toInt < 0 := gj_lt hc632008 (show Int32.toInt 0 = 0 by decide)
                            have bz632004' : gB z632004 (-1) (-1) := ⟨by omega, by omega⟩
                            have ac632010 : (fI (F630365 q590254) 11).toInt = p630398.toInt := by rw [he630393]; rfl
                            have ac632011 : (fI (F630365 q590254) 14).toInt = p630401.toInt := by rw [he630393]; rfl
                            refine G_lv (L' := [(0, .ref q590254), (1, .ref q590255), (2, .int g628709), (3, .ref q628852), (4, .int g630363), (5, .ref q631763), (6, .int p631779), (7, .int p631780)]) [6, 7, 5, 4, 3, 2, 1, 0] rfl ?_
                            exact jn236_631045 P630364 F630365 gm_F630365 el_F630365 g630363 q631763 p631779 p631780 (gB_w bg630363'' (by decide) (by decide)) (gB_w rb631826 (by decide) (by decide)) (gB_w rb631999 (by decide) (by decide)) hT630366 hs630367 hph630368 hB630369 ht630370 hf630371 r630372 r630373 ht631766 hf631768 (by omega) (by omega) (by omega) (by omega) (by omega) (by omega) x630380 (by exact pl631793.1) (by exact hp631790) (rS1_of he631776 he631776 pl631793.2 (fun _ _ _ _ => Or.inr ⟨rfl, by omega⟩) (fun _ _ _ => Or.inr ⟨rfl, rfl, by omega, (Classical.em (p631780.toInt = p631779.toInt)).elim (fun e => Or.inr (by rw [e]; omega)) (fun e => Or.inl e)⟩)) (by omega) (by omega) (ms_j hm90_630385 (by omega) (by omega) (by omega)) (eO_l (by omega)) x630384 x630385 (fun k e1 e2 e3 e4 ht => tl_RModel_spill_90_k26 D I γ0 el0 f P590252 F590253 q590254 F625428 q590255 g628709 q628852 P630364 F630365 gm_F630365 el_F630365 g630363 q630443 p630467 q631763 p631777 p631782 o631801 p631779 p631783 o631833 p631780 f632003 z632004 k e1 e2 e3 e4 bg630363 hT630366 hs630367 x630374 x630375 x630376 x630377 x630379 x630380 x630381 x630382 x630383 x630384 x630385 fq630463 fq630474 fq630475 r630487 fq631317 r631751 hx631764 ht631774 fq631794 fq631795 bo631801 ht631803 r631824 fq631825 fq631827 bo631833 ht631835 r631997 fq631998 fq632000 he632002 hz632004 bz632004 r632009 ht)
                          · have r632012 : 0 ≤ z632004.toInt := gj_nlt hc632008 (show Int32.toInt 0 = 0 by decide)
                            have bz632004' : gB z632004 0 1999 := ⟨by omega, by omega⟩
                            refine G_aload_n 6 dr_cX17_spill_188 rfl ?_
                            refine G_aload_n 7 dr_cX17_spill_189 rfl ?_
                            refine G_aload_n 4 dr_cX17_spill_190 rfl ?_
                            refine G_iload 3 dr_cX17_spill_191 rfl ?_
                            refine G_aload_n 6 dr_cX17_spill_193 rfl ?_
                            refine Gp_get 19 hm630392 he630393 dr_cX17_spill_194 (gk_X17 D I) (Nat.le_of_ble_eq_true rfl) wr_7_93 rfl ?_
                            refine G_iload 1 dr_cX17_spill_197 rfl ?_
                            refine Gp_iald 0 hm632001 he632002 dr_cX17_spill_199 rfl (gB_in rb631826 (by decide) (by decide)) (G_eqi (y := z632004) hz632004.symm ?_)
                            have r632013 := (spi625514.2.2.2 p631779.toInt.toNat (tn_lt (by omega) (by omega)) (by omega)).2.2
                            have ac632014 : (fI (F630365 q590254) 11).toInt = p630398.toInt := by rw [he630393]; rfl
                            have ac632015 : (fI (F630365 q590254) 14).toInt = p630401.toInt := by rw [he630393]; rfl
                            have rg632016 := rM_ge hT630366 ht630388 hf630389
                            have rm632017 := rM_bd hB630369
                            have bd632018 := rBd_c hT630366 ht630388 hf630389 hB630369
                            have rc632019 := rc_at hT630366 ht630388 hf630389
                            refine Gw_callV (As := [.ref q590255, .ref q628852, .int g630363, .int z632004]) (gV_ok D I) (cg_409847_SpillForgeModel_load l hl0 D I gm_F630365 el_F630365 f B P630364 F630365 q590254 q590255 q628852 g630363 z632004 g628709.toInt.toNat hT630366 ht630387 ht630388 ht630370 hf630389 hB630369 hBk r630372 r630373 hf630371 (gB_w bg630363'' (by decide) (by decide)) bz632004' (by omega) (by omega) (by omega) (by omega) (by omega)) dr_cX17_spill_200 ⟨wr_11_67, wr_1_14, wr_11_70, by decide, rfl, (Nat.le_of_ble_eq_true rfl), (Nat.le_of_ble_eq_true rfl)⟩ wr_11_69 wr_p_111 hm630392 he630393 rfl (rm_gc hph630368 pk630390) (rm_gs hph630368 pk630390) (Nat.le_of_ble_eq_true rfl) (fun r632023 w632024 dc632020 ds632021 hp632022 => ?_) (fun _ _ _ _ _ z => z.elim)
                            obtain ⟨P632036, F632037, gm_F632037, el_F632037, o632025, rfl, rfl, hk632038, ⟨hr632039, hr632040⟩, hB632041, bo632025, x632026, x632027, x632028, x632029, x632030, x632031, x632032, x632033, x632034, ht632035⟩ := hp632022
                            have hT632042 := hk632038.1
                            have hs632043 := rSk_tr hs630367 hk632038 (by decide) (by decide) (by decide)
                            have kp632044 : F632037 (γ0 9 3) = F590253 (γ0 9 3) := (rSk_F hk632038 (rSk_k hs630367 k0_3 (by decide) (by decide)) (by decide) (by decide)).trans x630384
                            have kp632045 : F632037 (γ0 9 19) = F625428 (γ0 9 19) := (rSk_F hk632038 (rSk_k hs630367 k0_19 (by decide) (by decide)) (by decide) (by decide)).trans x630380
                            have ht632046 : rKd gm_F632037 q590254 10 := rSk_k hk632038 ht630387 (by decide) (by decide)
                            have ht632047 : rKd gm_F632037 q590255 9 := rSk_k hk632038 ht630388 (by decide) (by decide)
                            have hf632048 : gm_F632037 1 q590255 = f := rSk_1 hk632038 ht630388 (by decide) hf630389
                            have ht632049 : rKd gm_F632037 q628852 2 := rSk_k hk632038 ht630370 (by decide) (by decide)
                            have hf632050 : gm_F632037 1 q628852 = f := rSk_1 hk632038 ht630370 (by decide) hf630371
                            have ht632051 : rKd gm_F632037 q630443 3 := rSk_k hk632038 ht630447 (by decide) (by decide)
                            have hf632052 : gm_F632037 1 q630443 = f := rSk_1 hk632038 ht630447 (by decide) hf630456
                            have ht632053 : rKd gm_F632037 q631763 1 := rSk_k hk632038 ht631766 (by decide) (by decide)
                            have hf632054 : gm_F632037 1 q631763 = f := rSk_1 hk632038 ht631766 (by decide) hf631768
                            have he632055 : F632037 q631763 = .inr (20, [.int p631777, .int p631778, .int p631779, .int p631780, .int p631781, .int p631782, .int p631783]) := (rSk_F hk632038 ht631766 (by decide) (by decide)).trans he631776
                            have hm632056 : q631763 ∈ P632036 := RS_m hT632042 ht632053 (by decide)
                            clear bp630445 bp630446 r630454 r630455 rg632016 rm632017 bd632018 rc632019
                            have mk632057 : mKp (F590253 q590254) (F632037 q590254) := mKp_tr x630385 x632034
                            have hph632058 : rPh γ0 el0 f ≤ rPh gm_F632037 el_F632037 f := rm_ph hph630368 hr632040
                            have pk632059 : rPh gm_F632037 el_F632037 f ≤ 387 * B + 6000 := rm_pk (rM_ge hT632042 ht632047 hf632048).1 (rM_bd hB632041)
                            change G _ _ _ _ _ _ _ (.int o632025 :: _) _ _ _
                            refine G_widen (cs' := ((rPh gm_F632037 el_F632037 f - rPh γ0 el0 f) / 18)) (sl' := (rPh gm_F632037 el_F632037 f - rPh γ0 el0 f)) (rm_wc hph630368 hr632039) (rm_ws hph630368 hr632040) ?_
                            have sz632060 := x632026
                            have r632061 : 0 < gm_F632037 6 (gm_F632037 1 q590255) := by rw [hf632048]; omega
                            have hm632062 : q590254 ∈ P632036 := RS_m hT632042 ht632046 (by decide)
                            refine rk10_e (show rk_10 gm_F632037 (F632037 q590254) from RS_o hT632042 ht632046) (fun q632064 q632065 p632066 p632067 p632068 p632069 p632070 p632071 p632072 p632073 p632074 p632075 p632076 p632077 p632078 p632079 p632080 he632063 hB632107 ht632081 ht632082 ht632083 ht632084 ht632085 ht632086 ht632087 ht632088 ht632089 ht632090 ht632091 ht632092 ht632093 ht632094 ht632095 ht632096 ht632097 ht632098 ht632099 ht632100 ht632101 ht632102 ht632103 ht632104 hB632108 => ?_)
                            have ac632109 : (fI (F632037 q590254) 11).toInt = p632068.toInt := by rw [he632063]; rfl
                            have bp632068 : gB p632068 0 100 := (hB632107.2.2.1)
                            have ac632110 : (fI (F632037 q590254) 14).toInt = p632071.toInt := by rw [he632063]; rfl
                            have bp632071 : gB p632071 0 2000 := (hB632107.2.2.2.1)
                            refine G_istore (L' := [(8, .int o632025), (7, .int p631780), (6, .int p631779), (5, .ref q631763), (4, .int g630363), (3, .ref q628852), (2, .int g628709), (0, .ref q590254), (1, .ref q590255)]) dr_cX17_spill_203 (Nat.le_of_ble_eq_true rfl) rfl ?_
                            refine G_iload 0 dr_cX17_spill_205 rfl ?_
                            refine G_if_ge 212 dr_cX17_spill_207 (by decide +kernel) (fun hc632111 => ?_) (fun hc632111 => ?_)
                            · have r632112 : 0 ≤ o632025.toInt := gj_leL hc632111 (show Int32.toInt 0 = 0 by decide)
                              have bo632025' : gB o632025 0 1999 := ⟨by omega, by omega⟩
                              have pl632114 := sp_ld (x632032.resolve_left (by omega)) pl631793.1 (tn_ge (by omega)) (rfl : ((g630363.toInt : Int).toNat + 1) = (g630363.toInt : Int).toNat + 1)
                              have hp632115 : rAt gm_F632037 el_F632037 q590255 (g628709.toInt : Int).toNat ((g630363.toInt : Int).toNat + 1) = q631763 := ((x632033.resolve_left (by omega)) (g630363.toInt : Int).toNat (Nat.le_refl _)).trans hp631790
                              have r632116 := x632030.resolve_left (by omega)
                              have x632030p := PLift.up x632030
                              have x632032p := PLift.up x632032
                              have x632033p := PLift.up x632033
                              clear x632030 x632032 x632033
                              obtain ⟨z632117, hz632117⟩ : ∃ z : Int32, z = g630363 + Int32.ofInt 1 := ⟨_, rfl⟩
                              have ez632117 : z632117.toInt = g630363.toInt + 1 := gI_inc hz632117 (by decide) bg630363'' (by decide) (by decide)
                              have bz632117 : gB z632117 1 1000000 := ⟨by omega, by omega⟩
                              refine G_iinc (L' := [(4, .int z632117), (8, .int o632025), (7, .int p631780), (6, .int p631779), (5, .ref q631763), (3, .ref q628852), (2, .int g628709), (0, .ref q590254), (1, .ref q590255)]) z632117 4 dr_cX17_spill_212 rfl hz632117.symm (Nat.le_of_ble_eq_true rfl) rfl ?_
                              refine G_aload 4 dr_cX17_spill_215 rfl ?_
                              refine G_iload 1 dr_cX17_spill_217 rfl ?_
                              refine Gp_put 2 hm632056 he632055 dr_cX17_spill_219 (gk_X15 D I) (Nat.le_of_ble_eq_true rfl) wr_9_186 rfl rfl rfl (Nat.le_of_ble_eq_true rfl) (fun F632118 e632119 n632120 => ?_)
                              have r632121 := rk1_at hT632042 ht632053 he632055
                              have he632122 : F632118 q590254 = .inr (22, [.ref (gm_F632037 9 0), .ref (gm_F632037 9 1), .ref (gm_F632037 9 2), .ref (gm_F632037 9 3), .ref (gm_F632037 9 4), .ref (gm_F632037 9 5), .ref (gm_F632037 9 6), .ref (gm_F632037 9 7), .ref (gm_F632037 9 8), .int p632066, .int p632067, .int p632068, .int p632069, .int p632070, .int p632071, .ref (gm_F632037 9 15), .ref (gm_F632037 9 16), .ref (gm_F632037 9 17), .ref (gm_F632037 9 18), .ref (gm_F632037 9 19), .ref (gm_F632037 9 20), .ref (gm_F632037 9 21), .ref (gm_F632037 9 22), .int p632072, .int p632073, .int p632074, .int p632075, .int p632076, .ref q632064, .ref (gm_F632037 9 29), .int p632077, .ref (gm_F632037 9 31), .int p632078, .int p632079, .int p632080, .ref q632065]) := (n632120 q590254 (rn_oo he632063 he632055 (by decide))).trans he632063
                              have he632123 : F632118 q631763 = .inr (20, [.int p631777, .int p631778, .int o632025, .int p631780, .int p631781, .int p631782, .int p631783]) := e632119
                              have mk632124 : mKp (F590253 q590254) (F632118 q590254) := mKp_tr mk632057 (mKp_eq (n632120 q590254 (rn_ty ht632046 ht632053 (by decide))))
                              have kp632125 : F632118 (γ0 9 3) = F590253 (γ0 9 3) := (n632120 (γ0 9 3) (rn_ty (rSk_k hs632043 k0_3 (by decide) (by decide)) ht632053 (by decide))).trans kp632044
                              have kp632126 : F632118 (γ0 9 19) = F625428 (γ0 9 19) := (n632120 (γ0 9 19) (rn_ty (rSk_k hs632043 k0_19 (by decide) (by decide)) ht632053 (by decide))).trans kp632045
                              have fq632127 : F632118 q631763 = cF (F632037 q631763) 2 (.int o632025) := by rw [he632123, he632055]; rfl
                              refine G_iload 2 dr_cX17_spill_222 rfl ?_
                              refine G_iload 3 dr_cX17_spill_224 rfl ?_
                              refine G_icmp_ne 236 dr_cX17_spill_226 (by decide +kernel) (fun hc632128 => ?_) (fun hc632128 => ?_)
                              · have r632129 : p631780.toInt ≠ p631779.toInt := gC_ne hc632128
                                have hT632130 : RS D I P632036 F632118 gm_F632037 el_F632037 := RS_set hT632042 n632120 ht632053 (by decide) ⟨p631777, p631778, o632025, p631780, p631781, p631782, p631783, he632123, bp631777, bp631778, bp631781, bp631782, bp631783, (gHe r631784), (Or.inr bo632025'), (gHe r631786), r632121.1, r632121.2⟩
                                have hs632132 := rSk_put hs632043 hT632130 n632120 ht632053 (by decide) (by decide) (Or.inr (Or.inl hf632054))
                                have hm632134 : q628852 ∈ P632036 := RS_m hT632130 ht632049 (by decide)
                                obtain ⟨q632136, q632137, p632138, p632139, he632135, ht632146, ht632140, ht632141, ht632142, ht632143, ht632144, bp632138, bp632139, r632145, r632147, r632148⟩ := show rk_2 gm_F632037 q628852 (F632118 q628852) from RS_o hT632130 ht632049
                                have hf632149 : gm_F632037 1 q632136 = f := (show gm_F632037 1 q632136 = gm_F632037 1 q628852 from ht632141).trans hf632050
                                have hf632150 : gm_F632037 1 q632137 = f := (show gm_F632037 1 q632137 = gm_F632037 1 q628852 from ht632143).trans hf632050
                                have r632151 : gm_F632037 6 (gm_F632037 1 q628852) = gm_F632037 6 f := by rw [hf632050]
                                have r632152 : gm_F632037 7 (gm_F632037 1 q628852) = gm_F632037 7 f := by rw [hf632050]
                                have r632153 : gm_F632037 19 (gm_F632037 1 q628852) = gm_F632037 19 f := by rw [hf632050]
                                have r632154 := r632145.resolve_left (by omega)
                                clear r632145
                                have r632155 : gm_F632037 2 (gm_F632037 14 q628852) = gm_F632037 2 q632136 := by rw [ht632146.1]
                                have pl632133 := sp_put hT632042 ht632047 hf632048 pl632114 n632120 hp632115 (show (g628709.toInt : Int).toNat < gm_F632037 6 f from tn_lt (by omega) (by omega)) (by unfold rwL; rw [x632029.2.2]; exact tn_le1 (by omega) (by omega))
                                have ac632156 : (fI (F632118 q590254) 11).toInt = p632068.toInt := by rw [he632122]; rfl
                                have ac632157 : (fI (F632118 q590254) 14).toInt = p632071.toInt := by rw [he632122]; rfl
                                refine G_lv (L' := [(0, .ref q590254), (1, .ref q590255), (2, .int g628709), (3, .ref q628852), (4, .int z632117), (5, .ref q631763), (6, .int p631779), (7, .int p631780)]) [7, 8, 6, 5, 0, 4, 3, 2] rfl ?_
                                exact jn236_631045 P632036 F632118 gm_F632037 el_F632037 z632117 q631763 p631779 p631780 (gB_w bz632117 (by decide) (by decide)) (gB_w rb631826 (by decide) (by decide)) (gB_w rb631999 (by decide) (by decide)) hT632130 hs632132 hph632058 hB632041 ht632049 hf632050 x632029.2.1 x632029.2.2 ht632053 hf632054 (by omega) (by omega) (by omega) (by omega) (by omega) (by omega) kp632126 (by rw [(show (z632117.toInt : Int).toNat = ((g630363.toInt : Int).toNat + 1) from tn_eq1 (by omega) (by omega))]; exact pl632133) (by rw [(show (z632117.toInt : Int).toNat = ((g630363.toInt : Int).toNat + 1) from tn_eq1 (by omega) (by omega))]; exact hp632115) (rS1_of he631776 he632123 pl631793.2 (fun _ _ _ _ => Or.inl (by omega)) (fun _ _ _ => Or.inr ⟨rfl, rfl, by omega, Or.inl (by omega)⟩)) (by omega) (by omega) (ms_j hm90_630385 (by omega) (by omega) (by omega)) (eO_l (by omega)) kp632125 mk632124 (fun k e1 e2 e3 e4 ht => tl_RModel_spill_90_k27 D I γ0 el0 f P590252 F590253 q590254 F625428 q590255 g628709 q628852 P630364 F630365 gm_F630365 el_F630365 g630363 q630443 p630467 q631763 p631777 p631782 o631801 p631779 p631783 o631833 p631780 f632003 z632004 P632036 F632037 gm_F632037 el_F632037 o632025 z632117 F632118 k e1 e2 e3 e4 bg630363 hT630366 hs630367 x630374 x630375 x630376 x630377 x630379 x630380 x630381 x630382 x630383 x630384 x630385 fq630463 fq630474 fq630475 r630487 fq631317 r631751 hx631764 ht631774 fq631794 fq631795 bo631801 ht631803 r631824 fq631825 fq631827 bo631833 ht631835 r631997 fq631998 fq632000 he632002 hz632004 bz632004 r632012 hk632038 x632026 x632027 x632028 x632029 x632030p.down x632031 x632032p.down x632033p.down x632034 ht632035 r632112 ez632117 n632120 fq632127 r632129 ht)
                              · have r632158 : p631780.toInt = p631779.toInt := gC_eq hc632128
                                refine G_aload 4 dr_cX17_spill_229 rfl ?_
                                refine G_iload 1 dr_cX17_spill_231 rfl ?_
                                refine Gp_put 3 hm632056 he632123 dr_cX17_spill_233 (gk_X15 D I) (Nat.le_of_ble_eq_true rfl) wr_9_190 rfl rfl rfl (Nat.le_of_ble_eq_true rfl) (fun F632159 e632160 n632161 => ?_)
                                have he632162 : F632159 q590254 = .inr (22, [.ref (gm_F632037 9 0), .ref (gm_F632037 9 1), .ref (gm_F632037 9 2), .ref (gm_F632037 9 3), .ref (gm_F632037 9 4), .ref (gm_F632037 9 5), .ref (gm_F632037 9 6), .ref (gm_F632037 9 7), .ref (gm_F632037 9 8), .int p632066, .int p632067, .int p632068, .int p632069, .int p632070, .int p632071, .ref (gm_F632037 9 15), .ref (gm_F632037 9 16), .ref (gm_F632037 9 17), .ref (gm_F632037 9 18), .ref (gm_F632037 9 19), .ref (gm_F632037 9 20), .ref (gm_F632037 9 21), .ref (gm_F632037 9 22), .int p632072, .int p632073, .int p632074, .int p632075, .int p632076, .ref q632064, .ref (gm_F632037 9 29), .int p632077, .ref (gm_F632037 9 31), .int p632078, .int p632079, .int p632080, .ref q632065]) := (n632161 q590254 (rn_oo he632122 he632123 (by decide))).trans he632122
                                have he632163 : F632159 q631763 = .inr (20, [.int p631777, .int p631778, .int o632025, .int o632025, .int p631781, .int p631782, .int p631783]) := e632160
                                have mk632164 : mKp (F590253 q590254) (F632159 q590254) := mKp_tr mk632124 (mKp_eq (n632161 q590254 (rn_ty ht632046 ht632053 (by decide))))
                                have n632165 : ∀ b, b ≠ q631763 → F632159 b = F632037 b := fun b hb => (n632161 b hb).trans (n632120 b hb)
                                have kp632166 : F632159 (γ0 9 3) = F590253 (γ0 9 3) := (n632161 (γ0 9 3) (rn_ty (rSk_k hs632043 k0_3 (by decide) (by decide)) ht632053 (by decide))).trans kp632125
                                have kp632167 : F632159 (γ0 9 19) = F625428 (γ0 9 19) := (n632161 (γ0 9 19) (rn_ty (rSk_k hs632043 k0_19 (by decide) (by decide)) ht632053 (by decide))).trans kp632126
                                have fq632168 : F632159 q631763 = cF (F632118 q631763) 3 (.int o632025) := by rw [he632163, he632123]; rfl
                                have hT632169 : RS D I P632036 F632159 gm_F632037 el_F632037 := RS_set hT632042 n632165 ht632053 (by decide) ⟨p631777, p631778, o632025, o632025, p631781, p631782, p631783, he632163, bp631777, bp631778, bp631781, bp631782, bp631783, (gHe r631784), (Or.inr bo632025'), (Or.inr bo632025'), r632121.1, r632121.2⟩
                                have hs632171 := rSk_put hs632043 hT632169 n632165 ht632053 (by decide) (by decide) (Or.inr (Or.inl hf632054))
                                have hm632173 : q628852 ∈ P632036 := RS_m hT632169 ht632049 (by decide)
                                obtain ⟨q632175, q632176, p632177, p632178, he632174, ht632185, ht632179, ht632180, ht632181, ht632182, ht632183, bp632177, bp632178, r632184, r632186, r632187⟩ := show rk_2 gm_F632037 q628852 (F632159 q628852) from RS_o hT632169 ht632049
                                have hf632188 : gm_F632037 1 q632175 = f := (show gm_F632037 1 q632175 = gm_F632037 1 q628852 from ht632180).trans hf632050
                                have hf632189 : gm_F632037 1 q632176 = f := (show gm_F632037 1 q632176 = gm_F632037 1 q628852 from ht632182).trans hf632050
                                have r632190 : gm_F632037 6 (gm_F632037 1 q628852) = gm_F632037 6 f := by rw [hf632050]
                                have r632191 : gm_F632037 7 (gm_F632037 1 q628852) = gm_F632037 7 f := by rw [hf632050]
                                have r632192 : gm_F632037 19 (gm_F632037 1 q628852) = gm_F632037 19 f := by rw [hf632050]
                                have r632193 := r632184.resolve_left (by omega)
                                clear r632184
                                have r632194 : gm_F632037 2 (gm_F632037 14 q628852) = gm_F632037 2 q632175 := by rw [ht632185.1]
                                have pl632172 := sp_put hT632042 ht632047 hf632048 pl632114 n632165 hp632115 (show (g628709.toInt : Int).toNat < gm_F632037 6 f from tn_lt (by omega) (by omega)) (by unfold rwL; rw [x632029.2.2]; exact tn_le1 (by omega) (by omega))
                                have ac632195 : (fI (F632159 q590254) 11).toInt = p632068.toInt := by rw [he632162]; rfl
                                have ac632196 : (fI (F632159 q590254) 14).toInt = p632071.toInt := by rw [he632162]; rfl
                                refine G_lv (L' := [(0, .ref q590254), (1, .ref q590255), (2, .int g628709), (3, .ref q628852), (4, .int z632117), (5, .ref q631763), (6, .int p631779), (7, .int p631780)]) [7, 8, 6, 5, 0, 4, 3, 2] rfl ?_
                                exact jn236_631045 P632036 F632159 gm_F632037 el_F632037 z632117 q631763 p631779 p631780 (gB_w bz632117 (by decide) (by decide)) (gB_w rb631826 (by decide) (by decide)) (gB_w rb631999 (by decide) (by decide)) hT632169 hs632171 hph632058 hB632041 ht632049 hf632050 x632029.2.1 x632029.2.2 ht632053 hf632054 (by omega) (by omega) (by omega) (by omega) (by omega) (by omega) kp632167 (by rw [(show (z632117.toInt : Int).toNat = ((g630363.toInt : Int).toNat + 1) from tn_eq1 (by omega) (by omega))]; exact pl632172) (by rw [(show (z632117.toInt : Int).toNat = ((g630363.toInt : Int).toNat + 1) from tn_eq1 (by omega) (by omega))]; exact hp632115) (rS1_of he631776 he632163 pl631793.2 (fun _ _ _ _ => Or.inl (by omega)) (fun _ _ _ => Or.inl (by omega))) (by omega) (by omega) (ms_j hm90_630385 (by omega) (by omega) (by omega)) (eO_l (by omega)) kp632166 mk632164 (fun k e1 e2 e3 e4 ht => tl_RModel_spill_90_k28 D I γ0 el0 f P590252 F590253 q590254 F625428 q590255 g628709 q628852 P630364 F630365 gm_F630365 el_F630365 g630363 q630443 p630467 q631763 p631777 p631782 o631801 p631779 p631783 o631833 p631780 f632003 z632004 P632036 F632037 gm_F632037 el_F632037 o632025 z632117 F632118 F632159 k e1 e2 e3 e4 bg630363 hT630366 hs630367 x630374 x630375 x630376 x630377 x630379 x630380 x630381 x630382 x630383 x630384 x630385 fq630463 fq630474 fq630475 r630487 fq631317 r631751 hx631764 ht631774 fq631794 fq631795 bo631801 ht631803 r631824 fq631825 fq631827 bo631833 ht631835 r631997 fq631998 fq632000 he632002 hz632004 bz632004 r632012 hk632038 x632026 x632027 x632028 x632029 x632030p.down x632031 x632032p.down x632033p.down x632034 ht632035 r632112 ez632117 n632120 fq632127 r632158 n632161 fq632168 ht)
                            · have r632197 : o632025.toInt < 0 := gj_nleL hc632111 (show Int32.toInt 0 = 0 by decide)
                              have bo632025' : gB o632025 (-1) (-1) := ⟨by omega, by omega⟩
                              have hx632198 : tl_RModel_spill_90 D I γ0 el0 f P590252 F590253 q590254 F625428 q590255 g628709 q628852 P628710 F628711 gm_F628711 el_F628711 (0 : Int32) 210 F632037 P632036 gm_F632037 el_F632037 := kt90_630386 210 F632037 P632036 gm_F632037 el_F632037 (tl_RModel_spill_90_k29 D I γ0 el0 f P590252 F590253 q590254 F625428 q590255 g628709 q628852 P630364 F630365 gm_F630365 el_F630365 g630363 q630443 p630467 q631763 p631777 p631782 o631801 p631779 p631783 o631833 f632003 z632004 P632036 F632037 gm_F632037 el_F632037 o632025 bg630363 hT630366 hs630367 x630374 x630375 x630376 x630377 x630379 x630380 x630381 x630382 x630383 x630384 x630385 fq630463 fq630474 fq630475 r630487 fq631317 r631751 hx631764 ht631774 fq631794 fq631795 bo631801 ht631803 r631824 fq631825 fq631827 bo631833 ht631835 r631997 fq632000 he632002 hz632004 bz632004 r632012 hk632038 x632026 x632027 x632028 x632029 x632030 x632031 x632032 x632033 x632034 ht632035 r632197)
                              have hx632199 : tl_RModel_spill_73 D I γ0 el0 f P590252 F590253 q590254 F625428 q590255 P625427 F625428 gm_hg625517 el_F625428 (0 : Int32) 210 F632037 P632036 gm_F632037 el_F632037 := kt73_628726 210 F632037 P632036 gm_F632037 el_F632037 (fun R c1 c2 c3 c4 c5 => c5 P628710 F628711 gm_F628711 el_F628711 g628709 p628786 q628783 q628852 p628834 F632037 P632036 gm_F632037 el_F632037 bg628709 hT628712 hs628713 x628716 x628717 x628718 x628719 x628721 x628722 x628723 x628724 x628725 fq628808 r628830 fq628857 hx628853 fq628875 ht628881 hx632198)
                              refine G_iconst 0 dr_cX17_spill_210 (by decide +kernel) ?_
                              exact G_zretA FieldType.boolean dr_cX17_spill_211 rfl rfl (rm_zc pk632059) (rm_zs pk632059) ⟨P632036, F632037, gm_F632037, el_F632037, 0, rfl, rfl, hs632043, (rm_pp hph632058), hB632041, (gB_w (gBl (show Int32.toInt 0 = 0 by decide)) (by decide) (by decide)), (by have qa0 : Int32.toInt 0 = 0 := (by decide); omega), (Or.inl (by decide)), kp632044, mk632057, (fun R c1 c2 c3 c4 c5 c6 => c5 gm_0 el_0 F625428 P625427 gm_F625428 el_F625428 p625453 gm_hg625517 F632037 P632036 gm_F632037 el_F632037 hγ0 hel0 hx625511 fq625518 hg625517 hx632199)⟩
              have ac632200 : (fI (F628711 q590254) 11).toInt = p628738.toInt := by rw [he628733]; rfl
              have ac632201 : (fI (F628711 q590254) 14).toInt = p628741.toInt := by rw [he628733]; rfl
              exact hlp90_630385 ((gm_F628711 2 (gm_F628711 14 q628852) + 1 - (0 : Int).toNat) + 1) P628710 F628711 gm_F628711 el_F628711 0 (gB_w (gBl (show Int32.toInt 0 = 0 by decide)) (by decide) (by decide)) hT628712 hs628713 hph628714 hB628715 ht628858 hf628882 r628890 r628891 (by have qa0 : Int32.toInt 0 = 0 := (by decide); omega) (by have qa0 : Int32.toInt 0 = 0 := (by decide); omega) (by have qa0 : Int32.toInt 0 = 0 := (by decide); omega) (by have qa0 : Int32.toInt 0 = 0 := (by decide); omega) (by have qa0 : Int32.toInt 0 = 0 := (by decide); omega) (by have qa0 : Int32.toInt 0 = 0 := (by decide); omega) x628722 (by have qa : Int32.toInt 0 = 0 := (by decide); rw [qa]; exact x628723) (by have qa0 : Int32.toInt 0 = 0 := (by decide); omega) (by have qa0 : Int32.toInt 0 = 0 := (by decide); omega) x628724 x628725 (fun k e1 e2 e3 e4 ht => ht) (Nat.lt_succ_self _)
        have ac632202 : (fI (F625428 q590254) 11).toInt = p625536.toInt := by rw [he625531]; rfl
        have ac632203 : (fI (F625428 q590254) 14).toInt = p625539.toInt := by rw [he625531]; rfl
        exact hlp73_628725 (((1000001 : Int) - 0).toNat + 1) P625427 F625428 gm_hg625517 el_F625428 0 (gB_w (gBl (show Int32.toInt 0 = 0 by decide)) (by decide) (by decide)) hT625521 hs625522 hph625580 hB625579 (by have qa0 : Int32.toInt 0 = 0 := (by decide); omega) (by have qa0 : Int32.toInt 0 = 0 := (by decide); omega) (by have qa0 : Int32.toInt 0 = 0 := (by decide); omega) (by have qa0 : Int32.toInt 0 = 0 := (by decide); omega) (by have qa0 : Int32.toInt 0 = 0 := (by decide); omega) (by have qa0 : Int32.toInt 0 = 0 := (by decide); omega) kp625524 (by have qa : Int32.toInt 0 = 0 := (by decide); rw [qa]; exact pl625583) kp625523 mk625529 (fun k e1 e2 e3 e4 ht => ht) (Nat.lt_succ_self _)
      · have r632204 : g625426.toInt < 2000 := gj_nleL hc625509 (show Int32.toInt 2000 = 2000 by decide)
        have bg625426' : gB g625426 0 1999 := ⟨by omega, by omega⟩
        refine G_aload_n 1 dr_cX17_spill_9 rfl ?_
        have fq632205 : fR (F625428 q590254) 19 = (gm_F625428 9 19) := by rw [he625448]; rfl
        refine Gp_get 19 hm625447 he625448 dr_cX17_spill_10 (gk_X17 D I) (Nat.le_of_ble_eq_true rfl) wr_7_93 rfl ?_
        refine G_iload_n 0 dr_cX17_spill_13 rfl ?_
        refine G_iconst (-1) dr_cX17_spill_14 (by decide +kernel) ?_
        refine Gp_iast 0 hm625501 he625502 dr_cX17_spill_15 rfl (gB_in bg625426' (by decide) (by decide)) (fun F632206 e632207 n632208 => ?_)
        obtain ⟨f632209, hf632209⟩ : ∃ z, z = upd f625503 g625426.toNatClampNeg (-1) := ⟨_, rfl⟩
        rw [← hf632209] at e632207
        have he632210 : F632206 q590254 = .inr (22, [.ref (gm_F625428 9 0), .ref (gm_F625428 9 1), .ref (gm_F625428 9 2), .ref (gm_F625428 9 3), .ref (gm_F625428 9 4), .ref (gm_F625428 9 5), .ref (gm_F625428 9 6), .ref (gm_F625428 9 7), .ref (gm_F625428 9 8), .int p625451, .int p625452, .int p625453, .int p625454, .int p625455, .int p625456, .ref (gm_F625428 9 15), .ref (gm_F625428 9 16), .ref (gm_F625428 9 17), .ref (gm_F625428 9 18), .ref (gm_F625428 9 19), .ref (gm_F625428 9 20), .ref (gm_F625428 9 21), .ref (gm_F625428 9 22), .int p625457, .int p625458, .int p625459, .int p625460, .int p625461, .ref q625449, .ref (gm_F625428 9 29), .int p625462, .ref (gm_F625428 9 31), .int p625463, .int p625464, .int p625465, .ref q625450]) := (n632208 q590254 (rn_oa he625448 he625502)).trans he625448
        have he632211 : F632206 (gm_F625428 9 3) = .inl (I .boolean, 2000, .inl f625499) := (n632208 (gm_F625428 9 3) (rn_ty ht625471 ht625481 (by decide))).trans he625498
        have he632212 : F632206 (gm_F625428 9 17) = .inl (I .int, 2000, .inl f625507) := (n632208 (gm_F625428 9 17) (rn_ty ht625479 ht625481 (by decide))).trans he625506
        have he632213 : F632206 (gm_F625428 9 19) = .inl (I .int, 2000, .inl f632209) := e632207
        have mk632214 : mKp (F590253 q590254) (F632206 q590254) := mKp_tr x625441 (mKp_eq (n632208 q590254 (rn_ty ht625443 ht625481 (by decide))))
        have kp632215 : F632206 (γ0 9 3) = F590253 (γ0 9 3) := (n632208 (γ0 9 3) (rn_ty (rSk_k hs625430 k0_3 (by decide) (by decide)) ht625481 (by decide))).trans x625440
        have bf632209 : gF f632209 (-1) 1999 := gF_upd hf632209 bf625503 (gB_w (gBl (show Int32.toInt (-1) = (-1) by decide)) (by decide) (by decide))
        have hT632216 : RS D I P625427 F632206 gm_F625428 el_F625428 := RS_set hT625429 n632208 ht625481 (by decide) ⟨f632209, he632213, bf632209⟩
        have hs632218 := rSk_put hs625430 hT632216 n632208 ht625481 (by decide) (by decide) (Or.inr (Or.inr (by decide)))
        have pl632219 := rPl_fr hT625429 ht625444 hf625445 x625439 (fun b hb _ => n632208 b (rn_ty (show rKd gm_F625428 b 1 from hb) ht625481 (by decide)))
        refine G_aload_n 1 dr_cX17_spill_16 rfl ?_
        have fq632220 : fR (F632206 q590254) 3 = (gm_F625428 9 3) := by rw [he632210]; rfl
        refine Gp_get 3 hm625447 he632210 dr_cX17_spill_17 (gk_X17 D I) (Nat.le_of_ble_eq_true rfl) wr_7_77 rfl ?_
        refine G_iload_n 0 dr_cX17_spill_20 rfl ?_
        refine Gp_zald 3 hm625497 he632211 dr_cX17_spill_21 rfl (gB_in bg625426' (by decide) (by decide)) (G_nam fun z632221 hz632221 => ?_)
        have bz632221 : gB z632221 0 1 := by rw [hz632221]; exact bf625499 _
        refine G_if_eq 65 dr_cX17_spill_22 (by decide +kernel) (fun hc632222 => ?_) (fun hc632222 => ?_)
        · have r632223 : z632221.toInt = 0 := gj_eq hc632222 (show Int32.toInt 0 = 0 by decide)
          have bz632221' : gB z632221 0 0 := gB_t0 r632223
          obtain ⟨z632224, hz632224⟩ : ∃ z : Int32, z = g625426 + Int32.ofInt 1 := ⟨_, rfl⟩
          have ez632224 : z632224.toInt = g625426.toInt + 1 := gI_inc hz632224 (by decide) bg625426' (by decide) (by decide)
          have bz632224 : gB z632224 1 2000 := ⟨by omega, by omega⟩
          refine G_iinc (L' := [(2, .int z632224), (0, .ref q590254), (1, .ref q590255)]) z632224 0 dr_cX17_spill_65 rfl hz632224.symm (Nat.le_of_ble_eq_true rfl) rfl ?_
          refine G_goto 2 dr_cX17_spill_68 (by decide +kernel) ?_
          have ac632225 : (fI (F632206 q590254) 11).toInt = p625453.toInt := by rw [he632210]; rfl
          have ac632226 : (fI (F632206 q590254) 14).toInt = p625456.toInt := by rw [he632210]; rfl
          have c9_632227 : cB (F590253 (γ0 9 3)) = f625499 := by rw [← kp632215, ← congrFun (rSk_9 hs632218) 3]; exact cB_of he632211
          have c9_632228 : cB (F632206 (γ0 9 19)) = f632209 := by rw [← congrFun (rSk_9 hs632218) 19]; exact cB_of he632213
          exact ih2_625441 P625427 F632206 gm_F625428 el_F625428 z632224 (gB_w bz632224 (by decide) (by decide)) hT632216 hs632218 hph625431 hB625432 (by omega) (by omega) (by omega) (by omega) (by omega) (by rw [c9_632227, c9_632228, ac632225]; exact spI_n (h2 := fun _ => 0) hf632209 (by decide) (by omega) ez632224 cq625508) pl632219 kp632215 mk632214 (fun k e1 e2 e3 e4 ht => kt2_625442 k e1 e2 e3 e4 (fun R c1 c2 c3 c4 c5 => c2 P625427 F625428 gm_F625428 el_F625428 g625426 f625503 f632209 F632206 f625499 z632221 z632224 k e1 e2 e3 e4 bg625426 hT625429 hs625430 x625433 x625434 x625435 x625436 x625437 x625438 x625439 x625440 x625441 r632204 fq632205 he625502 hf632209 n632208 he632213 fq632220 he632211 hz632221 bz632221 r632223 ez632224 (ht R c1 c2 c3 c4 c5))) (by omega)
        · have r632229 : z632221.toInt ≠ 0 := gj_neq hc632222 (show Int32.toInt 0 = 0 by decide)
          have bz632221' : gB z632221 1 1 := gB_t1 bz632221 r632229
          refine G_aload_n 1 dr_cX17_spill_25 rfl ?_
          have fq632230 : fR (F632206 q590254) 17 = (gm_F625428 9 17) := by rw [he632210]; rfl
          refine Gp_get 17 hm625447 he632210 dr_cX17_spill_26 (gk_X17 D I) (Nat.le_of_ble_eq_true rfl) wr_7_91 rfl ?_
          refine G_iload_n 0 dr_cX17_spill_29 rfl ?_
          refine Gp_iald 0 hm625505 he632212 dr_cX17_spill_30 rfl (gB_in bg625426' (by decide) (by decide)) (G_nam fun z632231 hz632231 => ?_)
          have bz632231 : gB z632231 (-1) 31 := by rw [hz632231]; exact bf625507 _
          refine G_if_lt 37 dr_cX17_spill_31 (by decide +kernel) (fun hc632232 => ?_) (fun hc632232 => ?_)
          · have r632233 : z632231.toInt < 0 := gj_lt hc632232 (show Int32.toInt 0 = 0 by decide)
            have bz632231' : gB z632231 (-1) (-1) := ⟨by omega, by omega⟩
            refine G_iload_n 0 dr_cX17_spill_37 rfl ?_
            refine G_bipush 100 dr_cX17_spill_38 (by decide +kernel) ?_
            refine G_icmp_lt 45 dr_cX17_spill_40 (by decide +kernel) (fun hc632234 => ?_) (fun hc632234 => ?_)
            · have r632235 : g625426.toInt < 100 := gj_lt hc632234 (show Int32.toInt 100 = 100 by decide)
              have bg625426'' : gB g625426 0 99 := ⟨by omega, by omega⟩
              refine G_aload_n 1 dr_cX17_spill_45 rfl ?_
              have fq632236 : fR (F632206 q590254) 19 = (gm_F625428 9 19) := by rw [he632210]; rfl
              refine Gp_get 19 hm625447 he632210 dr_cX17_spill_46 (gk_X17 D I) (Nat.le_of_ble_eq_true rfl) wr_7_93 rfl ?_
              refine G_iload_n 0 dr_cX17_spill_49 rfl ?_
              refine G_aload_n 1 dr_cX17_spill_50 rfl ?_
              have fq632237 : fI (F632206 q590254) 11 = p625453 := by rw [he632210]; rfl
              refine Gp_get 11 hm625447 he632210 dr_cX17_spill_51 (gk_X17 D I) (Nat.le_of_ble_eq_true rfl) wr_7_85 rfl ?_
              refine Gp_iast 0 hm625501 he632213 dr_cX17_spill_54 rfl (gB_in bg625426'' (by decide) (by decide)) (fun F632238 e632239 n632240 => ?_)
              obtain ⟨f632241, hf632241⟩ : ∃ z, z = upd f632209 g625426.toNatClampNeg p625453 := ⟨_, rfl⟩
              rw [← hf632241] at e632239
              have he632242 : F632238 q590254 = .inr (22, [.ref (gm_F625428 9 0), .ref (gm_F625428 9 1), .ref (gm_F625428 9 2), .ref (gm_F625428 9 3), .ref (gm_F625428 9 4), .ref (gm_F625428 9 5), .ref (gm_F625428 9 6), .ref (gm_F625428 9 7), .ref (gm_F625428 9 8), .int p625451, .int p625452, .int p625453, .int p625454, .int p625455, .int p625456, .ref (gm_F625428 9 15), .ref (gm_F625428 9 16), .ref (gm_F625428 9 17), .ref (gm_F625428 9 18), .ref (gm_F625428 9 19), .ref (gm_F625428 9 20), .ref (gm_F625428 9 21), .ref (gm_F625428 9 22), .int p625457, .int p625458, .int p625459, .int p625460, .int p625461, .ref q625449, .ref (gm_F625428 9 29), .int p625462, .ref (gm_F625428 9 31), .int p625463, .int p625464, .int p625465, .ref q625450]) := (n632240 q590254 (rn_oa he632210 he632213)).trans he632210
              have he632243 : F632238 (gm_F625428 9 3) = .inl (I .boolean, 2000, .inl f625499) := (n632240 (gm_F625428 9 3) (rn_ty ht625471 ht625481 (by decide))).trans he632211
              have he632244 : F632238 (gm_F625428 9 17) = .inl (I .int, 2000, .inl f625507) := (n632240 (gm_F625428 9 17) (rn_ty ht625479 ht625481 (by decide))).trans he632212
              have he632245 : F632238 (gm_F625428 9 19) = .inl (I .int, 2000, .inl f632241) := e632239
              have mk632246 : mKp (F590253 q590254) (F632238 q590254) := mKp_tr mk632214 (mKp_eq (n632240 q590254 (rn_ty ht625443 ht625481 (by decide))))
              have kp632247 : F632238 (γ0 9 3) = F590253 (γ0 9 3) := (n632240 (γ0 9 3) (rn_ty (rSk_k hs632218 k0_3 (by decide) (by decide)) ht625481 (by decide))).trans kp632215
              have bf632241 : gF f632241 (-1) 1999 := gF_upd hf632241 bf632209 (gB_w bp625453 (by decide) (by decide))
              have hT632248 : RS D I P625427 F632238 gm_F625428 el_F625428 := RS_set hT632216 n632240 ht625481 (by decide) ⟨f632241, he632245, bf632241⟩
              have of632249 : ∀ b, b ≠ (gm_F625428 9 19) → F632238 b = F625428 b := fun b hb => (n632240 b hb).trans (n632208 b hb)
              have hs632250 := rSk_put hs632218 hT632248 n632240 ht625481 (by decide) (by decide) (Or.inr (Or.inr (by decide)))
              have pl632251 := rPl_fr hT632216 ht625444 hf625445 pl632219 (fun b hb _ => n632240 b (rn_ty (show rKd gm_F625428 b 1 from hb) ht625481 (by decide)))
              have cq632252 := spI_s (r1 := g625426.toInt + 1) (s1 := p625453.toInt + 1) hf632209 hf632241 rfl (by omega) (by omega) rfl (by omega) (sd_of hz632221 (by omega) (by omega) (by omega)) rfl cq625508
              have r632253 := cq632252.2
              have r632254 := cq625508.1
              have r632255 := x590259
              rw [c9_625500] at r632255
              have bp625453' : gB p625453 0 99 := ⟨by omega, by omega⟩
              refine G_aload_n 1 dr_cX17_spill_55 rfl ?_
              refine G_dup dr_cX17_spill_56 rfl ?_
              have fq632256 : fI (F632238 q590254) 11 = p625453 := by rw [he632242]; rfl
              refine Gp_get 11 hm625447 he632242 dr_cX17_spill_57 (gk_X17 D I) (Nat.le_of_ble_eq_true rfl) wr_7_85 rfl ?_
              refine G_iconst 1 dr_cX17_spill_60 (by decide +kernel) ?_
              refine G_iadd dr_cX17_spill_61 (G_nam fun z632257 hz632257 => ?_)
              have ez632257 : z632257.toInt = p625453.toInt + 1 := by rw [gI_add hz632257 bp625453' (gBl (show Int32.toInt 1 = 1 by decide)) (by decide) (by decide), show Int32.toInt 1 = 1 from by decide]
              have bz632257 : gB z632257 1 100 := gB_add (gI_add hz632257 bp625453' (gBl (show Int32.toInt 1 = 1 by decide)) (by decide) (by decide)) bp625453' (gBl (show Int32.toInt 1 = 1 by decide)) (by decide) (by decide)
              refine Gp_put 11 hm625447 he632242 dr_cX17_spill_62 (gk_X17 D I) (Nat.le_of_ble_eq_true rfl) wr_7_85 rfl rfl rfl (Nat.le_of_ble_eq_true rfl) (fun F632258 e632259 n632260 => ?_)
              have he632261 : F632258 (gm_F625428 9 3) = .inl (I .boolean, 2000, .inl f625499) := (n632260 (gm_F625428 9 3) (rn_ao he632243 he632242)).trans he632243
              have he632262 : F632258 (gm_F625428 9 19) = .inl (I .int, 2000, .inl f632241) := (n632260 (gm_F625428 9 19) (rn_ao he632245 he632242)).trans he632245
              have he632263 : F632258 (gm_F625428 9 17) = .inl (I .int, 2000, .inl f625507) := (n632260 (gm_F625428 9 17) (rn_ao he632244 he632242)).trans he632244
              have he632264 : F632258 q590254 = .inr (22, [.ref (gm_F625428 9 0), .ref (gm_F625428 9 1), .ref (gm_F625428 9 2), .ref (gm_F625428 9 3), .ref (gm_F625428 9 4), .ref (gm_F625428 9 5), .ref (gm_F625428 9 6), .ref (gm_F625428 9 7), .ref (gm_F625428 9 8), .int p625451, .int p625452, .int z632257, .int p625454, .int p625455, .int p625456, .ref (gm_F625428 9 15), .ref (gm_F625428 9 16), .ref (gm_F625428 9 17), .ref (gm_F625428 9 18), .ref (gm_F625428 9 19), .ref (gm_F625428 9 20), .ref (gm_F625428 9 21), .ref (gm_F625428 9 22), .int p625457, .int p625458, .int p625459, .int p625460, .int p625461, .ref q625449, .ref (gm_F625428 9 29), .int p625462, .ref (gm_F625428 9 31), .int p625463, .int p625464, .int p625465, .ref q625450]) := e632259
              have mk632265 : mKp (F590253 q590254) (F632258 q590254) := mKp_tr mk632246 (by rw [he632242, he632264]; exact ⟨rfl, rfl⟩)
              have kp632266 : F632258 (γ0 9 3) = F590253 (γ0 9 3) := (n632260 (γ0 9 3) (rn_ty (rSk_k hs632250 k0_3 (by decide) (by decide)) ht625443 (by decide))).trans kp632247
              have kp632267 : F632258 (γ0 9 19) = F632238 (γ0 9 19) := n632260 (γ0 9 19) (rn_ty (rSk_k hs632250 k0_19 (by decide) (by decide)) ht625443 (by decide))
              have fq632268 : F632258 q590254 = cF (F632238 q590254) 11 (.int z632257) := by rw [he632264, he632242]; rfl
              have hT632269 : RS D I P625427 F632258 gm_F625428 el_F625428 := RS_set hT632248 n632260 ht625443 (by decide) ⟨q625449, q625450, p625451, p625452, z632257, p625454, p625455, p625456, p625457, p625458, p625459, p625460, p625461, p625462, p625463, p625464, p625465, he632264, ⟨(hB625492.1), (hB625492.2.1), (gB_w bz632257 (by decide) (by decide)), bp625456, (hB625492.2.2.2.2.1), (hB625492.2.2.2.2.2.1), (hB625492.2.2.2.2.2.2.1), (hB625492.2.2.2.2.2.2.2.1), (hB625492.2.2.2.2.2.2.2.2)⟩, ht625466, ht625467, ht625468, ht625469, ht625470, ht625471, ht625472, ht625473, ht625474, ht625475, ht625476, ht625477, ht625478, ht625479, ht625480, ht625481, ht625482, ht625483, ht625484, ht625485, ht625486, ht625487, ht625488, ht625489, hB625493⟩
              have hs632271 := rSk_put hs632250 hT632269 n632260 ht625443 (by decide) (by decide) (Or.inr (Or.inr (by decide)))
              have pl632272 := rPl_fr hT632248 ht625444 hf625445 pl632251 (fun b hb _ => n632260 b (rn_ty (show rKd gm_F625428 b 1 from hb) ht625443 (by decide)))
              obtain ⟨z632273, hz632273⟩ : ∃ z : Int32, z = g625426 + Int32.ofInt 1 := ⟨_, rfl⟩
              have ez632273 : z632273.toInt = g625426.toInt + 1 := gI_inc hz632273 (by decide) bg625426'' (by decide) (by decide)
              have bz632273 : gB z632273 1 100 := ⟨by omega, by omega⟩
              refine G_iinc (L' := [(2, .int z632273), (0, .ref q590254), (1, .ref q590255)]) z632273 0 dr_cX17_spill_65 rfl hz632273.symm (Nat.le_of_ble_eq_true rfl) rfl ?_
              refine G_goto 2 dr_cX17_spill_68 (by decide +kernel) ?_
              have ac632274 : (fI (F632258 q590254) 11).toInt = z632257.toInt := by rw [he632264]; rfl
              have ac632275 : (fI (F632258 q590254) 14).toInt = p625456.toInt := by rw [he632264]; rfl
              have c9_632276 : cB (F590253 (γ0 9 3)) = f625499 := by rw [← kp632266, ← congrFun (rSk_9 hs632271) 3]; exact cB_of he632261
              have c9_632277 : cB (F632258 (γ0 9 19)) = f632241 := by rw [← congrFun (rSk_9 hs632271) 19]; exact cB_of he632262
              exact ih2_625441 P625427 F632258 gm_F625428 el_F625428 z632273 (gB_w bz632273 (by decide) (by decide)) hT632269 hs632271 hph625431 hB625432 (by omega) (by omega) (by omega) (by omega) (by omega) (by rw [c9_632276, c9_632277, ac632274, ez632273, ez632257]; exact cq632252.1) pl632272 kp632266 mk632265 (fun k e1 e2 e3 e4 ht => kt2_625442 k e1 e2 e3 e4 (fun R c1 c2 c3 c4 c5 => c3 P625427 F625428 gm_F625428 el_F625428 g625426 f625503 f632209 F632206 f625499 z632221 f625507 z632231 p625453 f632241 F632238 z632257 F632258 z632273 k e1 e2 e3 e4 bg625426 hT625429 hs625430 x625433 x625434 x625435 x625436 x625437 x625438 x625439 x625440 x625441 r632204 fq632205 he625502 hf632209 n632208 he632213 fq632220 he632211 hz632221 bz632221 r632229 fq632230 he632212 hz632231 bz632231 r632233 r632235 fq632236 fq632237 he632213 hf632241 n632240 he632245 fq632256 ez632257 n632260 fq632268 ez632273 (ht R c1 c2 c3 c4 c5))) (by omega)
            · have r632278 : 100 ≤ g625426.toInt := gj_nlt hc632234 (show Int32.toInt 100 = 100 by decide)
              have bg625426'' : gB g625426 100 1999 := ⟨by omega, by omega⟩
              have hx632279 : tl_RModel_spill_2 D I γ0 el0 f P590252 F590253 q590254 q590255 P590252 F590253 gm_0 el_0 (0 : Int32) 43 F632206 P625427 gm_F625428 el_F625428 := kt2_625442 43 F632206 P625427 gm_F625428 el_F625428 (fun R c1 c2 c3 c4 c5 => c4 P625427 F625428 gm_F625428 el_F625428 g625426 f625503 f632209 F632206 f625499 z632221 f625507 z632231 bg625426 hT625429 hs625430 x625433 x625434 x625435 x625436 x625437 x625438 x625439 x625440 x625441 r632204 fq632205 he625502 hf632209 n632208 he632213 fq632220 he632211 hz632221 bz632221 r632229 fq632230 he632212 hz632231 bz632231 r632233 r632278)
              refine G_iconst 0 dr_cX17_spill_43 (by decide +kernel) ?_
              exact G_zretA FieldType.boolean dr_cX17_spill_44 rfl rfl (rm_zc pk625446) (rm_zs pk625446) ⟨P625427, F632206, gm_F625428, el_F625428, 0, rfl, rfl, hs632218, (rm_pp hph625431), hB625432, (gB_w (gBl (show Int32.toInt 0 = 0 by decide)) (by decide) (by decide)), (by have qa0 : Int32.toInt 0 = 0 := (by decide); omega), (Or.inl (by decide)), kp632215, mk632214, (fun R c1 c2 c3 c4 c5 c6 => c6 gm_0 el_0 F632206 P625427 gm_F625428 el_F625428 hγ0 hel0 hx632279)⟩
          · have r632280 : 0 ≤ z632231.toInt := gj_nlt hc632232 (show Int32.toInt 0 = 0 by decide)
            have bz632231' : gB z632231 0 31 := ⟨by omega, by omega⟩
            refine G_goto 65 dr_cX17_spill_34 (by decide +kernel) ?_
            obtain ⟨z632281, hz632281⟩ : ∃ z : Int32, z = g625426 + Int32.ofInt 1 := ⟨_, rfl⟩
            have ez632281 : z632281.toInt = g625426.toInt + 1 := gI_inc hz632281 (by decide) bg625426' (by decide) (by decide)
            have bz632281 : gB z632281 1 2000 := ⟨by omega, by omega⟩
            refine G_iinc (L' := [(2, .int z632281), (0, .ref q590254), (1, .ref q590255)]) z632281 0 dr_cX17_spill_65 rfl hz632281.symm (Nat.le_of_ble_eq_true rfl) rfl ?_
            refine G_goto 2 dr_cX17_spill_68 (by decide +kernel) ?_
            have ac632282 : (fI (F632206 q590254) 11).toInt = p625453.toInt := by rw [he632210]; rfl
            have ac632283 : (fI (F632206 q590254) 14).toInt = p625456.toInt := by rw [he632210]; rfl
            have c9_632284 : cB (F590253 (γ0 9 3)) = f625499 := by rw [← kp632215, ← congrFun (rSk_9 hs632218) 3]; exact cB_of he632211
            have c9_632285 : cB (F632206 (γ0 9 19)) = f632209 := by rw [← congrFun (rSk_9 hs632218) 19]; exact cB_of he632213
            exact ih2_625441 P625427 F632206 gm_F625428 el_F625428 z632281 (gB_w bz632281 (by decide) (by decide)) hT632216 hs632218 hph625431 hB625432 (by omega) (by omega) (by omega) (by omega) (by omega) (by rw [c9_632284, c9_632285, ac632282]; exact spI_n (h2 := fun _ => 0) hf632209 (by decide) (by omega) ez632281 cq625508) pl632219 kp632215 mk632214 (fun k e1 e2 e3 e4 ht => kt2_625442 k e1 e2 e3 e4 (fun R c1 c2 c3 c4 c5 => c5 P625427 F625428 gm_F625428 el_F625428 g625426 f625503 f632209 F632206 f625499 z632221 f625507 z632231 z632281 k e1 e2 e3 e4 bg625426 hT625429 hs625430 x625433 x625434 x625435 x625436 x625437 x625438 x625439 x625440 x625441 r632204 fq632205 he625502 hf632209 n632208 he632213 fq632220 he632211 hz632221 bz632221 r632229 fq632230 he632212 hz632231 bz632231 r632280 ez632281 (ht R c1 c2 c3 c4 c5))) (by omega)
  exact hlp2_625441 (((2001 : Int) - 0).toNat + 1) P590252 F590253 gm_0 el_0 0 (gB_w (gBl (show Int32.toInt 0 = 0 by decide)) (by decide) (by decide)) hT hst hph hB (by have qa0 : Int32.toInt 0 = 0 := (by decide); omega) (by have qa0 : Int32.toInt 0 = 0 := (by decide); omega) (by have qa0 : Int32.toInt 0 = 0 := (by decide); omega) (by have qa0 : Int32.toInt 0 = 0 := (by decide); omega) (by have qa0 : Int32.toInt 0 = 0 := (by decide); omega) (by have qa : Int32.toInt 0 = 0 := (by decide); rw [qa]; exact spI_0) (by rw [hγ0, hel0]; exact x590260) rfl mKp_rf (fun k e1 e2 e3 e4 ht => ht) (Nat.lt_succ_self _)
/- tl_RModel_giveAll_110: P, F, gm, el, l7; out: F, P, gm, el -/
def tl_RModel_giveAll_110 (D : va_G) (I : FieldType → ClassId) (γ0 el0 : Nat → Nat → Nat) (f : Nat) (P : List Nat) (F : Nat → va_E) (q0 : Nat) (c1 : Nat → va_E) (q1 : Nat) (l5_1 : Int32) (c2 : Nat) (s1 : List Nat) (s2 : Nat → va_E) (s3 : Nat → Nat → Nat) (s4 : Nat → Nat → Nat) (s5 : Int32) (k : Nat) (e1 : Nat → va_E) (e2 : List Nat) (e3 : Nat → Nat → Nat) (e4 : Nat → Nat → Nat) : Prop := ∀ R : (List Nat) → (Nat → va_E) → (Nat → Nat → Nat) → (Nat → Nat → Nat) → (Int32) → Nat → (Nat → va_E) → (List Nat) → (Nat → Nat → Nat) → (Nat → Nat → Nat) → Prop,
  (∀ (P_2 : List Nat) (F_2 : Nat → va_E) (gm_2 : Nat → Nat → Nat) (el_2 : Nat → Nat → Nat) (l7_2 : Int32) (x1 : Nat) (x2 : Int32), gB l7_2 0 1000001 → RS D I P_2 F_2 gm_2 el_2 → rSk f [101] ([1, 3, 5, 6, 8, 9, 101] ++ npk) D I P F γ0 el0 P_2 F_2 gm_2 el_2 → gm_2 6 f = γ0 6 f → ((gm_2 7 f : Nat) : Int) = (fI (F_2 q0) 11).toInt → 100 ≤ (fI (F_2 q0) 14).toInt → (F_2 (γ0 9 17) = c1 (γ0 9 17)) → rPl gm_2 el_2 F_2 q1 (gm_2 6 f) (cqR (cB (c1 (γ0 9 17))) (l5_1.toInt : Int).toNat (l7_2.toInt : Int).toNat) → (l7_2.toInt : Int) ≤ gm_2 2 (gm_2 14 c2) + 1 → (l5_1.toInt : Int) < gm_2 6 f → mKp (F q0) (F_2 q0) → fR (F_2 c2) 0 = x1 → x2.toInt = (gm_2 2 x1 : Int) → fI (F_2 x1) 2 = x2 → x2.toInt < l7_2.toInt → R P_2 F_2 gm_2 el_2 l7_2 167 F_2 P_2 gm_2 el_2) →
  (∀ (P_2 : List Nat) (F_2 : Nat → va_E) (gm_2 : Nat → Nat → Nat) (el_2 : Nat → Nat → Nat) (l7_2 : Int32) (x1 : Nat) (x2 : Int32) (x3 : Nat) (x4 : Nat → va_E) (x5 : Int32) (k : Nat) (e1 : Nat → va_E) (e2 : List Nat) (e3 : Nat → Nat → Nat) (e4 : Nat → Nat → Nat), gB l7_2 0 1000001 → RS D I P_2 F_2 gm_2 el_2 → rSk f [101] ([1, 3, 5, 6, 8, 9, 101] ++ npk) D I P F γ0 el0 P_2 F_2 gm_2 el_2 → gm_2 6 f = γ0 6 f → ((gm_2 7 f : Nat) : Int) = (fI (F_2 q0) 11).toInt → 100 ≤ (fI (F_2 q0) 14).toInt → (F_2 (γ0 9 17) = c1 (γ0 9 17)) → rPl gm_2 el_2 F_2 q1 (gm_2 6 f) (cqR (cB (c1 (γ0 9 17))) (l5_1.toInt : Int).toNat (l7_2.toInt : Int).toNat) → (l7_2.toInt : Int) ≤ gm_2 2 (gm_2 14 c2) + 1 → (l5_1.toInt : Int) < gm_2 6 f → mKp (F q0) (F_2 q0) → fR (F_2 c2) 0 = x1 → x2.toInt = (gm_2 2 x1 : Int) → fI (F_2 x1) 2 = x2 → l7_2.toInt ≤ x2.toInt → x2.toInt = (gm_2 2 x1 : Int) → x2.toInt ≤ l7_2.toInt → fR (F_2 c2) 1 = x3 → RS D I P_2 x4 gm_2 el_2 → rStr gm_2 [1] F_2 x4 → ((∀ b, b ≠ x3 → x4 b = F_2 b)) → (x4 q0 = F_2 q0) → (x4 (gm_2 9 3) = F_2 (gm_2 9 3)) → (x4 (gm_2 9 17) = F_2 (gm_2 9 17)) → tr_RModel_coloured D I gm_2 el_2 F_2 q0 x3 x4 → x5.toInt = l7_2.toInt + 1 → R P_2 x4 gm_2 el_2 x5 k e1 e2 e3 e4 → R P_2 F_2 gm_2 el_2 l7_2 k e1 e2 e3 e4) →
  (∀ (P_2 : List Nat) (F_2 : Nat → va_E) (gm_2 : Nat → Nat → Nat) (el_2 : Nat → Nat → Nat) (l7_2 : Int32) (x1 : Nat) (x2 : Int32) (x3 : Nat) (x4 : Nat → va_E) (x5 : Int32) (k : Nat) (e1 : Nat → va_E) (e2 : List Nat) (e3 : Nat → Nat → Nat) (e4 : Nat → Nat → Nat), gB l7_2 0 1000001 → RS D I P_2 F_2 gm_2 el_2 → rSk f [101] ([1, 3, 5, 6, 8, 9, 101] ++ npk) D I P F γ0 el0 P_2 F_2 gm_2 el_2 → gm_2 6 f = γ0 6 f → ((gm_2 7 f : Nat) : Int) = (fI (F_2 q0) 11).toInt → 100 ≤ (fI (F_2 q0) 14).toInt → (F_2 (γ0 9 17) = c1 (γ0 9 17)) → rPl gm_2 el_2 F_2 q1 (gm_2 6 f) (cqR (cB (c1 (γ0 9 17))) (l5_1.toInt : Int).toNat (l7_2.toInt : Int).toNat) → (l7_2.toInt : Int) ≤ gm_2 2 (gm_2 14 c2) + 1 → (l5_1.toInt : Int) < gm_2 6 f → mKp (F q0) (F_2 q0) → fR (F_2 c2) 0 = x1 → x2.toInt = (gm_2 2 x1 : Int) → fI (F_2 x1) 2 = x2 → l7_2.toInt ≤ x2.toInt → x2.toInt = (gm_2 2 x1 : Int) → l7_2.toInt < x2.toInt → x3 = el_2 x1 l7_2.toInt.toNat → tr_RArrayList_get l7_2 x2 → RS D I P_2 x4 gm_2 el_2 → rStr gm_2 [1] F_2 x4 → ((∀ b, b ≠ x3 → x4 b = F_2 b)) → (x4 q0 = F_2 q0) → (x4 (gm_2 9 3) = F_2 (gm_2 9 3)) → (x4 (gm_2 9 17) = F_2 (gm_2 9 17)) → tr_RModel_coloured D I gm_2 el_2 F_2 q0 x3 x4 → x5.toInt = l7_2.toInt + 1 → R P_2 x4 gm_2 el_2 x5 k e1 e2 e3 e4 → R P_2 F_2 gm_2 el_2 l7_2 k e1 e2 e3 e4) →
  R s1 s2 s3 s4 s5 k e1 e2 e3 e4
/- tl_RModel_giveAll_90: P, F, gm, el, l5; out: F, P, gm, el -/
def tl_RModel_giveAll_90 (D : va_G) (I : FieldType → ClassId) (γ0 el0 : Nat → Nat → Nat) (f : Nat) (P : List Nat) (F : Nat → va_E) (q0 : Nat) (c1 : Nat → va_E) (q1 : Nat) (s1 : List Nat) (s2 : Nat → va_E) (s3 : Nat → Nat → Nat) (s4 : Nat → Nat → Nat) (s5 : Int32) (k : Nat) (e1 : Nat → va_E) (e2 : List Nat) (e3 : Nat → Nat → Nat) (e4 : Nat → Nat → Nat) : Prop := ∀ R : (List Nat) → (Nat → va_E) → (Nat → Nat → Nat) → (Nat → Nat → Nat) → (Int32) → Nat → (Nat → va_E) → (List Nat) → (Nat → Nat → Nat) → (Nat → Nat → Nat) → Prop,
  (∀ (P_1 : List Nat) (F_1 : Nat → va_E) (gm_1 : Nat → Nat → Nat) (el_1 : Nat → Nat → Nat) (l5_1 : Int32) (x1 : Int32), gB l5_1 0 1000000 → RS D I P_1 F_1 gm_1 el_1 → rSk f [101] ([1, 3, 5, 6, 8, 9, 101] ++ npk) D I P F γ0 el0 P_1 F_1 gm_1 el_1 → gm_1 6 f = γ0 6 f → ((gm_1 7 f : Nat) : Int) = (fI (F_1 q0) 11).toInt → 100 ≤ (fI (F_1 q0) 14).toInt → (F_1 (γ0 9 17) = c1 (γ0 9 17)) → rPl gm_1 el_1 F_1 q1 (gm_1 6 f) (cqR (cB (c1 (γ0 9 17))) (l5_1.toInt : Int).toNat 0) → mKp (F q0) (F_1 q0) → fI (F_1 q1) 3 = x1 → x1.toInt ≤ l5_1.toInt → R P_1 F_1 gm_1 el_1 l5_1 173 F_1 P_1 gm_1 el_1) →
  (∀ (P_1 : List Nat) (F_1 : Nat → va_E) (gm_1 : Nat → Nat → Nat) (el_1 : Nat → Nat → Nat) (l5_1 : Int32) (x1 : Int32) (x2 : Nat) (x3 : Nat) (x4 : Int32) (x5 : Nat → va_E) (x6 : List Nat) (x7 : Nat → Nat → Nat) (x8 : Nat → Nat → Nat) (x9 : Int32) (k : Nat) (e1 : Nat → va_E) (e2 : List Nat) (e3 : Nat → Nat → Nat) (e4 : Nat → Nat → Nat), gB l5_1 0 1000000 → RS D I P_1 F_1 gm_1 el_1 → rSk f [101] ([1, 3, 5, 6, 8, 9, 101] ++ npk) D I P F γ0 el0 P_1 F_1 gm_1 el_1 → gm_1 6 f = γ0 6 f → ((gm_1 7 f : Nat) : Int) = (fI (F_1 q0) 11).toInt → 100 ≤ (fI (F_1 q0) 14).toInt → (F_1 (γ0 9 17) = c1 (γ0 9 17)) → rPl gm_1 el_1 F_1 q1 (gm_1 6 f) (cqR (cB (c1 (γ0 9 17))) (l5_1.toInt : Int).toNat 0) → mKp (F q0) (F_1 q0) → fI (F_1 q1) 3 = x1 → l5_1.toInt < x1.toInt → fR (F_1 q1) 0 = x2 → x3 = el_1 x2 l5_1.toInt.toNat → fI (F_1 x2) 2 = x4 → tr_RCode_get l5_1 x4 → tl_RModel_giveAll_110 D I γ0 el0 f P F q0 c1 q1 l5_1 x3 P_1 F_1 gm_1 el_1 (0 : Int32) 167 x5 x6 x7 x8 → x9.toInt = l5_1.toInt + 1 → R x6 x5 x7 x8 x9 k e1 e2 e3 e4 → R P_1 F_1 gm_1 el_1 l5_1 k e1 e2 e3 e4) →
  R s1 s2 s3 s4 s5 k e1 e2 e3 e4
/- tl_RModel_giveAll_52: P, F, gm, el; out: F, P, gm, el -/
def tl_RModel_giveAll_52 (D : va_G) (I : FieldType → ClassId) (γ0 el0 : Nat → Nat → Nat) (f : Nat) (P : List Nat) (F : Nat → va_E) (q0 : Nat) (q1 : Nat) (a2 : Int32) (s1 : List Nat) (s2 : Nat → va_E) (s3 : Nat → Nat → Nat) (s4 : Nat → Nat → Nat) (k : Nat) (e1 : Nat → va_E) (e2 : List Nat) (e3 : Nat → Nat → Nat) (e4 : Nat → Nat → Nat) : Prop := ∀ R : (List Nat) → (Nat → va_E) → (Nat → Nat → Nat) → (Nat → Nat → Nat) → Nat → (Nat → va_E) → (List Nat) → (Nat → Nat → Nat) → (Nat → Nat → Nat) → Prop,
  (∀ (P_2 : List Nat) (F_2 : Nat → va_E) (gm_2 : Nat → Nat → Nat) (el_2 : Nat → Nat → Nat) (x1 : List Nat) (x2 : Nat → va_E) (x3 : Nat → Nat → Nat) (x4 : Nat → Nat → Nat) (x5 : Int32), RS D I P_2 F_2 gm_2 el_2 → rSk f [101] ([1, 3, 5, 6, 8, 9, 101] ++ npk) D I P F γ0 el0 P_2 F_2 gm_2 el_2 → gm_2 6 f = γ0 6 f → ((gm_2 7 f : Nat) : Int) = (fI (F_2 q0) 11).toInt → 100 ≤ (fI (F_2 q0) 14).toInt → rNI gm_2 el_2 F_2 q1 (gm_2 6 f) (fI (F_2 q0) 11).toInt → rGr gm_2 el_2 F_2 q1 (gm_2 6 f) (cB (F_2 (γ0 9 3))) (vA (gm_2 6 f)) → mKp (F q0) (F_2 q0) → rSk f [] ([1, 3, 6] ++ npk) D I P_2 F_2 gm_2 el_2 x1 x2 x3 x4 → x3 6 f = gm_2 6 f → x3 7 f = gm_2 7 f → x3 16 f = gm_2 16 f → x3 18 f = gm_2 18 f → ((x5.toInt = 0 ∨ rsum (fun i => x3 2 (x3 14 (x4 (x3 14 q1) i))) (x3 6 f) + 1 ≤ rsum (fun i => gm_2 2 (gm_2 14 (el_2 (gm_2 14 q1) i))) (gm_2 6 f))) → ((∀ N : Nat → Prop, rPl gm_2 el_2 F_2 q1 (gm_2 6 f) (fun _ _ => rNx N) → rPl x3 x4 x2 q1 (x3 6 f) (fun _ _ => rNx N))) → (fI (x2 q0) 11).toInt = (fI (F_2 q0) 11).toInt → (fI (x2 q0) 14).toInt = (fI (F_2 q0) 14).toInt → ((gIp (x5.toInt = 0) (x3 = gm_2 ∧ x4 = el_2 ∧ x2 = F_2))) → mKp (F_2 q0) (x2 q0) → tr_RModel_merge D I gm_2 el_2 f P_2 F_2 q0 q1 a2 x5 x1 x2 x3 x4 → x5.toInt = 0 → R P_2 F_2 gm_2 el_2 70 x2 x1 x3 x4) →
  (∀ (P_2 : List Nat) (F_2 : Nat → va_E) (gm_2 : Nat → Nat → Nat) (el_2 : Nat → Nat → Nat) (x1 : List Nat) (x2 : Nat → va_E) (x3 : Nat → Nat → Nat) (x4 : Nat → Nat → Nat) (x5 : Int32) (x6 : Nat → va_E) (k : Nat) (e1 : Nat → va_E) (e2 : List Nat) (e3 : Nat → Nat → Nat) (e4 : Nat → Nat → Nat), RS D I P_2 F_2 gm_2 el_2 → rSk f [101] ([1, 3, 5, 6, 8, 9, 101] ++ npk) D I P F γ0 el0 P_2 F_2 gm_2 el_2 → gm_2 6 f = γ0 6 f → ((gm_2 7 f : Nat) : Int) = (fI (F_2 q0) 11).toInt → 100 ≤ (fI (F_2 q0) 14).toInt → rNI gm_2 el_2 F_2 q1 (gm_2 6 f) (fI (F_2 q0) 11).toInt → rGr gm_2 el_2 F_2 q1 (gm_2 6 f) (cB (F_2 (γ0 9 3))) (vA (gm_2 6 f)) → mKp (F q0) (F_2 q0) → rSk f [] ([1, 3, 6] ++ npk) D I P_2 F_2 gm_2 el_2 x1 x2 x3 x4 → x3 6 f = gm_2 6 f → x3 7 f = gm_2 7 f → x3 16 f = gm_2 16 f → x3 18 f = gm_2 18 f → ((x5.toInt = 0 ∨ rsum (fun i => x3 2 (x3 14 (x4 (x3 14 q1) i))) (x3 6 f) + 1 ≤ rsum (fun i => gm_2 2 (gm_2 14 (el_2 (gm_2 14 q1) i))) (gm_2 6 f))) → ((∀ N : Nat → Prop, rPl gm_2 el_2 F_2 q1 (gm_2 6 f) (fun _ _ => rNx N) → rPl x3 x4 x2 q1 (x3 6 f) (fun _ _ => rNx N))) → (fI (x2 q0) 11).toInt = (fI (F_2 q0) 11).toInt → (fI (x2 q0) 14).toInt = (fI (F_2 q0) 14).toInt → ((gIp (x5.toInt = 0) (x3 = gm_2 ∧ x4 = el_2 ∧ x2 = F_2))) → mKp (F_2 q0) (x2 q0) → tr_RModel_merge D I gm_2 el_2 f P_2 F_2 q0 q1 a2 x5 x1 x2 x3 x4 → x5.toInt ≠ 0 → RS D I x1 x6 x3 x4 → rStr x3 [] x2 x6 → (gIp ((0 : Int) = 0) (rGr x3 x4 x2 q1 (x3 6 (x3 1 q1)) (cB (x6 (x3 9 3))) (vA (x3 6 (x3 1 q1))))) → (x6 q0 = x2 q0) → tr_RModel_graph D I x3 x4 x1 x2 q0 q1 (0 : Int32) x6 → R x1 x6 x3 x4 k e1 e2 e3 e4 → R P_2 F_2 gm_2 el_2 k e1 e2 e3 e4) →
  R s1 s2 s3 s4 k e1 e2 e3 e4
/- tl_RModel_giveAll_28: P, F, gm, el, l3; out: F, P, gm, el, l3 -/
def tl_RModel_giveAll_28 (D : va_G) (I : FieldType → ClassId) (γ0 el0 : Nat → Nat → Nat) (f : Nat) (P : List Nat) (F : Nat → va_E) (q0 : Nat) (q1 : Nat) (a2 : Int32) (s1 : List Nat) (s2 : Nat → va_E) (s3 : Nat → Nat → Nat) (s4 : Nat → Nat → Nat) (s5 : Int32) (k : Nat) (e1 : Nat → va_E) (e2 : List Nat) (e3 : Nat → Nat → Nat) (e4 : Nat → Nat → Nat) (e5 : Int32) : Prop := ∀ R : (List Nat) → (Nat → va_E) → (Nat → Nat → Nat) → (Nat → Nat → Nat) → (Int32) → Nat → (Nat → va_E) → (List Nat) → (Nat → Nat → Nat) → (Nat → Nat → Nat) → (Int32) → Prop,
  (∀ (P_1 : List Nat) (F_1 : Nat → va_E) (gm_1 : Nat → Nat → Nat) (el_1 : Nat → Nat → Nat) (l3_1 : Int32), gB l3_1 1 41 → RS D I P_1 F_1 gm_1 el_1 → rSk f [101] ([1, 3, 5, 6, 8, 9, 101] ++ npk) D I P F γ0 el0 P_1 F_1 gm_1 el_1 → gm_1 6 f = γ0 6 f → ((gm_1 7 f : Nat) : Int) = (fI (F_1 q0) 11).toInt → 100 ≤ (fI (F_1 q0) 14).toInt → rNI gm_1 el_1 F_1 q1 (gm_1 6 f) (fI (F_1 q0) 11).toInt → mKp (F q0) (F_1 q0) → 40 < l3_1.toInt → R P_1 F_1 gm_1 el_1 l3_1 207 F_1 P_1 gm_1 el_1 (0 : Int32)) →
  (∀ (P_1 : List Nat) (F_1 : Nat → va_E) (gm_1 : Nat → Nat → Nat) (el_1 : Nat → Nat → Nat) (l3_1 : Int32) (x1 : Int32) (x2 : Nat → va_E) (x3 : Nat → va_E) (x4 : List Nat) (x5 : Nat → Nat → Nat) (x6 : Nat → Nat → Nat) (x7 : Nat → va_E) (x8 : Int32) (x9 : Nat → va_E) (x10 : Int32) (x11 : Int32) (x12 : Nat → va_E) (x13 : List Nat) (x14 : Nat → va_E) (x15 : Nat → Nat → Nat) (x16 : Nat → Nat → Nat) (x17 : Int32) (x18 : Int32) (k : Nat) (e1 : Nat → va_E) (e2 : List Nat) (e3 : Nat → Nat → Nat) (e4 : Nat → Nat → Nat) (e5 : Int32), gB l3_1 1 41 → RS D I P_1 F_1 gm_1 el_1 → rSk f [101] ([1, 3, 5, 6, 8, 9, 101] ++ npk) D I P F γ0 el0 P_1 F_1 gm_1 el_1 → gm_1 6 f = γ0 6 f → ((gm_1 7 f : Nat) : Int) = (fI (F_1 q0) 11).toInt → 100 ≤ (fI (F_1 q0) 14).toInt → rNI gm_1 el_1 F_1 q1 (gm_1 6 f) (fI (F_1 q0) 11).toInt → mKp (F q0) (F_1 q0) → l3_1.toInt ≤ 40 → tr_RCode_countRows D I gm_1 el_1 F_1 q1 x1 → x1.toInt ≤ 4000 → RS D I P_1 x2 gm_1 el_1 → rStr gm_1 [] F_1 x2 → (gIp ((0 : Int) = 0) (rGr gm_1 el_1 F_1 q1 (gm_1 6 (gm_1 1 q1)) (cB (x2 (gm_1 9 3))) (vA (gm_1 6 (gm_1 1 q1))))) → (x2 q0 = F_1 q0) → tr_RModel_graph D I gm_1 el_1 P_1 F_1 q0 q1 (0 : Int32) x2 → tl_RModel_giveAll_52 D I γ0 el0 f P F q0 q1 a2 P_1 x2 gm_1 el_1 70 x3 x4 x5 x6 → RS D I x4 x7 x5 x6 → rStr x5 [] x3 x7 → (x7 q0 = x3 q0) → (x7 (x5 9 3) = x3 (x5 9 3)) → tr_RModel_weigh D I x5 x6 x4 x3 q0 q1 x7 → gB x8 0 2000 → RS D I x4 x9 x5 x6 → rStr x5 [] x7 x9 → ((gIp (x8.toInt = 0) (∀ m : Nat, rSd (cB (x9 (x5 9 3))) m → 0 ≤ (cB (x9 (x5 9 17)) m).toInt))) → (x9 q0 = x7 q0) → (x9 (x5 9 3) = x7 (x5 9 3)) → tr_RModel_colours D I x5 x6 x4 x7 q0 a2 x8 x9 → x8.toInt ≠ 0 → fI (x9 q0) 12 = x10 → x11 = x10 + x8 → (∀ b, b ≠ q0 → x12 b = x9 b) → x12 q0 = cF (x9 q0) 12 (.int x11) → rSk f [101] ([1, 3, 5, 6, 8, 9, 101] ++ npk) D I x4 x12 x5 x6 x13 x14 x15 x16 → x15 6 f = x5 6 f → (x14 (x5 9 3) = x12 (x5 9 3)) → mKp (x12 q0) (x14 q0) → tr_RModel_spill D I x5 x6 f x4 x12 q0 q1 x17 x13 x14 x15 x16 → x17.toInt ≠ 0 → x18.toInt = l3_1.toInt + 1 → R x13 x14 x15 x16 x18 k e1 e2 e3 e4 e5 → R P_1 F_1 gm_1 el_1 l3_1 k e1 e2 e3 e4 e5) →
  (∀ (P_1 : List Nat) (F_1 : Nat → va_E) (gm_1 : Nat → Nat → Nat) (el_1 : Nat → Nat → Nat) (l3_1 : Int32) (x1 : Int32) (x2 : Nat → va_E) (x3 : Nat → va_E) (x4 : List Nat) (x5 : Nat → Nat → Nat) (x6 : Nat → Nat → Nat) (x7 : Nat → va_E) (x8 : Int32) (x9 : Nat → va_E) (x10 : Int32) (x11 : Int32) (x12 : Nat → va_E) (x13 : List Nat) (x14 : Nat → va_E) (x15 : Nat → Nat → Nat) (x16 : Nat → Nat → Nat) (x17 : Int32), gB l3_1 1 41 → RS D I P_1 F_1 gm_1 el_1 → rSk f [101] ([1, 3, 5, 6, 8, 9, 101] ++ npk) D I P F γ0 el0 P_1 F_1 gm_1 el_1 → gm_1 6 f = γ0 6 f → ((gm_1 7 f : Nat) : Int) = (fI (F_1 q0) 11).toInt → 100 ≤ (fI (F_1 q0) 14).toInt → rNI gm_1 el_1 F_1 q1 (gm_1 6 f) (fI (F_1 q0) 11).toInt → mKp (F q0) (F_1 q0) → l3_1.toInt ≤ 40 → tr_RCode_countRows D I gm_1 el_1 F_1 q1 x1 → x1.toInt ≤ 4000 → RS D I P_1 x2 gm_1 el_1 → rStr gm_1 [] F_1 x2 → (gIp ((0 : Int) = 0) (rGr gm_1 el_1 F_1 q1 (gm_1 6 (gm_1 1 q1)) (cB (x2 (gm_1 9 3))) (vA (gm_1 6 (gm_1 1 q1))))) → (x2 q0 = F_1 q0) → tr_RModel_graph D I gm_1 el_1 P_1 F_1 q0 q1 (0 : Int32) x2 → tl_RModel_giveAll_52 D I γ0 el0 f P F q0 q1 a2 P_1 x2 gm_1 el_1 70 x3 x4 x5 x6 → RS D I x4 x7 x5 x6 → rStr x5 [] x3 x7 → (x7 q0 = x3 q0) → (x7 (x5 9 3) = x3 (x5 9 3)) → tr_RModel_weigh D I x5 x6 x4 x3 q0 q1 x7 → gB x8 0 2000 → RS D I x4 x9 x5 x6 → rStr x5 [] x7 x9 → ((gIp (x8.toInt = 0) (∀ m : Nat, rSd (cB (x9 (x5 9 3))) m → 0 ≤ (cB (x9 (x5 9 17)) m).toInt))) → (x9 q0 = x7 q0) → (x9 (x5 9 3) = x7 (x5 9 3)) → tr_RModel_colours D I x5 x6 x4 x7 q0 a2 x8 x9 → x8.toInt ≠ 0 → fI (x9 q0) 12 = x10 → x11 = x10 + x8 → (∀ b, b ≠ q0 → x12 b = x9 b) → x12 q0 = cF (x9 q0) 12 (.int x11) → rSk f [101] ([1, 3, 5, 6, 8, 9, 101] ++ npk) D I x4 x12 x5 x6 x13 x14 x15 x16 → x15 6 f = x5 6 f → (x14 (x5 9 3) = x12 (x5 9 3)) → mKp (x12 q0) (x14 q0) → tr_RModel_spill D I x5 x6 f x4 x12 q0 q1 x17 x13 x14 x15 x16 → x17.toInt = 0 → R P_1 F_1 gm_1 el_1 l3_1 199 x14 x13 x15 x16 (0 : Int32)) →
  (∀ (P_1 : List Nat) (F_1 : Nat → va_E) (gm_1 : Nat → Nat → Nat) (el_1 : Nat → Nat → Nat) (l3_1 : Int32) (x1 : Int32) (x2 : Nat → va_E) (x3 : Nat → va_E) (x4 : List Nat) (x5 : Nat → Nat → Nat) (x6 : Nat → Nat → Nat) (x7 : Nat → va_E) (x8 : Int32) (x9 : Nat → va_E), gB l3_1 1 41 → RS D I P_1 F_1 gm_1 el_1 → rSk f [101] ([1, 3, 5, 6, 8, 9, 101] ++ npk) D I P F γ0 el0 P_1 F_1 gm_1 el_1 → gm_1 6 f = γ0 6 f → ((gm_1 7 f : Nat) : Int) = (fI (F_1 q0) 11).toInt → 100 ≤ (fI (F_1 q0) 14).toInt → rNI gm_1 el_1 F_1 q1 (gm_1 6 f) (fI (F_1 q0) 11).toInt → mKp (F q0) (F_1 q0) → l3_1.toInt ≤ 40 → tr_RCode_countRows D I gm_1 el_1 F_1 q1 x1 → x1.toInt ≤ 4000 → RS D I P_1 x2 gm_1 el_1 → rStr gm_1 [] F_1 x2 → (gIp ((0 : Int) = 0) (rGr gm_1 el_1 F_1 q1 (gm_1 6 (gm_1 1 q1)) (cB (x2 (gm_1 9 3))) (vA (gm_1 6 (gm_1 1 q1))))) → (x2 q0 = F_1 q0) → tr_RModel_graph D I gm_1 el_1 P_1 F_1 q0 q1 (0 : Int32) x2 → tl_RModel_giveAll_52 D I γ0 el0 f P F q0 q1 a2 P_1 x2 gm_1 el_1 70 x3 x4 x5 x6 → RS D I x4 x7 x5 x6 → rStr x5 [] x3 x7 → (x7 q0 = x3 q0) → (x7 (x5 9 3) = x3 (x5 9 3)) → tr_RModel_weigh D I x5 x6 x4 x3 q0 q1 x7 → gB x8 0 2000 → RS D I x4 x9 x5 x6 → rStr x5 [] x7 x9 → ((gIp (x8.toInt = 0) (∀ m : Nat, rSd (cB (x9 (x5 9 3))) m → 0 ≤ (cB (x9 (x5 9 17)) m).toInt))) → (x9 q0 = x7 q0) → (x9 (x5 9 3) = x7 (x5 9 3)) → tr_RModel_colours D I x5 x6 x4 x7 q0 a2 x8 x9 → x8.toInt = 0 → R P_1 F_1 gm_1 el_1 l3_1 87 x9 x4 x5 x6 l3_1) →
  (∀ (P_1 : List Nat) (F_1 : Nat → va_E) (gm_1 : Nat → Nat → Nat) (el_1 : Nat → Nat → Nat) (l3_1 : Int32) (x1 : Int32), gB l3_1 1 41 → RS D I P_1 F_1 gm_1 el_1 → rSk f [101] ([1, 3, 5, 6, 8, 9, 101] ++ npk) D I P F γ0 el0 P_1 F_1 gm_1 el_1 → gm_1 6 f = γ0 6 f → ((gm_1 7 f : Nat) : Int) = (fI (F_1 q0) 11).toInt → 100 ≤ (fI (F_1 q0) 14).toInt → rNI gm_1 el_1 F_1 q1 (gm_1 6 f) (fI (F_1 q0) 11).toInt → mKp (F q0) (F_1 q0) → l3_1.toInt ≤ 40 → tr_RCode_countRows D I gm_1 el_1 F_1 q1 x1 → 4000 < x1.toInt → R P_1 F_1 gm_1 el_1 l3_1 44 F_1 P_1 gm_1 el_1 (0 : Int32)) →
  R s1 s2 s3 s4 s5 k e1 e2 e3 e4 e5
/- tr_RModel_giveAll: result, P, F, gm, el -/
def tr_RModel_giveAll (D : va_G) (I : FieldType → ClassId) (γ0 el0 : Nat → Nat → Nat) (f : Nat) (P : List Nat) (F : Nat → va_E) (q0 : Nat) (q1 : Nat) (a2 : Int32) (o1 : Int32) (o2 : List Nat) (o3 : Nat → va_E) (o4 : Nat → Nat → Nat) (o5 : Nat → Nat → Nat) : Prop := ∀ R : (Int32) → (List Nat) → (Nat → va_E) → (Nat → Nat → Nat) → (Nat → Nat → Nat) → Prop,
  (∀ (x1 : Nat → Nat → Nat) (x2 : Nat → Nat → Nat) (x3 : Nat → va_E) (x4 : Nat → va_E) (x5 : Nat → va_E) (x6 : Nat → va_E) (x7 : List Nat) (x8 : Nat → va_E) (x9 : Nat → Nat → Nat) (x10 : Nat → Nat → Nat) (x11 : Nat → va_E) (x12 : List Nat) (x13 : Nat → Nat → Nat) (x14 : Nat → Nat → Nat), x1 = γ0 → x2 = el0 → (∀ b, b ≠ q0 → x3 b = F b) → x3 q0 = cF (F q0) 11 (.int 0) → (∀ b, b ≠ q0 → x4 b = x3 b) → x4 q0 = cF (x3 q0) 12 (.int 0) → (∀ b, b ≠ q0 → x5 b = x4 b) → x5 q0 = cF (x4 q0) 13 (.int 0) → (∀ b, b ≠ q0 → x6 b = x5 b) → x6 q0 = cF (x5 q0) 14 (.int 100) → rSk f [101] ([1, 3, 5, 6, 8, 9, 101] ++ npk) D I P x6 x1 x2 x7 x8 x9 x10 → x9 6 f = x1 6 f → x9 7 f = x1 7 f → x9 16 f ≤ x1 16 f + 2000 → x9 18 f = x1 18 f → (x8 q0 = x6 q0) → tr_RModel_zeros D I x1 x2 f P x6 q0 q1 x7 x8 x9 x10 → tl_RModel_giveAll_28 D I γ0 el0 f P F q0 q1 a2 x7 x8 x9 x10 (1 : Int32) 207 x11 x12 x13 x14 (0 : Int32) → R (-1 : Int32) x12 x11 x13 x14) →
  (∀ (x1 : Nat → Nat → Nat) (x2 : Nat → Nat → Nat) (x3 : Nat → va_E) (x4 : Nat → va_E) (x5 : Nat → va_E) (x6 : Nat → va_E) (x7 : List Nat) (x8 : Nat → va_E) (x9 : Nat → Nat → Nat) (x10 : Nat → Nat → Nat) (x11 : Nat → va_E) (x12 : List Nat) (x13 : Nat → Nat → Nat) (x14 : Nat → Nat → Nat), x1 = γ0 → x2 = el0 → (∀ b, b ≠ q0 → x3 b = F b) → x3 q0 = cF (F q0) 11 (.int 0) → (∀ b, b ≠ q0 → x4 b = x3 b) → x4 q0 = cF (x3 q0) 12 (.int 0) → (∀ b, b ≠ q0 → x5 b = x4 b) → x5 q0 = cF (x4 q0) 13 (.int 0) → (∀ b, b ≠ q0 → x6 b = x5 b) → x6 q0 = cF (x5 q0) 14 (.int 100) → rSk f [101] ([1, 3, 5, 6, 8, 9, 101] ++ npk) D I P x6 x1 x2 x7 x8 x9 x10 → x9 6 f = x1 6 f → x9 7 f = x1 7 f → x9 16 f ≤ x1 16 f + 2000 → x9 18 f = x1 18 f → (x8 q0 = x6 q0) → tr_RModel_zeros D I x1 x2 f P x6 q0 q1 x7 x8 x9 x10 → tl_RModel_giveAll_28 D I γ0 el0 f P F q0 q1 a2 x7 x8 x9 x10 (1 : Int32) 199 x11 x12 x13 x14 (0 : Int32) → R (-1 : Int32) x12 x11 x13 x14) →
  (∀ (x1 : Nat → Nat → Nat) (x2 : Nat → Nat → Nat) (x3 : Nat → va_E) (x4 : Nat → va_E) (x5 : Nat → va_E) (x6 : Nat → va_E) (x7 : List Nat) (x8 : Nat → va_E) (x9 : Nat → Nat → Nat) (x10 : Nat → Nat → Nat) (x11 : Nat → va_E) (x12 : List Nat) (x13 : Nat → Nat → Nat) (x14 : Nat → Nat → Nat) (x15 : Int32) (x16 : Nat → va_E) (x17 : List Nat) (x18 : Nat → Nat → Nat) (x19 : Nat → Nat → Nat) (x20 : Nat → va_E), x1 = γ0 → x2 = el0 → (∀ b, b ≠ q0 → x3 b = F b) → x3 q0 = cF (F q0) 11 (.int 0) → (∀ b, b ≠ q0 → x4 b = x3 b) → x4 q0 = cF (x3 q0) 12 (.int 0) → (∀ b, b ≠ q0 → x5 b = x4 b) → x5 q0 = cF (x4 q0) 13 (.int 0) → (∀ b, b ≠ q0 → x6 b = x5 b) → x6 q0 = cF (x5 q0) 14 (.int 100) → rSk f [101] ([1, 3, 5, 6, 8, 9, 101] ++ npk) D I P x6 x1 x2 x7 x8 x9 x10 → x9 6 f = x1 6 f → x9 7 f = x1 7 f → x9 16 f ≤ x1 16 f + 2000 → x9 18 f = x1 18 f → (x8 q0 = x6 q0) → tr_RModel_zeros D I x1 x2 f P x6 q0 q1 x7 x8 x9 x10 → tl_RModel_giveAll_28 D I γ0 el0 f P F q0 q1 a2 x7 x8 x9 x10 (1 : Int32) 87 x11 x12 x13 x14 x15 → tl_RModel_giveAll_90 D I γ0 el0 f P F q0 x11 q1 x12 x11 x13 x14 (0 : Int32) 173 x16 x17 x18 x19 → RS D I x17 x20 x18 x19 → rStr x18 [1] x16 x20 → rFs x18 (x18 1 q1) x16 x20 → mKp (x16 q0) (x20 q0) → tr_RModel_share D I x18 x19 x17 x16 q0 q1 x20 → R x15 x17 x20 x18 x19) →
  (∀ (x1 : Nat → Nat → Nat) (x2 : Nat → Nat → Nat) (x3 : Nat → va_E) (x4 : Nat → va_E) (x5 : Nat → va_E) (x6 : Nat → va_E) (x7 : List Nat) (x8 : Nat → va_E) (x9 : Nat → Nat → Nat) (x10 : Nat → Nat → Nat) (x11 : Nat → va_E) (x12 : List Nat) (x13 : Nat → Nat → Nat) (x14 : Nat → Nat → Nat), x1 = γ0 → x2 = el0 → (∀ b, b ≠ q0 → x3 b = F b) → x3 q0 = cF (F q0) 11 (.int 0) → (∀ b, b ≠ q0 → x4 b = x3 b) → x4 q0 = cF (x3 q0) 12 (.int 0) → (∀ b, b ≠ q0 → x5 b = x4 b) → x5 q0 = cF (x4 q0) 13 (.int 0) → (∀ b, b ≠ q0 → x6 b = x5 b) → x6 q0 = cF (x5 q0) 14 (.int 100) → rSk f [101] ([1, 3, 5, 6, 8, 9, 101] ++ npk) D I P x6 x1 x2 x7 x8 x9 x10 → x9 6 f = x1 6 f → x9 7 f = x1 7 f → x9 16 f ≤ x1 16 f + 2000 → x9 18 f = x1 18 f → (x8 q0 = x6 q0) → tr_RModel_zeros D I x1 x2 f P x6 q0 q1 x7 x8 x9 x10 → tl_RModel_giveAll_28 D I γ0 el0 f P F q0 q1 a2 x7 x8 x9 x10 (1 : Int32) 44 x11 x12 x13 x14 (0 : Int32) → R (-1 : Int32) x12 x11 x13 x14) →
  R o1 o2 o3 o4 o5
