theorem dr_cX17_spill_0 : decode cX17_spill 0 = .ok (.iconst 0, 1) := by decide +kernel
theorem dr_cX17_spill_1 : decode cX17_spill 1 = .ok (.istore_n 2, 1) := by decide +kernel
theorem dr_cX17_spill_2 : decode cX17_spill 2 = .ok (.iload_n 2, 1) := by decide +kernel
theorem dr_cX17_spill_3 : decode cX17_spill 3 = .ok (.sipush 2000, 3) := by decide +kernel
theorem dr_cX17_spill_6 : decode cX17_spill 6 = .ok (.if_icmp .ge 65, 3) := by decide +kernel
theorem dr_cX17_spill_71 : decode cX17_spill 71 = .ok (.iconst 0, 1) := by decide +kernel
theorem dr_cX17_spill_72 : decode cX17_spill 72 = .ok (.istore_n 2, 1) := by decide +kernel
theorem dr_cX17_spill_73 : decode cX17_spill 73 = .ok (.iload_n 2, 1) := by decide +kernel
theorem dr_cX17_spill_74 : decode cX17_spill 74 = .ok (.aload_n 1, 1) := by decide +kernel
theorem dr_cX17_spill_75 : decode cX17_spill 75 = .ok (.invokevirtual 96, 3) := by decide +kernel
theorem dr_cX17_spill_78 : decode cX17_spill 78 = .ok (.if_icmp .ge 353, 3) := by decide +kernel
theorem dr_cX17_spill_431 : decode cX17_spill 431 = .ok (.aload_n 1, 1) := by decide +kernel
theorem dr_cX17_spill_432 : decode cX17_spill 432 = .ok (.invokevirtual 234, 3) := by decide +kernel
theorem dr_cX17_spill_435 : decode cX17_spill 435 = .ok (.sipush 4000, 3) := by decide +kernel
theorem dr_cX17_spill_438 : decode cX17_spill 438 = .ok (.if_icmp .gt 7, 3) := by decide +kernel
theorem dr_cX17_spill_445 : decode cX17_spill 445 = .ok (.iconst 0, 1) := by decide +kernel
theorem dr_cX17_spill_446 : decode cX17_spill 446 = .ok (.ireturn, 1) := by decide +kernel
theorem dr_cX17_spill_441 : decode cX17_spill 441 = .ok (.iconst 1, 1) := by decide +kernel
theorem dr_cX17_spill_442 : decode cX17_spill 442 = .ok (.goto 4, 3) := by decide +kernel
theorem dr_cX17_spill_81 : decode cX17_spill 81 = .ok (.aload_n 1, 1) := by decide +kernel
theorem dr_cX17_spill_82 : decode cX17_spill 82 = .ok (.iload_n 2, 1) := by decide +kernel
theorem dr_cX17_spill_83 : decode cX17_spill 83 = .ok (.invokevirtual 101, 3) := by decide +kernel
theorem dr_cX17_spill_86 : decode cX17_spill 86 = .ok (.astore_n 3, 1) := by decide +kernel
theorem dr_cX17_spill_87 : decode cX17_spill 87 = .ok (.iconst 0, 1) := by decide +kernel
theorem dr_cX17_spill_88 : decode cX17_spill 88 = .ok (.istore 4, 2) := by decide +kernel
theorem dr_cX17_spill_90 : decode cX17_spill 90 = .ok (.iload 4, 2) := by decide +kernel
theorem dr_cX17_spill_92 : decode cX17_spill 92 = .ok (.aload_n 3, 1) := by decide +kernel
theorem dr_cX17_spill_93 : decode cX17_spill 93 = .ok (.getfield 117, 3) := by decide +kernel
theorem dr_cX17_spill_96 : decode cX17_spill 96 = .ok (.invokevirtual 121, 3) := by decide +kernel
theorem dr_cX17_spill_99 : decode cX17_spill 99 = .ok (.if_icmp .gt 326, 3) := by decide +kernel
theorem dr_cX17_spill_425 : decode cX17_spill 425 = .ok (.iinc 2 1, 3) := by decide +kernel
theorem dr_cX17_spill_428 : decode cX17_spill 428 = .ok (.goto (-355), 3) := by decide +kernel
theorem dr_cX17_spill_292 : decode cX17_spill 292 = .ok (.aload 5, 2) := by decide +kernel
theorem dr_cX17_spill_294 : decode cX17_spill 294 = .ok (.invokevirtual 48, 3) := by decide +kernel
theorem dr_cX17_spill_297 : decode cX17_spill 297 = .ok (.ifCond .eq 122, 3) := by decide +kernel
theorem dr_cX17_spill_419 : decode cX17_spill 419 = .ok (.iinc 4 1, 3) := by decide +kernel
theorem dr_cX17_spill_422 : decode cX17_spill 422 = .ok (.goto (-332), 3) := by decide +kernel
theorem dr_cX17_spill_300 : decode cX17_spill 300 = .ok (.aload 5, 2) := by decide +kernel
theorem dr_cX17_spill_302 : decode cX17_spill 302 = .ok (.getfield 39, 3) := by decide +kernel
theorem dr_cX17_spill_305 : decode cX17_spill 305 = .ok (.bipush 21, 2) := by decide +kernel
theorem dr_cX17_spill_307 : decode cX17_spill 307 = .ok (.if_icmp .eq 112, 3) := by decide +kernel
theorem dr_cX17_spill_310 : decode cX17_spill 310 = .ok (.aload_n 0, 1) := by decide +kernel
theorem dr_cX17_spill_311 : decode cX17_spill 311 = .ok (.getfield 221, 3) := by decide +kernel
theorem dr_cX17_spill_314 : decode cX17_spill 314 = .ok (.aload 5, 2) := by decide +kernel
theorem dr_cX17_spill_316 : decode cX17_spill 316 = .ok (.getfield 52, 3) := by decide +kernel
theorem dr_cX17_spill_319 : decode cX17_spill 319 = .ok (.iaload, 1) := by decide +kernel
theorem dr_cX17_spill_320 : decode cX17_spill 320 = .ok (.ifCond .ge 6, 3) := by decide +kernel
theorem dr_cX17_spill_326 : decode cX17_spill 326 = .ok (.aload_n 0, 1) := by decide +kernel
theorem dr_cX17_spill_327 : decode cX17_spill 327 = .ok (.getfield 221, 3) := by decide +kernel
theorem dr_cX17_spill_330 : decode cX17_spill 330 = .ok (.aload 5, 2) := by decide +kernel
theorem dr_cX17_spill_332 : decode cX17_spill 332 = .ok (.getfield 52, 3) := by decide +kernel
theorem dr_cX17_spill_335 : decode cX17_spill 335 = .ok (.iaload, 1) := by decide +kernel
theorem dr_cX17_spill_336 : decode cX17_spill 336 = .ok (.istore 8, 2) := by decide +kernel
theorem dr_cX17_spill_338 : decode cX17_spill 338 = .ok (.aload_n 0, 1) := by decide +kernel
theorem dr_cX17_spill_339 : decode cX17_spill 339 = .ok (.getfield 231, 3) := by decide +kernel
theorem dr_cX17_spill_342 : decode cX17_spill 342 = .ok (.sipush 2000, 3) := by decide +kernel
theorem dr_cX17_spill_345 : decode cX17_spill 345 = .ok (.if_icmp .ne 5, 3) := by decide +kernel
theorem dr_cX17_spill_350 : decode cX17_spill 350 = .ok (.aload 5, 2) := by decide +kernel
theorem dr_cX17_spill_352 : decode cX17_spill 352 = .ok (.aload_n 0, 1) := by decide +kernel
theorem dr_cX17_spill_353 : decode cX17_spill 353 = .ok (.getfield 231, 3) := by decide +kernel
theorem dr_cX17_spill_356 : decode cX17_spill 356 = .ok (.putfield 52, 3) := by decide +kernel
theorem dr_cX17_spill_359 : decode cX17_spill 359 = .ok (.aload_n 0, 1) := by decide +kernel
theorem dr_cX17_spill_360 : decode cX17_spill 360 = .ok (.dup, 1) := by decide +kernel
theorem dr_cX17_spill_361 : decode cX17_spill 361 = .ok (.getfield 231, 3) := by decide +kernel
theorem dr_cX17_spill_364 : decode cX17_spill 364 = .ok (.iconst 1, 1) := by decide +kernel
theorem dr_cX17_spill_365 : decode cX17_spill 365 = .ok (.iadd, 1) := by decide +kernel
theorem dr_cX17_spill_366 : decode cX17_spill 366 = .ok (.putfield 231, 3) := by decide +kernel
theorem dr_cX17_spill_369 : decode cX17_spill 369 = .ok (.aload_n 1, 1) := by decide +kernel
theorem dr_cX17_spill_370 : decode cX17_spill 370 = .ok (.invokevirtual 177, 3) := by decide +kernel
theorem dr_cX17_spill_373 : decode cX17_spill 373 = .ok (.astore 9, 2) := by decide +kernel
theorem dr_cX17_spill_375 : decode cX17_spill 375 = .ok (.aload 9, 2) := by decide +kernel
theorem dr_cX17_spill_377 : decode cX17_spill 377 = .ok (.bipush 23, 2) := by decide +kernel
theorem dr_cX17_spill_379 : decode cX17_spill 379 = .ok (.putfield 39, 3) := by decide +kernel
theorem dr_cX17_spill_382 : decode cX17_spill 382 = .ok (.aload 9, 2) := by decide +kernel
theorem dr_cX17_spill_384 : decode cX17_spill 384 = .ok (.iload 8, 2) := by decide +kernel
theorem dr_cX17_spill_386 : decode cX17_spill 386 = .ok (.putfield 45, 3) := by decide +kernel
theorem dr_cX17_spill_389 : decode cX17_spill 389 = .ok (.aload 9, 2) := by decide +kernel
theorem dr_cX17_spill_391 : decode cX17_spill 391 = .ok (.aload 5, 2) := by decide +kernel
theorem dr_cX17_spill_393 : decode cX17_spill 393 = .ok (.getfield 52, 3) := by decide +kernel
theorem dr_cX17_spill_396 : decode cX17_spill 396 = .ok (.putfield 73, 3) := by decide +kernel
theorem dr_cX17_spill_399 : decode cX17_spill 399 = .ok (.aload 9, 2) := by decide +kernel
theorem dr_cX17_spill_401 : decode cX17_spill 401 = .ok (.iconst 1, 1) := by decide +kernel
theorem dr_cX17_spill_402 : decode cX17_spill 402 = .ok (.putfield 141, 3) := by decide +kernel
theorem dr_cX17_spill_405 : decode cX17_spill 405 = .ok (.iinc 4 1, 3) := by decide +kernel
theorem dr_cX17_spill_408 : decode cX17_spill 408 = .ok (.aload_n 3, 1) := by decide +kernel
theorem dr_cX17_spill_409 : decode cX17_spill 409 = .ok (.getfield 117, 3) := by decide +kernel
theorem dr_cX17_spill_412 : decode cX17_spill 412 = .ok (.iload 4, 2) := by decide +kernel
theorem dr_cX17_spill_414 : decode cX17_spill 414 = .ok (.aload 9, 2) := by decide +kernel
theorem dr_cX17_spill_416 : decode cX17_spill 416 = .ok (.invokevirtual 181, 3) := by decide +kernel
theorem dr_cX17_spill_348 : decode cX17_spill 348 = .ok (.iconst 0, 1) := by decide +kernel
theorem dr_cX17_spill_349 : decode cX17_spill 349 = .ok (.ireturn, 1) := by decide +kernel
theorem dr_cX17_spill_323 : decode cX17_spill 323 = .ok (.goto 96, 3) := by decide +kernel
theorem dr_cX17_spill_236 : decode cX17_spill 236 = .ok (.iload 7, 2) := by decide +kernel
theorem dr_cX17_spill_238 : decode cX17_spill 238 = .ok (.ifCond .lt 54, 3) := by decide +kernel
theorem dr_cX17_spill_241 : decode cX17_spill 241 = .ok (.iload 7, 2) := by decide +kernel
theorem dr_cX17_spill_243 : decode cX17_spill 243 = .ok (.iload 6, 2) := by decide +kernel
theorem dr_cX17_spill_245 : decode cX17_spill 245 = .ok (.if_icmp .eq 47, 3) := by decide +kernel
theorem dr_cX17_spill_248 : decode cX17_spill 248 = .ok (.aload_n 0, 1) := by decide +kernel
theorem dr_cX17_spill_249 : decode cX17_spill 249 = .ok (.getfield 221, 3) := by decide +kernel
theorem dr_cX17_spill_252 : decode cX17_spill 252 = .ok (.iload 7, 2) := by decide +kernel
theorem dr_cX17_spill_254 : decode cX17_spill 254 = .ok (.iaload, 1) := by decide +kernel
theorem dr_cX17_spill_255 : decode cX17_spill 255 = .ok (.ifCond .lt 37, 3) := by decide +kernel
theorem dr_cX17_spill_258 : decode cX17_spill 258 = .ok (.aload_n 0, 1) := by decide +kernel
theorem dr_cX17_spill_259 : decode cX17_spill 259 = .ok (.aload_n 1, 1) := by decide +kernel
theorem dr_cX17_spill_260 : decode cX17_spill 260 = .ok (.aload_n 3, 1) := by decide +kernel
theorem dr_cX17_spill_261 : decode cX17_spill 261 = .ok (.iload 4, 2) := by decide +kernel
theorem dr_cX17_spill_263 : decode cX17_spill 263 = .ok (.aload_n 0, 1) := by decide +kernel
theorem dr_cX17_spill_264 : decode cX17_spill 264 = .ok (.getfield 221, 3) := by decide +kernel
theorem dr_cX17_spill_267 : decode cX17_spill 267 = .ok (.iload 7, 2) := by decide +kernel
theorem dr_cX17_spill_269 : decode cX17_spill 269 = .ok (.iaload, 1) := by decide +kernel
theorem dr_cX17_spill_270 : decode cX17_spill 270 = .ok (.invokevirtual 227, 3) := by decide +kernel
theorem wr_11_67 : (Jvm.Cond.methodLink "SpillForgeModel" (227 : Nat) ({ cls := "SpillForgeModel", name := "load", desc := "(LSpillForgeModel$Code;LSpillForgeModel$Block;II)I" } : Jvm.MethodName)) ∈ gw := gw_11 67 rfl rfl
theorem wr_11_70 : (Jvm.Cond.code ({ cls := "SpillForgeModel", name := "load", desc := "(LSpillForgeModel$Code;LSpillForgeModel$Block;II)I" } : Jvm.MethodName) prog_14_method_23_code (6 : Nat) (Option.some Jvm.ClassFile.FieldType.int)) ∈ gw := gw_11 70 rfl rfl
theorem wr_11_69 : (Jvm.Cond.instanceMethod ({ cls := "SpillForgeModel", name := "load", desc := "(LSpillForgeModel$Code;LSpillForgeModel$Block;II)I" } : Jvm.MethodName)) ∈ gw := gw_11 69 rfl rfl
theorem wr_p_111 : Cond.selects "SpillForgeModel" ⟨"SpillForgeModel", "load", "(LSpillForgeModel$Code;LSpillForgeModel$Block;II)I"⟩ ⟨"SpillForgeModel", "load", "(LSpillForgeModel$Code;LSpillForgeModel$Block;II)I"⟩ ∈ gw := gw_p _ 111 rfl rfl rfl
theorem dr_cX17_spill_273 : decode cX17_spill 273 = .ok (.istore 8, 2) := by decide +kernel
theorem dr_cX17_spill_275 : decode cX17_spill 275 = .ok (.iload 8, 2) := by decide +kernel
theorem dr_cX17_spill_277 : decode cX17_spill 277 = .ok (.ifCond .ge 5, 3) := by decide +kernel
theorem dr_cX17_spill_282 : decode cX17_spill 282 = .ok (.iinc 4 1, 3) := by decide +kernel
theorem dr_cX17_spill_285 : decode cX17_spill 285 = .ok (.aload 5, 2) := by decide +kernel
theorem dr_cX17_spill_287 : decode cX17_spill 287 = .ok (.iload 8, 2) := by decide +kernel
theorem dr_cX17_spill_289 : decode cX17_spill 289 = .ok (.putfield 79, 3) := by decide +kernel
theorem dr_cX17_spill_280 : decode cX17_spill 280 = .ok (.iconst 0, 1) := by decide +kernel
theorem dr_cX17_spill_281 : decode cX17_spill 281 = .ok (.ireturn, 1) := by decide +kernel
theorem dr_cX17_spill_102 : decode cX17_spill 102 = .ok (.iload 4, 2) := by decide +kernel
theorem dr_cX17_spill_104 : decode cX17_spill 104 = .ok (.aload_n 3, 1) := by decide +kernel
theorem dr_cX17_spill_105 : decode cX17_spill 105 = .ok (.getfield 117, 3) := by decide +kernel
theorem dr_cX17_spill_108 : decode cX17_spill 108 = .ok (.invokevirtual 121, 3) := by decide +kernel
theorem dr_cX17_spill_111 : decode cX17_spill 111 = .ok (.if_icmp .ge 18, 3) := by decide +kernel
theorem dr_cX17_spill_129 : decode cX17_spill 129 = .ok (.aload_n 3, 1) := by decide +kernel
theorem dr_cX17_spill_130 : decode cX17_spill 130 = .ok (.getfield 109, 3) := by decide +kernel
theorem dr_cX17_spill_133 : decode cX17_spill 133 = .ok (.astore 5, 2) := by decide +kernel
theorem dr_cX17_spill_135 : decode cX17_spill 135 = .ok (.aload 5, 2) := by decide +kernel
theorem dr_cX17_spill_137 : decode cX17_spill 137 = .ok (.invokevirtual 70, 3) := by decide +kernel
theorem dr_cX17_spill_140 : decode cX17_spill 140 = .ok (.ifCond .eq 11, 3) := by decide +kernel
theorem dr_cX17_spill_151 : decode cX17_spill 151 = .ok (.iconst (-1), 1) := by decide +kernel
theorem dr_cX17_spill_152 : decode cX17_spill 152 = .ok (.istore 6, 2) := by decide +kernel
theorem dr_cX17_spill_154 : decode cX17_spill 154 = .ok (.aload 5, 2) := by decide +kernel
theorem dr_cX17_spill_156 : decode cX17_spill 156 = .ok (.invokevirtual 76, 3) := by decide +kernel
theorem dr_cX17_spill_159 : decode cX17_spill 159 = .ok (.ifCond .eq 11, 3) := by decide +kernel
theorem dr_cX17_spill_170 : decode cX17_spill 170 = .ok (.iconst (-1), 1) := by decide +kernel
theorem dr_cX17_spill_171 : decode cX17_spill 171 = .ok (.istore 7, 2) := by decide +kernel
theorem dr_cX17_spill_173 : decode cX17_spill 173 = .ok (.iload 6, 2) := by decide +kernel
theorem dr_cX17_spill_175 : decode cX17_spill 175 = .ok (.ifCond .lt 61, 3) := by decide +kernel
theorem dr_cX17_spill_162 : decode cX17_spill 162 = .ok (.aload 5, 2) := by decide +kernel
theorem dr_cX17_spill_164 : decode cX17_spill 164 = .ok (.getfield 79, 3) := by decide +kernel
theorem dr_cX17_spill_167 : decode cX17_spill 167 = .ok (.goto 4, 3) := by decide +kernel
theorem dr_cX17_spill_143 : decode cX17_spill 143 = .ok (.aload 5, 2) := by decide +kernel
theorem dr_cX17_spill_145 : decode cX17_spill 145 = .ok (.getfield 73, 3) := by decide +kernel
theorem dr_cX17_spill_148 : decode cX17_spill 148 = .ok (.goto 4, 3) := by decide +kernel
theorem dr_cX17_spill_178 : decode cX17_spill 178 = .ok (.aload_n 0, 1) := by decide +kernel
theorem dr_cX17_spill_179 : decode cX17_spill 179 = .ok (.getfield 221, 3) := by decide +kernel
theorem dr_cX17_spill_182 : decode cX17_spill 182 = .ok (.iload 6, 2) := by decide +kernel
theorem dr_cX17_spill_184 : decode cX17_spill 184 = .ok (.iaload, 1) := by decide +kernel
theorem dr_cX17_spill_185 : decode cX17_spill 185 = .ok (.ifCond .lt 51, 3) := by decide +kernel
theorem dr_cX17_spill_188 : decode cX17_spill 188 = .ok (.aload_n 0, 1) := by decide +kernel
theorem dr_cX17_spill_189 : decode cX17_spill 189 = .ok (.aload_n 1, 1) := by decide +kernel
theorem dr_cX17_spill_190 : decode cX17_spill 190 = .ok (.aload_n 3, 1) := by decide +kernel
theorem dr_cX17_spill_191 : decode cX17_spill 191 = .ok (.iload 4, 2) := by decide +kernel
theorem dr_cX17_spill_193 : decode cX17_spill 193 = .ok (.aload_n 0, 1) := by decide +kernel
theorem dr_cX17_spill_194 : decode cX17_spill 194 = .ok (.getfield 221, 3) := by decide +kernel
theorem dr_cX17_spill_197 : decode cX17_spill 197 = .ok (.iload 6, 2) := by decide +kernel
theorem dr_cX17_spill_199 : decode cX17_spill 199 = .ok (.iaload, 1) := by decide +kernel
theorem dr_cX17_spill_200 : decode cX17_spill 200 = .ok (.invokevirtual 227, 3) := by decide +kernel
theorem dr_cX17_spill_203 : decode cX17_spill 203 = .ok (.istore 8, 2) := by decide +kernel
theorem dr_cX17_spill_205 : decode cX17_spill 205 = .ok (.iload 8, 2) := by decide +kernel
theorem dr_cX17_spill_207 : decode cX17_spill 207 = .ok (.ifCond .ge 5, 3) := by decide +kernel
theorem dr_cX17_spill_212 : decode cX17_spill 212 = .ok (.iinc 4 1, 3) := by decide +kernel
theorem dr_cX17_spill_215 : decode cX17_spill 215 = .ok (.aload 5, 2) := by decide +kernel
theorem dr_cX17_spill_217 : decode cX17_spill 217 = .ok (.iload 8, 2) := by decide +kernel
theorem dr_cX17_spill_219 : decode cX17_spill 219 = .ok (.putfield 73, 3) := by decide +kernel
theorem dr_cX17_spill_222 : decode cX17_spill 222 = .ok (.iload 7, 2) := by decide +kernel
theorem dr_cX17_spill_224 : decode cX17_spill 224 = .ok (.iload 6, 2) := by decide +kernel
theorem dr_cX17_spill_226 : decode cX17_spill 226 = .ok (.if_icmp .ne 10, 3) := by decide +kernel
theorem dr_cX17_spill_210 : decode cX17_spill 210 = .ok (.iconst 0, 1) := by decide +kernel
theorem dr_cX17_spill_211 : decode cX17_spill 211 = .ok (.ireturn, 1) := by decide +kernel
theorem dr_cX17_spill_229 : decode cX17_spill 229 = .ok (.aload 5, 2) := by decide +kernel
theorem dr_cX17_spill_231 : decode cX17_spill 231 = .ok (.iload 8, 2) := by decide +kernel
theorem dr_cX17_spill_233 : decode cX17_spill 233 = .ok (.putfield 79, 3) := by decide +kernel
theorem dr_cX17_spill_114 : decode cX17_spill 114 = .ok (.aload_n 3, 1) := by decide +kernel
theorem dr_cX17_spill_115 : decode cX17_spill 115 = .ok (.getfield 117, 3) := by decide +kernel
theorem dr_cX17_spill_118 : decode cX17_spill 118 = .ok (.iload 4, 2) := by decide +kernel
theorem dr_cX17_spill_120 : decode cX17_spill 120 = .ok (.invokevirtual 124, 3) := by decide +kernel
theorem dr_cX17_spill_123 : decode cX17_spill 123 = .ok (.checkcast 40, 3) := by decide +kernel
theorem dr_cX17_spill_126 : decode cX17_spill 126 = .ok (.goto 7, 3) := by decide +kernel
theorem dr_cX17_spill_9 : decode cX17_spill 9 = .ok (.aload_n 0, 1) := by decide +kernel
theorem dr_cX17_spill_10 : decode cX17_spill 10 = .ok (.getfield 221, 3) := by decide +kernel
theorem dr_cX17_spill_13 : decode cX17_spill 13 = .ok (.iload_n 2, 1) := by decide +kernel
theorem dr_cX17_spill_14 : decode cX17_spill 14 = .ok (.iconst (-1), 1) := by decide +kernel
theorem dr_cX17_spill_15 : decode cX17_spill 15 = .ok (.iastore, 1) := by decide +kernel
theorem dr_cX17_spill_16 : decode cX17_spill 16 = .ok (.aload_n 0, 1) := by decide +kernel
theorem dr_cX17_spill_17 : decode cX17_spill 17 = .ok (.getfield 131, 3) := by decide +kernel
theorem dr_cX17_spill_20 : decode cX17_spill 20 = .ok (.iload_n 2, 1) := by decide +kernel
theorem dr_cX17_spill_21 : decode cX17_spill 21 = .ok (.baload, 1) := by decide +kernel
theorem dr_cX17_spill_22 : decode cX17_spill 22 = .ok (.ifCond .eq 43, 3) := by decide +kernel
theorem dr_cX17_spill_65 : decode cX17_spill 65 = .ok (.iinc 2 1, 3) := by decide +kernel
theorem dr_cX17_spill_68 : decode cX17_spill 68 = .ok (.goto (-66), 3) := by decide +kernel
theorem dr_cX17_spill_25 : decode cX17_spill 25 = .ok (.aload_n 0, 1) := by decide +kernel
theorem dr_cX17_spill_26 : decode cX17_spill 26 = .ok (.getfield 212, 3) := by decide +kernel
theorem dr_cX17_spill_29 : decode cX17_spill 29 = .ok (.iload_n 2, 1) := by decide +kernel
theorem dr_cX17_spill_30 : decode cX17_spill 30 = .ok (.iaload, 1) := by decide +kernel
theorem dr_cX17_spill_31 : decode cX17_spill 31 = .ok (.ifCond .lt 6, 3) := by decide +kernel
theorem dr_cX17_spill_37 : decode cX17_spill 37 = .ok (.iload_n 2, 1) := by decide +kernel
theorem dr_cX17_spill_38 : decode cX17_spill 38 = .ok (.bipush 100, 2) := by decide +kernel
theorem dr_cX17_spill_40 : decode cX17_spill 40 = .ok (.if_icmp .lt 5, 3) := by decide +kernel
theorem dr_cX17_spill_45 : decode cX17_spill 45 = .ok (.aload_n 0, 1) := by decide +kernel
theorem dr_cX17_spill_46 : decode cX17_spill 46 = .ok (.getfield 221, 3) := by decide +kernel
theorem dr_cX17_spill_49 : decode cX17_spill 49 = .ok (.iload_n 2, 1) := by decide +kernel
theorem dr_cX17_spill_50 : decode cX17_spill 50 = .ok (.aload_n 0, 1) := by decide +kernel
theorem dr_cX17_spill_51 : decode cX17_spill 51 = .ok (.getfield 224, 3) := by decide +kernel
theorem dr_cX17_spill_54 : decode cX17_spill 54 = .ok (.iastore, 1) := by decide +kernel
theorem dr_cX17_spill_55 : decode cX17_spill 55 = .ok (.aload_n 0, 1) := by decide +kernel
theorem dr_cX17_spill_56 : decode cX17_spill 56 = .ok (.dup, 1) := by decide +kernel
theorem dr_cX17_spill_57 : decode cX17_spill 57 = .ok (.getfield 224, 3) := by decide +kernel
theorem dr_cX17_spill_60 : decode cX17_spill 60 = .ok (.iconst 1, 1) := by decide +kernel
theorem dr_cX17_spill_61 : decode cX17_spill 61 = .ok (.iadd, 1) := by decide +kernel
theorem dr_cX17_spill_62 : decode cX17_spill 62 = .ok (.putfield 224, 3) := by decide +kernel
theorem dr_cX17_spill_43 : decode cX17_spill 43 = .ok (.iconst 0, 1) := by decide +kernel
theorem dr_cX17_spill_44 : decode cX17_spill 44 = .ok (.ireturn, 1) := by decide +kernel
theorem dr_cX17_spill_34 : decode cX17_spill 34 = .ok (.goto 31, 3) := by decide +kernel
abbrev ky_572548_SpillForgeModel_spill : gKey := (cX17_spill, 10, "SpillForgeModel", (some FieldType.boolean), [], "spill", fun _ _ => True)
def pg_572548_SpillForgeModel_spill (D : va_G) (I : FieldType → ClassId) (γ0 el0 : Nat → Nat → Nat) (f : Nat) (B : Nat) (P572538 : List Nat) (F572539 : Nat → va_E) (q572540 : Nat) (q572541 : Nat) : Option Value → va_W → Nat → Nat → Prop := fun r w dc ds => ∃ (P613982 : List Nat) (F613983 : Nat → va_E) (γ el : Nat → Nat → Nat) (o613981 : Int32), r = some (.int o613981) ∧ w = va_pl P613982 F613983 ∧ rSk f [101] ([1, 3, 5, 6, 8, 9, 101] ++ npk) D I P572538 F572539 γ0 el0 P613982 F613983 γ el ∧ (18 * dc + rPh γ0 el0 f ≤ rPh γ el f ∧ ds + rPh γ0 el0 f ≤ rPh γ el f) ∧ rBd γ el f B ∧ gB o613981 0 1 ∧ γ 6 f = γ0 6 f ∧ (o613981.toInt = 0 ∨ (γ 6 f = γ0 6 f ∧ γ 18 f = γ0 18 f ∧ ((γ 7 f : Nat) : Int) = (fI (F613983 q572540) 11).toInt ∧ ((γ 16 f : Nat) : Int) + 2001 ≤ (B : Int) + (fI (F613983 q572540) 14).toInt ∧ 100 ≤ (fI (F613983 q572540) 14).toInt ∧ rNI γ el F613983 q572541 (γ 6 f) (fI (F613983 q572540) 11).toInt)) ∧ (F613983 (γ0 9 3) = F572539 (γ0 9 3)) ∧ mKp (F572539 q572540) (F613983 q572540)
set_option maxRecDepth 100000 in
set_option maxHeartbeats 20000000 in
theorem cg_572548_SpillForgeModel_spill (l : Launch) (hl0 : l.stackTraces = false) (D : va_G) (I : FieldType → ClassId) (γ0 el0 : Nat → Nat → Nat) (f : Nat) (B : Nat) (P572538 : List Nat) (F572539 : Nat → va_E) (q572540 : Nat) (q572541 : Nat) (hT0 : RS D I P572538 F572539 γ0 el0) (hzq572540 : rKd γ0 q572540 10) (hzq572541 : rKd γ0 q572541 9) (hf0 : γ0 1 q572541 = f) (hB0 : rBd γ0 el0 f B) (hBk : B ≤ 100000) (x572542 : 0 < γ0 6 f) (x572543 : ((γ0 7 f : Nat) : Int) = (fI (F572539 q572540) 11).toInt) (x572544 : ((γ0 16 f : Nat) : Int) + 2001 ≤ (B : Int) + (fI (F572539 q572540) 14).toInt) (x572545 : (fI (F572539 q572540) 11).toInt + (rcn (cB (F572539 (γ0 9 3))) 100 : Nat) ≤ 100) (x572546 : rPl γ0 el0 F572539 q572541 (γ0 6 f) (fun _ _ => rNx (rSd (cB (F572539 (γ0 9 3)))))) (x572547 : 100 ≤ (fI (F572539 q572540) 14).toInt) : CtA (gV D I) l yX17_spill cX17_spill 10 (some FieldType.boolean) 9 195 (((387 * B + 6000) - rPh γ0 el0 f) / 18) ((387 * B + 6000) - rPh γ0 el0 f) [.ref q572540, .ref q572541] (va_pl P572538 F572539) (pg_572548_SpillForgeModel_spill D I γ0 el0 f B P572538 F572539 q572540 q572541) gNA := by
  refine CtA_of hl0 (by decide) (Nat.le_of_ble_eq_true rfl) ?_
  obtain ⟨γ, hγ0⟩ : ∃ z, z = γ0 := ⟨_, rfl⟩
  obtain ⟨el, hel0⟩ : ∃ z, z = el0 := ⟨_, rfl⟩
  have hT : RS D I P572538 F572539 γ el := by rw [hγ0, hel0]; exact hT0
  have hst : rSk f [101] ([1, 3, 5, 6, 8, 9, 101] ++ npk) D I P572538 F572539 γ0 el0 P572538 F572539 γ el := by rw [hγ0, hel0]; exact rSk_rf hT0
  have hph : rPh γ0 el0 f ≤ rPh γ el f := by rw [hγ0, hel0]; exact Nat.le_refl _
  have hB : rBd γ el f B := by rw [hγ0, hel0]; exact hB0
  have htq572540 : rKd γ q572540 10 := by rw [hγ0]; exact hzq572540
  have htq572541 : rKd γ q572541 9 := by rw [hγ0]; exact hzq572541
  have hf1 : γ 1 q572541 = f := by rw [hγ0]; exact hf0
  have x572542n : 0 < γ 6 f := by rw [hγ0]; exact x572542
  have x572543n : ((γ 7 f : Nat) : Int) = (fI (F572539 q572540) 11).toInt := by rw [hγ0]; exact x572543
  have x572544n : ((γ 16 f : Nat) : Int) + 2001 ≤ (B : Int) + (fI (F572539 q572540) 14).toInt := by rw [hγ0]; exact x572544
  have x572545n : (fI (F572539 q572540) 11).toInt + (rcn (cB (F572539 (γ 9 3))) 100 : Nat) ≤ 100 := by rw [hγ0]; exact x572545
  have x572546n : rPl γ el F572539 q572541 (γ 6 f) (fun _ _ => rNx (rSd (cB (F572539 (γ 9 3))))) := by rw [hγ0, hel0]; exact x572546
  have pk572549 : rPh γ el f ≤ 387 * B + 6000 := rm_pk (rM_ge hT htq572541 hf1).1 (rM_bd hB)
  refine G_widen (cs' := ((rPh γ el f - rPh γ0 el0 f) / 18)) (sl' := (rPh γ el f - rPh γ0 el0 f)) (Nat.zero_le _) (Nat.zero_le _) ?_
  have lz0 : Int32.toInt 0 = 0 := by decide
  have r572550 : γ 6 f = γ0 6 f := by rw [hγ0]
  have r572551 : γ 7 f = γ0 7 f := by rw [hγ0]
  have r572552 : γ 16 f = γ0 16 f := by rw [hγ0]
  have r572553 : γ 18 f = γ0 18 f := by rw [hγ0]
  have r572554 : γ 19 f = γ0 19 f := by rw [hγ0]
  have hm572555 : q572540 ∈ P572538 := RS_m hT htq572540 (by decide)
  refine rk10_e (show rk_10 γ (F572539 q572540) from RS_o hT htq572540) (fun q572557 q572558 p572559 p572560 p572561 p572562 p572563 p572564 p572565 p572566 p572567 p572568 p572569 p572570 p572571 p572572 p572573 he572556 hB572600 ht572574 ht572575 ht572576 ht572577 ht572578 ht572579 ht572580 ht572581 ht572582 ht572583 ht572584 ht572585 ht572586 ht572587 ht572588 ht572589 ht572590 ht572591 ht572592 ht572593 ht572594 ht572595 ht572596 ht572597 hB572601 => ?_)
  have ac0_11 : (fI (F572539 q572540) 11).toInt = p572561.toInt := by rw [he572556]; rfl
  have ac0_14 : (fI (F572539 q572540) 14).toInt = p572564.toInt := by rw [he572556]; rfl
  have bp572561 : gB p572561 0 100 := (hB572600.2.2.1)
  have bp572564 : gB p572564 0 2000 := (hB572600.2.2.2.1)
  have k0_3 : rKd γ0 (γ0 9 3) 14 := by rw [← hγ0]; exact ht572579
  have k0_17 : rKd γ0 (γ0 9 17) 20 := by rw [← hγ0]; exact ht572587
  have k0_19 : rKd γ0 (γ0 9 19) 21 := by rw [← hγ0]; exact ht572589
  refine G_iconst 0 dr_cX17_spill_0 (by decide +kernel) ?_
  refine G_istore_n (L' := [(2, .int 0), (0, .ref q572540), (1, .ref q572541)]) dr_cX17_spill_1 (Nat.le_of_ble_eq_true rfl) rfl ?_
  have hlp2_607289 : ∀ (n2_607289 : Nat) (P607275 : List Nat) (F607276 : Nat → va_E) (γ el : Nat → Nat → Nat) (g607274 : Int32), gB g607274 0 2000 → RS D I P607275 F607276 γ el → rSk f [101] ([1, 3, 5, 6, 8, 9, 101] ++ npk) D I P572538 F572539 γ0 el0 P607275 F607276 γ el → rPh γ0 el0 f ≤ rPh γ el f → rBd γ el f B → γ 6 f = γ0 6 f → γ 7 f = γ0 7 f → γ 16 f = γ0 16 f → γ 18 f = γ0 18 f → (fI (F607276 q572540) 14).toInt = (fI (F572539 q572540) 14).toInt → spI (cB (F572539 (γ0 9 3))) (cB (F607276 (γ0 9 19))) (g607274.toInt : Int).toNat (fI (F572539 q572540) 11).toInt (fI (F607276 q572540) 11).toInt → rPl γ el F607276 q572541 (γ 6 f) (fun _ _ => rNx (rSd (cB (F572539 (γ0 9 3))))) → (F607276 (γ0 9 3) = F572539 (γ0 9 3)) → mKp (F572539 q572540) (F607276 q572540) → ((2001 : Int) - g607274.toInt).toNat < n2_607289 → G (gV D I) l (gRm 9 195 (((387 * B + 6000) - rPh γ0 el0 f) / 18) ((387 * B + 6000) - rPh γ0 el0 f)) (gMA (gV D I) (pg_572548_SpillForgeModel_spill D I γ0 el0 f B P572538 F572539 q572540 q572541) gNA (((387 * B + 6000) - rPh γ0 el0 f) / 18) ((387 * B + 6000) - rPh γ0 el0 f)) ky_572548_SpillForgeModel_spill 2 [(2, .int g607274), (0, .ref q572540), (1, .ref q572541)] [] (va_pl P607275 F607276) ((rPh γ el f - rPh γ0 el0 f) / 18) (rPh γ el f - rPh γ0 el0 f) := by
    intro n2_607289
    induction n2_607289 with
    | zero => intro P607275 F607276 γ el g607274 bg607274 hT607277 hs607278 hph607279 hB607280 x607281 x607282 x607283 x607284 x607285 x607286 x607287 x607288 x607289 hm2_607289; exact absurd hm2_607289 (Nat.not_lt_zero _)
    | succ n2_607289 ih2_607289 =>
      intro P607275 F607276 γ el g607274 bg607274 hT607277 hs607278 hph607279 hB607280 x607281 x607282 x607283 x607284 x607285 x607286 x607287 x607288 x607289 hm2_607289
      clear r572550 r572551 r572552 r572553 r572554
      have ht607291 : rKd γ q572540 10 := rSk_k hs607278 hzq572540 (by decide) (by decide)
      have ht607292 : rKd γ q572541 9 := rSk_k hs607278 hzq572541 (by decide) (by decide)
      have hf607293 : γ 1 q572541 = f := rSk_1 hs607278 hzq572541 (by decide) hf0
      have pk607294 : rPh γ el f ≤ 387 * B + 6000 := rm_pk (rM_ge hT607277 ht607292 hf607293).1 (rM_bd hB607280)
      have hm607295 : q572540 ∈ P607275 := RS_m hT607277 ht607291 (by decide)
      refine rk10_e (show rk_10 γ (F607276 q572540) from RS_o hT607277 ht607291) (fun q607297 q607298 p607299 p607300 p607301 p607302 p607303 p607304 p607305 p607306 p607307 p607308 p607309 p607310 p607311 p607312 p607313 he607296 hB607340 ht607314 ht607315 ht607316 ht607317 ht607318 ht607319 ht607320 ht607321 ht607322 ht607323 ht607324 ht607325 ht607326 ht607327 ht607328 ht607329 ht607330 ht607331 ht607332 ht607333 ht607334 ht607335 ht607336 ht607337 hB607341 => ?_)
      have ac607342 : (fI (F607276 q572540) 11).toInt = p607301.toInt := by rw [he607296]; rfl
      have bp607301 : gB p607301 0 100 := (hB607340.2.2.1)
      have ac607343 : (fI (F607276 q572540) 14).toInt = p607304.toInt := by rw [he607296]; rfl
      have bp607304 : gB p607304 0 2000 := (hB607340.2.2.2.1)
      have r607344 : 0 < γ 6 (γ 1 q572541) := by rw [hf607293]; omega
      have hm607345 : (γ 9 3) ∈ P607275 := RS_m hT607277 ht607319 (by decide)
      obtain ⟨f607347, he607346, bf607347⟩ := show rk_14 I (F607276 (γ 9 3)) from RS_o hT607277 ht607319
      have c9_607348 : cB (F572539 (γ0 9 3)) = f607347 := by rw [← x607288, ← congrFun (rSk_9 hs607278) 3]; exact cB_of he607346
      have hm607349 : (γ 9 19) ∈ P607275 := RS_m hT607277 ht607329 (by decide)
      obtain ⟨f607351, he607350, bf607351⟩ := show rk_21 I (F607276 (γ 9 19)) from RS_o hT607277 ht607329
      have c9_607352 : cB (F607276 (γ0 9 19)) = f607351 := by rw [← congrFun (rSk_9 hs607278) 19]; exact cB_of he607350
      have hm607353 : (γ 9 17) ∈ P607275 := RS_m hT607277 ht607327 (by decide)
      obtain ⟨f607355, he607354, bf607355⟩ := show rk_20 I (F607276 (γ 9 17)) from RS_o hT607277 ht607327
      have cq607356 := x607286
      rw [c9_607348, c9_607352, ac607342] at cq607356
      refine G_iload_n 0 dr_cX17_spill_2 rfl ?_
      refine G_sipush 2000 dr_cX17_spill_3 (by decide +kernel) ?_
      refine G_icmp_ge 71 dr_cX17_spill_6 (by decide +kernel) (fun hc607357 => ?_) (fun hc607357 => ?_)
      · have r607358 : 2000 ≤ g607274.toInt := gj_leL hc607357 (show Int32.toInt 2000 = 2000 by decide)
        have bg607274' : gB g607274 2000 2000 := ⟨by omega, by omega⟩
        have ac607359 : (fI (F607276 q572540) 11).toInt = p607301.toInt := by rw [he607296]; rfl
        have ac607360 : (fI (F607276 q572540) 14).toInt = p607304.toInt := by rw [he607296]; rfl
        have spi607361 := x607286
        rw [show (g607274.toInt : Int).toNat = 2000 by omega] at spi607361
        have r607362 := cq607356.1
        have hv607363 := St_slots (f := f) (n := p607301.toInt.toNat) hT607277 ht607292 hf607293 (by omega)
        obtain ⟨γ, hg607364⟩ : ∃ z, z = gVal γ 7 f p607301.toInt.toNat := ⟨_, rfl⟩
        rw [← hg607364] at hv607363
        have hk607365 := rSk_of hv607363.1
        have r607366 := hv607363.2.1
        have hT607367 := hk607365.1
        have hs607368 := rSk_tr hs607278 hk607365 (by decide) (by decide) (by decide)
        have kp607369 : F607276 (γ0 9 3) = F572539 (γ0 9 3) := (rSk_F hk607365 (rSk_k hs607278 k0_3 (by decide) (by decide)) (by decide) (by decide)).trans x607288
        have kp607370 : F607276 (γ0 9 19) = F607276 (γ0 9 19) := rSk_F hk607365 (rSk_k hs607278 k0_19 (by decide) (by decide)) (by decide) (by decide)
        have r607371 := rSk_F hk607365 ht607291 (by decide) (by decide)
        have ht607372 : rKd γ q572540 10 := rSk_k hk607365 ht607291 (by decide) (by decide)
        have ht607373 : rKd γ q572541 9 := rSk_k hk607365 ht607292 (by decide) (by decide)
        have hf607374 : γ 1 q572541 = f := rSk_1 hk607365 ht607292 (by decide) hf607293
        have mk607375 : mKp (F572539 q572540) (F607276 q572540) := mKp_tr x607289 (mKp_eq (rSk_F hk607365 ht607291 (by decide) (by decide)))
        have hm607376 : q572540 ∈ P607275 := RS_m hT607367 ht607372 (by decide)
        refine rk10_e (show rk_10 γ (F607276 q572540) from RS_o hT607367 ht607372) (fun q607378 q607379 p607380 p607381 p607382 p607383 p607384 p607385 p607386 p607387 p607388 p607389 p607390 p607391 p607392 p607393 p607394 he607377 hB607421 ht607395 ht607396 ht607397 ht607398 ht607399 ht607400 ht607401 ht607402 ht607403 ht607404 ht607405 ht607406 ht607407 ht607408 ht607409 ht607410 ht607411 ht607412 ht607413 ht607414 ht607415 ht607416 ht607417 ht607418 hB607422 => ?_)
        have r607423 : p607382.toInt = p607301.toInt := by have z : p607382 = p607301 := congrArg (fun e => fI e 11) (he607377.symm.trans (r607371.trans he607296)); rw [z]
        have bp607382 : gB p607382 0 100 := (hB607421.2.2.1)
        have r607424 : p607385.toInt = p607304.toInt := by have z : p607385 = p607304 := congrArg (fun e => fI e 14) (he607377.symm.trans (r607371.trans he607296)); rw [z]
        have bp607385 : gB p607385 0 2000 := (hB607421.2.2.2.1)
        have hB607425 : rBd γ el f B := hv607363.2.2.2 B hB607280
        have hph607426 : rPh γ0 el0 f ≤ rPh γ el f := by rw [r607366]; exact hph607279
        have pk607427 : rPh γ el f ≤ 387 * B + 6000 := rm_pk (rM_ge hT607367 ht607373 hf607374).1 (rM_bd hB607425)
        refine G_widen (cs' := ((rPh γ el f - rPh γ0 el0 f) / 18)) (sl' := (rPh γ el f - rPh γ0 el0 f)) (rm_ec r607366) (rm_es r607366) ?_
        have r607428 := gVal_7 hg607364
        have pl607429 := sp_0 (h := cB (F607276 (γ0 9 19))) (rPl_val hT607277 ht607292 hf607293 hk607365 hg607364 x607287)
        have r607430 : 0 < γ 6 (γ 1 q572541) := by rw [hf607374]; omega
        have ac607431 : (fI (F607276 q572540) 11).toInt = p607382.toInt := by rw [he607377]; rfl
        have ac607432 : (fI (F607276 q572540) 14).toInt = p607385.toInt := by rw [he607377]; rfl
        refine G_iconst 0 dr_cX17_spill_71 (by decide +kernel) ?_
        refine G_istore_n (L' := [(2, .int 0), (0, .ref q572540), (1, .ref q572541)]) dr_cX17_spill_72 (Nat.le_of_ble_eq_true rfl) rfl ?_
        have hlp73_610531 : ∀ (n73_610531 : Nat) (P610516 : List Nat) (F610517 : Nat → va_E) (γ el : Nat → Nat → Nat) (g610515 : Int32), gB g610515 0 1000000 → RS D I P610516 F610517 γ el → rSk f [101] ([1, 3, 5, 6, 8, 9, 101] ++ npk) D I P572538 F572539 γ0 el0 P610516 F610517 γ el → rPh γ0 el0 f ≤ rPh γ el f → rBd γ el f B → γ 6 f = γ0 6 f → γ 18 f = γ0 18 f → ((γ 7 f : Nat) : Int) = (fI (F610517 q572540) 11).toInt → (fI (F610517 q572540) 11).toInt = (fI (F607276 q572540) 11).toInt → ((γ 16 f : Nat) : Int) + 2001 ≤ (B : Int) + (fI (F610517 q572540) 14).toInt → 100 ≤ (fI (F610517 q572540) 14).toInt → (F610517 (γ0 9 19) = F607276 (γ0 9 19)) → rPl γ el F610517 q572541 (γ 6 f) (spQ (cB (F572539 (γ0 9 3))) (cB (F607276 (γ0 9 19))) (g610515.toInt : Int).toNat 0) → (F610517 (γ0 9 3) = F572539 (γ0 9 3)) → mKp (F572539 q572540) (F610517 q572540) → ((1000001 : Int) - g610515.toInt).toNat < n73_610531 → G (gV D I) l (gRm 9 195 (((387 * B + 6000) - rPh γ0 el0 f) / 18) ((387 * B + 6000) - rPh γ0 el0 f)) (gMA (gV D I) (pg_572548_SpillForgeModel_spill D I γ0 el0 f B P572538 F572539 q572540 q572541) gNA (((387 * B + 6000) - rPh γ0 el0 f) / 18) ((387 * B + 6000) - rPh γ0 el0 f)) ky_572548_SpillForgeModel_spill 73 [(2, .int g610515), (0, .ref q572540), (1, .ref q572541)] [] (va_pl P610516 F610517) ((rPh γ el f - rPh γ0 el0 f) / 18) (rPh γ el f - rPh γ0 el0 f) := by
          intro n73_610531
          induction n73_610531 with
          | zero => intro P610516 F610517 γ el g610515 bg610515 hT610518 hs610519 hph610520 hB610521 x610522 x610523 x610524 x610525 x610526 x610527 x610528 x610529 x610530 x610531 hm73_610531; exact absurd hm73_610531 (Nat.not_lt_zero _)
          | succ n73_610531 ih73_610531 =>
            intro P610516 F610517 γ el g610515 bg610515 hT610518 hs610519 hph610520 hB610521 x610522 x610523 x610524 x610525 x610526 x610527 x610528 x610529 x610530 x610531 hm73_610531
            clear r607362 r607366 r607371 r607423 r607424 hph607426 pk607427 r607428 r607430
            have ht610533 : rKd γ q572540 10 := rSk_k hs610519 hzq572540 (by decide) (by decide)
            have ht610534 : rKd γ q572541 9 := rSk_k hs610519 hzq572541 (by decide) (by decide)
            have hf610535 : γ 1 q572541 = f := rSk_1 hs610519 hzq572541 (by decide) hf0
            have pk610536 : rPh γ el f ≤ 387 * B + 6000 := rm_pk (rM_ge hT610518 ht610534 hf610535).1 (rM_bd hB610521)
            have r610537 : 0 < γ 6 (γ 1 q572541) := by rw [hf610535]; omega
            have hm610538 : q572540 ∈ P610516 := RS_m hT610518 ht610533 (by decide)
            refine rk10_e (show rk_10 γ (F610517 q572540) from RS_o hT610518 ht610533) (fun q610540 q610541 p610542 p610543 p610544 p610545 p610546 p610547 p610548 p610549 p610550 p610551 p610552 p610553 p610554 p610555 p610556 he610539 hB610583 ht610557 ht610558 ht610559 ht610560 ht610561 ht610562 ht610563 ht610564 ht610565 ht610566 ht610567 ht610568 ht610569 ht610570 ht610571 ht610572 ht610573 ht610574 ht610575 ht610576 ht610577 ht610578 ht610579 ht610580 hB610584 => ?_)
            have ac610585 : (fI (F610517 q572540) 11).toInt = p610544.toInt := by rw [he610539]; rfl
            have bp610544 : gB p610544 0 100 := (hB610583.2.2.1)
            have ac610586 : (fI (F610517 q572540) 14).toInt = p610547.toInt := by rw [he610539]; rfl
            have bp610547 : gB p610547 0 2000 := (hB610583.2.2.2.1)
            refine G_iload_n 0 dr_cX17_spill_73 rfl ?_
            refine G_aload_n 2 dr_cX17_spill_74 rfl ?_
            have hm610587 : q572541 ∈ P610516 := RS_m hT610518 ht610534 (by decide)
            obtain ⟨q610589, q610590, p610591, p610592, he610588, ht610608, ht610593, ht610594, ht610595, ht610596, r610597, r610598, r610599, r610600, r610601, r610602, r610603, r610604, r610605, r610606, r610607⟩ := show rk_9 γ el q572541 (F610517 q572541) from RS_o hT610518 ht610534
            have bp610591 : gB p610591 0 1000000 := ⟨by omega, by omega⟩
            have bp610592 : gB p610592 0 1000000 := ⟨by omega, by omega⟩
            have hf610609 : γ 1 q610589 = f := (show γ 1 q610589 = γ 1 q572541 from ht610594).trans hf610535
            have hf610610 : γ 1 q610590 = f := (show γ 1 q610590 = γ 1 q572541 from ht610596).trans hf610535
            have r610611 : γ 6 (γ 1 q572541) = γ 6 f := by rw [hf610535]
            have r610612 : γ 16 (γ 1 q572541) = γ 16 f := by rw [hf610535]
            have r610613 : p610592.toInt = γ 6 f ∧ p610592.toInt ≤ 40 := by omega
            clear r610603
            refine Gw_callV (As := []) (gV_ok D I) (cp_12496_Code_size l hl0 D I P610516 F610517 q572541 q610589 q610590 p610591 p610592 hm610587 he610588) dr_cX17_spill_75 ⟨wr_10_160, wr_1_15, wr_9_131, by decide, rfl, (Nat.le_of_ble_eq_true rfl), (Nat.le_of_ble_eq_true rfl)⟩ wr_9_129 wr_9_130 hm610587 he610588 rfl (rm_zc pk610536) (rm_zs pk610536) (Nat.le_of_ble_eq_true rfl) (fun r610617 w610618 dc610614 ds610615 hp610616 => ?_) (fun _ _ _ _ _ z => z.elim)
            obtain ⟨rfl, rfl, hdc, hds⟩ := hp610616
            change G _ _ _ _ _ _ _ (.int p610592 :: _) _ _ _
            refine G_widen (cs' := ((rPh γ el f - rPh γ0 el0 f) / 18)) (sl' := (rPh γ el f - rPh γ0 el0 f)) (rm_d0 hdc) (rm_d0 hds) ?_
            refine G_icmp_ge 431 dr_cX17_spill_78 (by decide +kernel) (fun hc610619 => ?_) (fun hc610619 => ?_)
            · have r610620 : p610592.toInt ≤ g610515.toInt := gC_le hc610619
              have ac610621 : (fI (F610517 q572540) 11).toInt = p610544.toInt := by rw [he610539]; rfl
              have ac610622 : (fI (F610517 q572540) 14).toInt = p610547.toInt := by rw [he610539]; rfl
              have ni610623 : rNI γ el F610517 q572541 (γ 6 f) (fI (F610517 q572540) 11).toInt := by rw [show (fI (F610517 q572540) 11).toInt = (fI (F607276 q572540) 11).toInt by omega]; exact spI_e rfl spi607361 x572545 (sp_end x610529 (by omega))
              refine G_aload_n 2 dr_cX17_spill_431 rfl ?_
              refine Gw_callV (As := []) (gV_ok D I) (ct_7646_Code_countRows l hl0 D I γ el P610516 F610517 q572541 hT610518 ht610534 (by omega)) dr_cX17_spill_432 ⟨wr_10_229, wr_1_15, wr_10_232, by decide, rfl, (Nat.le_of_ble_eq_true rfl), (Nat.le_of_ble_eq_true rfl)⟩ wr_10_230 wr_10_231 hm610587 he610588 rfl (rm_zc pk610536) (rm_zs pk610536) (Nat.le_of_ble_eq_true rfl) (fun r610627 w610628 dc610624 ds610625 hp610626 => ?_) (fun _ _ _ _ _ z => z.elim)
              obtain ⟨o610629, rfl, rfl, hdc, hds⟩ := hp610626
              have bo610629 := gB_any o610629
              change G _ _ _ _ _ _ _ (.int o610629 :: _) _ _ _
              refine G_widen (cs' := ((rPh γ el f - rPh γ0 el0 f) / 18)) (sl' := (rPh γ el f - rPh γ0 el0 f)) (rm_d0 hdc) (rm_d0 hds) ?_
              refine G_sipush 4000 dr_cX17_spill_435 (by decide +kernel) ?_
              refine G_icmp_gt 445 dr_cX17_spill_438 (by decide +kernel) (fun hc610630 => ?_) (fun hc610630 => ?_)
              · have r610631 : 4000 < o610629.toInt := gj_ltL hc610630 (show Int32.toInt 4000 = 4000 by decide)
                have bo610629' : gB o610629 4001 2147483647 := ⟨by omega, by omega⟩
                refine G_iconst 0 dr_cX17_spill_445 (by decide +kernel) ?_
                exact G_zretA FieldType.boolean dr_cX17_spill_446 rfl rfl (rm_zc pk610536) (rm_zs pk610536) ⟨P610516, F610517, γ, el, 0, rfl, rfl, hs610519, (rm_pp hph610520), hB610521, (gB_w (gBl (show Int32.toInt 0 = 0 by decide)) (by decide) (by decide)), (by have qa0 : Int32.toInt 0 = 0 := (by decide); omega), (Or.inl (by decide)), x610530, x610531⟩
              · have r610632 : o610629.toInt ≤ 4000 := gj_nltL hc610630 (show Int32.toInt 4000 = 4000 by decide)
                have bo610629' : gB o610629 (-2147483648) 4000 := ⟨by omega, by omega⟩
                refine G_iconst 1 dr_cX17_spill_441 (by decide +kernel) ?_
                refine G_goto 446 dr_cX17_spill_442 (by decide +kernel) ?_
                exact G_zretA FieldType.boolean dr_cX17_spill_446 rfl rfl (rm_zc pk610536) (rm_zs pk610536) ⟨P610516, F610517, γ, el, 1, rfl, rfl, hs610519, (rm_pp hph610520), hB610521, (gB_w (gBl (show Int32.toInt 1 = 1 by decide)) (by decide) (by decide)), (by have qa0 : Int32.toInt 1 = 1 := (by decide); omega), (Or.inr ⟨by omega, by omega, by omega, by omega, by omega, ni610623⟩), x610530, x610531⟩
            · have r610633 : g610515.toInt < p610592.toInt := gC_nle hc610619
              have bg610515' : gB g610515 0 999999 := ⟨by omega, by omega⟩
              have bp610592' : gB p610592 1 1000000 := ⟨by omega, by omega⟩
              refine G_aload_n 2 dr_cX17_spill_81 rfl ?_
              refine G_iload_n 0 dr_cX17_spill_82 rfl ?_
              have hm610634 : q610589 ∈ P610516 := RS_m hT610518 ht610593 (by decide)
              obtain ⟨⟨p610636, p610637, q610638, he610635, r610639, r610640, r610641, r610643⟩, r610642⟩ := show rk_4 D I γ el F610517 q610589 from RS_o hT610518 ht610593
              have bp610636 := gB_any p610636
              have bp610637 : gB p610637 0 1000000 := ⟨by omega, by omega⟩
              obtain ⟨r610644, r610645, n610652, f610653, r610646, r610647, r610648, r610649, r610650, r610651⟩ := rLC_n r610641 (by omega)
              have hm610654 : q610638 ∈ P610516 := RS_m hT610518 r610644 (by decide)
              obtain ⟨q610655, hx610656⟩ : ∃ x, x = el q610589 g610515.toInt.toNat := ⟨_, rfl⟩
              have hx610657 : f610653 g610515.toNatClampNeg = some q610655 := (r610650 _ (show g610515.toInt.toNat < γ 2 q610589 by first | assumption | omega)).trans (by rw [hx610656])
              have ht610660 : rKd γ q610655 2 := by rw [hx610656]; exact (r610604 _ (by omega)).resolve_right (fun z => absurd z.1 (by omega))
              have ht610661 : rFm γ q610655 q610589 := by rw [hx610656]; exact (r610642 _ (show g610515.toInt.toNat < γ 2 q610589 by omega)).2.1
              have hm610662 : q610655 ∈ P610516 := RS_m hT610518 ht610660 (by decide)
              obtain ⟨q610664, q610665, p610666, p610667, he610663, ht610674, ht610668, ht610669, ht610670, ht610671, ht610672, bp610666, bp610667, r610673, r610675, r610676⟩ := show rk_2 γ q610655 (F610517 q610655) from RS_o hT610518 ht610660
              refine Gw_callV (As := [.int g610515]) (gV_ok D I) (cp_7737_Code_get l hl0 D I P610516 F610517 q572541 q610589 q610638 g610515 q610590 p610591 p610592 p610636 p610637 f610653 n610652 q610655 q610664 q610665 p610666 p610667 hm610587 hm610634 hm610654 hm610662 he610588 he610635 r610646 he610663 (gB_w bg610515' (by decide) (by decide)) (gB_w bp610637 (by decide) (by decide)) (by omega) (by omega) (by assumption) (by omega)) dr_cX17_spill_83 ⟨wr_10_161, wr_1_15, wr_10_141, by decide, rfl, (Nat.le_of_ble_eq_true rfl), (Nat.le_of_ble_eq_true rfl)⟩ wr_10_139 wr_10_140 hm610587 he610588 rfl (rm_zc pk610536) (rm_zs pk610536) (Nat.le_of_ble_eq_true rfl) (fun r610680 w610681 dc610677 ds610678 hp610679 => ?_) (fun _ _ _ _ _ z => z.elim)
              obtain ⟨rfl, rfl, hdc, hds⟩ := hp610679
              change G _ _ _ _ _ _ _ (.ref q610655 :: _) _ _ _
              refine G_widen (cs' := ((rPh γ el f - rPh γ0 el0 f) / 18)) (sl' := (rPh γ el f - rPh γ0 el0 f)) (rm_d0 hdc) (rm_d0 hds) ?_
              have hf610682 : γ 1 q610655 = f := (show γ 1 q610655 = γ 1 q610589 from ht610661).trans ((show γ 1 q610589 = γ 1 q572541 from ht610594).trans hf610535)
              have hf610683 : γ 1 q610664 = f := (show γ 1 q610664 = γ 1 q610655 from ht610669).trans hf610682
              have hf610684 : γ 1 q610665 = f := (show γ 1 q610665 = γ 1 q610655 from ht610671).trans hf610682
              have r610685 : γ 6 (γ 1 q610655) = γ 6 f := by rw [hf610682]
              have r610686 : γ 7 (γ 1 q610655) = γ 7 f := by rw [hf610682]
              have r610687 : γ 19 (γ 1 q610655) = γ 19 f := by rw [hf610682]
              have r610688 := r610673.resolve_left (by omega)
              clear r610673
              have r610689 : γ 2 (γ 14 q610655) = γ 2 q610664 := by rw [ht610674.1]
              have r610690 : g610515.toInt.toNat < γ 2 (γ 14 q572541) := by rw [ht610608.1]; omega
              have r610691 : el (γ 14 q572541) g610515.toInt.toNat = q610655 := by rw [ht610608.1, hx610656]
              refine G_astore_n (L' := [(3, .ref q610655), (2, .int g610515), (0, .ref q572540), (1, .ref q572541)]) dr_cX17_spill_86 (Nat.le_of_ble_eq_true rfl) rfl ?_
              refine G_iconst 0 dr_cX17_spill_87 (by decide +kernel) ?_
              refine G_istore (L' := [(4, .int 0), (3, .ref q610655), (2, .int g610515), (0, .ref q572540), (1, .ref q572541)]) dr_cX17_spill_88 (Nat.le_of_ble_eq_true rfl) rfl ?_
              have hlp90_612166 : ∀ (n90_612166 : Nat) (P612145 : List Nat) (F612146 : Nat → va_E) (γ el : Nat → Nat → Nat) (g612144 : Int32), gB g612144 0 1000003 → RS D I P612145 F612146 γ el → rSk f [101] ([1, 3, 5, 6, 8, 9, 101] ++ npk) D I P572538 F572539 γ0 el0 P612145 F612146 γ el → rPh γ0 el0 f ≤ rPh γ el f → rBd γ el f B → rKd γ q610655 2 → γ 1 q610655 = f → g610515.toInt.toNat < γ 2 (γ 14 q572541) → el (γ 14 q572541) g610515.toInt.toNat = q610655 → γ 6 f = γ0 6 f → γ 18 f = γ0 18 f → ((γ 7 f : Nat) : Int) = (fI (F612146 q572540) 11).toInt → (fI (F612146 q572540) 11).toInt = (fI (F607276 q572540) 11).toInt → ((γ 16 f : Nat) : Int) + 2001 ≤ (B : Int) + (fI (F612146 q572540) 14).toInt → 100 ≤ (fI (F612146 q572540) 14).toInt → (F612146 (γ0 9 19) = F607276 (γ0 9 19)) → rPl γ el F612146 q572541 (γ 6 f) (spQ (cB (F572539 (γ0 9 3))) (cB (F607276 (γ0 9 19))) (g610515.toInt : Int).toNat (g612144.toInt : Int).toNat) → (g612144.toInt : Int) ≤ γ 2 (γ 14 q610655) + 1 → (g610515.toInt : Int) < γ 6 f → (F612146 (γ0 9 3) = F572539 (γ0 9 3)) → mKp (F572539 q572540) (F612146 q572540) → (γ 2 (γ 14 q610655) + 1 - (g612144.toInt : Int).toNat) < n90_612166 → G (gV D I) l (gRm 9 195 (((387 * B + 6000) - rPh γ0 el0 f) / 18) ((387 * B + 6000) - rPh γ0 el0 f)) (gMA (gV D I) (pg_572548_SpillForgeModel_spill D I γ0 el0 f B P572538 F572539 q572540 q572541) gNA (((387 * B + 6000) - rPh γ0 el0 f) / 18) ((387 * B + 6000) - rPh γ0 el0 f)) ky_572548_SpillForgeModel_spill 90 [(4, .int g612144), (3, .ref q610655), (2, .int g610515), (0, .ref q572540), (1, .ref q572541)] [] (va_pl P612145 F612146) ((rPh γ el f - rPh γ0 el0 f) / 18) (rPh γ el f - rPh γ0 el0 f) := by
                intro n90_612166
                induction n90_612166 with
                | zero => intro P612145 F612146 γ el g612144 bg612144 hT612147 hs612148 hph612149 hB612150 ht612151 hf612152 r612153 r612154 x612155 x612156 x612157 x612158 x612159 x612160 x612161 x612162 x612163 x612164 x612165 x612166 hm90_612166; exact absurd hm90_612166 (Nat.not_lt_zero _)
                | succ n90_612166 ih90_612166 =>
                  intro P612145 F612146 γ el g612144 bg612144 hT612147 hs612148 hph612149 hB612150 ht612151 hf612152 r612153 r612154 x612155 x612156 x612157 x612158 x612159 x612160 x612161 x612162 x612163 x612164 x612165 x612166 hm90_612166
                  clear r610597 r610598 r610599 r610600 r610601 r610602 r610604 r610605 r610606 r610607 bp610591 bp610592 bp610666 bp610667 r610675 r610676 r610611 r610612 r610613 r610639 r610640 r610641 r610643 r610642 r610644 r610645 r610646 r610647 r610648 r610649 r610650 r610651 r610685 r610686 r610687 r610688 r610689 r610690 r610691
                  have ht612168 : rKd γ q572540 10 := rSk_k hs612148 hzq572540 (by decide) (by decide)
                  have ht612169 : rKd γ q572541 9 := rSk_k hs612148 hzq572541 (by decide) (by decide)
                  have hf612170 : γ 1 q572541 = f := rSk_1 hs612148 hzq572541 (by decide) hf0
                  have pk612171 : rPh γ el f ≤ 387 * B + 6000 := rm_pk (rM_ge hT612147 ht612169 hf612170).1 (rM_bd hB612150)
                  have r612172 : 0 < γ 6 (γ 1 q572541) := by rw [hf612170]; omega
                  have hm612173 : q572540 ∈ P612145 := RS_m hT612147 ht612168 (by decide)
                  refine rk10_e (show rk_10 γ (F612146 q572540) from RS_o hT612147 ht612168) (fun q612175 q612176 p612177 p612178 p612179 p612180 p612181 p612182 p612183 p612184 p612185 p612186 p612187 p612188 p612189 p612190 p612191 he612174 hB612218 ht612192 ht612193 ht612194 ht612195 ht612196 ht612197 ht612198 ht612199 ht612200 ht612201 ht612202 ht612203 ht612204 ht612205 ht612206 ht612207 ht612208 ht612209 ht612210 ht612211 ht612212 ht612213 ht612214 ht612215 hB612219 => ?_)
                  have ac612220 : (fI (F612146 q572540) 11).toInt = p612179.toInt := by rw [he612174]; rfl
                  have bp612179 : gB p612179 0 100 := (hB612218.2.2.1)
                  have ac612221 : (fI (F612146 q572540) 14).toInt = p612182.toInt := by rw [he612174]; rfl
                  have bp612182 : gB p612182 0 2000 := (hB612218.2.2.2.1)
                  refine G_iload 0 dr_cX17_spill_90 rfl ?_
                  refine G_aload_n 1 dr_cX17_spill_92 rfl ?_
                  have hm612222 : q610655 ∈ P612145 := RS_m hT612147 ht612151 (by decide)
                  obtain ⟨q612224, q612225, p612226, p612227, he612223, ht612234, ht612228, ht612229, ht612230, ht612231, ht612232, bp612226, bp612227, r612233, r612235, r612236⟩ := show rk_2 γ q610655 (F612146 q610655) from RS_o hT612147 ht612151
                  have hf612237 : γ 1 q612224 = f := (show γ 1 q612224 = γ 1 q610655 from ht612229).trans hf612152
                  have hf612238 : γ 1 q612225 = f := (show γ 1 q612225 = γ 1 q610655 from ht612231).trans hf612152
                  have r612239 : γ 6 (γ 1 q610655) = γ 6 f := by rw [hf612152]
                  have r612240 : γ 7 (γ 1 q610655) = γ 7 f := by rw [hf612152]
                  have r612241 : γ 19 (γ 1 q610655) = γ 19 f := by rw [hf612152]
                  have r612242 := r612233.resolve_left (by omega)
                  clear r612233
                  have r612243 : γ 2 (γ 14 q610655) = γ 2 q612224 := by rw [ht612234.1]
                  refine Gp_get 0 hm612222 he612223 dr_cX17_spill_93 (gk_X12 D I) (Nat.le_of_ble_eq_true rfl) wr_9_220 rfl ?_
                  have hm612244 : q612224 ∈ P612145 := RS_m hT612147 ht612228 (by decide)
                  obtain ⟨⟨p612246, p612247, q612248, he612245, r612249, r612250, r612251, r612253⟩, r612252⟩ := show rk_3 D I γ el F612146 q612224 from RS_o hT612147 ht612228
                  have bp612246 := gB_any p612246
                  have bp612247 : gB p612247 0 1000000 := ⟨by omega, by omega⟩
                  refine Gw_callV (As := []) (gV_ok D I) (cp_7_ArrayList_size l hl0 D I P612145 F612146 q612224 p612246 q612248 p612247 hm612244 he612245 (gB_w bp612247 (by decide) (by decide))) dr_cX17_spill_96 ⟨wr_10_200, wr_1_18, wr_9_160, by decide, rfl, (Nat.le_of_ble_eq_true rfl), (Nat.le_of_ble_eq_true rfl)⟩ wr_9_158 wr_9_159 hm612244 he612245 rfl (rm_zc pk612171) (rm_zs pk612171) (Nat.le_of_ble_eq_true rfl) (fun r612257 w612258 dc612254 ds612255 hp612256 => ?_) (fun _ _ _ _ _ z => z.elim)
                  obtain ⟨rfl, rfl, hdc, hds⟩ := hp612256
                  change G _ _ _ _ _ _ _ (.int p612247 :: _) _ _ _
                  refine G_widen (cs' := ((rPh γ el f - rPh γ0 el0 f) / 18)) (sl' := (rPh γ el f - rPh γ0 el0 f)) (rm_d0 hdc) (rm_d0 hds) ?_
                  refine G_icmp_gt 425 dr_cX17_spill_99 (by decide +kernel) (fun hc612259 => ?_) (fun hc612259 => ?_)
                  · have r612260 : p612247.toInt < g612144.toInt := gC_lt hc612259
                    have bg612144' : gB g612144 1 1000003 := ⟨by omega, by omega⟩
                    obtain ⟨z612261, hz612261⟩ : ∃ z : Int32, z = g610515 + Int32.ofInt 1 := ⟨_, rfl⟩
                    have ez612261 : z612261.toInt = g610515.toInt + 1 := gI_inc hz612261 (by decide) bg610515' (by decide) (by decide)
                    have bz612261 : gB z612261 1 1000000 := ⟨by omega, by omega⟩
                    refine G_iinc (L' := [(2, .int z612261), (4, .int g612144), (3, .ref q610655), (0, .ref q572540), (1, .ref q572541)]) z612261 2 dr_cX17_spill_425 rfl hz612261.symm (Nat.le_of_ble_eq_true rfl) rfl ?_
                    refine G_goto 73 dr_cX17_spill_428 (by decide +kernel) ?_
                    refine G_lv (L' := [(2, .int z612261), (0, .ref q572540), (1, .ref q572541)]) [0, 3, 4] rfl ?_
                    have ac612262 : (fI (F612146 q572540) 11).toInt = p612179.toInt := by rw [he612174]; rfl
                    have ac612263 : (fI (F612146 q572540) 14).toInt = p612182.toInt := by rw [he612174]; rfl
                    exact ih73_610531 P612145 F612146 γ el z612261 (gB_w bz612261 (by decide) (by decide)) hT612147 hs612148 hph612149 hB612150 (by omega) (by omega) (by omega) (by omega) (by omega) (by omega) x612161 (sp_nx x612162 (by unfold rwL; rw [r612154]; omega) (by omega)) x612165 x612166 (by omega)
                  · have r612264 : g612144.toInt ≤ p612247.toInt := gC_nlt hc612259
                    have bg612144' : gB g612144 0 1000000 := ⟨by omega, by omega⟩
                    have jn292_612294 : ∀ (P612267 : List Nat) (F612268 : Nat → va_E) (γ el : Nat → Nat → Nat) (g612265 : Int32) (q612266 : Nat), gB g612265 0 1000001 → RS D I P612267 F612268 γ el → rSk f [101] ([1, 3, 5, 6, 8, 9, 101] ++ npk) D I P572538 F572539 γ0 el0 P612267 F612268 γ el → rPh γ0 el0 f ≤ rPh γ el f → rBd γ el f B → rKd γ q610655 2 → γ 1 q610655 = f → g610515.toInt.toNat < γ 2 (γ 14 q572541) → el (γ 14 q572541) g610515.toInt.toNat = q610655 → rKd γ q612266 1 → γ 1 q612266 = f → γ 6 f = γ0 6 f → γ 18 f = γ0 18 f → ((γ 7 f : Nat) : Int) = (fI (F612268 q572540) 11).toInt → (fI (F612268 q572540) 11).toInt = (fI (F607276 q572540) 11).toInt → ((γ 16 f : Nat) : Int) + 2001 ≤ (B : Int) + (fI (F612268 q572540) 14).toInt → 100 ≤ (fI (F612268 q572540) 14).toInt → (F612268 (γ0 9 19) = F607276 (γ0 9 19)) → rPl γ el F612268 q572541 (γ 6 f) (spX (cB (F572539 (γ0 9 3))) (cB (F607276 (γ0 9 19))) (g610515.toInt : Int).toNat (g612265.toInt : Int).toNat) → rAt γ el q572541 (g610515.toInt : Int).toNat (g612265.toInt : Int).toNat = q612266 → rS2 (cB (F572539 (γ0 9 3))) (cB (F607276 (γ0 9 19))) (F612268 q612266) → (g612265.toInt : Int) ≤ γ 2 (γ 14 q610655) → (g610515.toInt : Int) < γ 6 f → (γ 2 (γ 14 q610655) + 1 - (g612265.toInt : Int).toNat) < n90_612166 + 1 → eO g612265.toInt (γ 2 (γ 14 q610655) : Nat) (fI (F612268 q612266) 0).toInt → (F612268 (γ0 9 3) = F572539 (γ0 9 3)) → mKp (F572539 q572540) (F612268 q572540) → G (gV D I) l (gRm 9 195 (((387 * B + 6000) - rPh γ0 el0 f) / 18) ((387 * B + 6000) - rPh γ0 el0 f)) (gMA (gV D I) (pg_572548_SpillForgeModel_spill D I γ0 el0 f B P572538 F572539 q572540 q572541) gNA (((387 * B + 6000) - rPh γ0 el0 f) / 18) ((387 * B + 6000) - rPh γ0 el0 f)) ky_572548_SpillForgeModel_spill 292 [(0, .ref q572540), (1, .ref q572541), (2, .int g610515), (3, .ref q610655), (4, .int g612265), (5, .ref q612266)] [] (va_pl P612267 F612268) ((rPh γ el f - rPh γ0 el0 f) / 18) (rPh γ el f - rPh γ0 el0 f) := by
                      intro P612267 F612268 γ el g612265 q612266 bg612265 hT612269 hs612270 hph612271 hB612272 ht612273 hf612274 r612275 r612276 ht612277 hf612278 x612279 x612280 x612281 x612282 x612283 x612284 x612285 x612286 x612287 x612288 x612289 x612290 x612291 x612292 x612293 x612294
                      clear bp612226 bp612227 r612235 r612236 r612239 r612240 r612241 r612242 r612243 r612249 r612250 r612251 r612253 r612252
                      have ht612296 : rKd γ q572540 10 := rSk_k hs612270 hzq572540 (by decide) (by decide)
                      have ht612297 : rKd γ q572541 9 := rSk_k hs612270 hzq572541 (by decide) (by decide)
                      have hf612298 : γ 1 q572541 = f := rSk_1 hs612270 hzq572541 (by decide) hf0
                      have pk612299 : rPh γ el f ≤ 387 * B + 6000 := rm_pk (rM_ge hT612269 ht612297 hf612298).1 (rM_bd hB612272)
                      have r612300 : 0 < γ 6 (γ 1 q572541) := by rw [hf612298]; omega
                      have hm612301 : q572540 ∈ P612267 := RS_m hT612269 ht612296 (by decide)
                      refine rk10_e (show rk_10 γ (F612268 q572540) from RS_o hT612269 ht612296) (fun q612303 q612304 p612305 p612306 p612307 p612308 p612309 p612310 p612311 p612312 p612313 p612314 p612315 p612316 p612317 p612318 p612319 he612302 hB612346 ht612320 ht612321 ht612322 ht612323 ht612324 ht612325 ht612326 ht612327 ht612328 ht612329 ht612330 ht612331 ht612332 ht612333 ht612334 ht612335 ht612336 ht612337 ht612338 ht612339 ht612340 ht612341 ht612342 ht612343 hB612347 => ?_)
                      have ac612348 : (fI (F612268 q572540) 11).toInt = p612307.toInt := by rw [he612302]; rfl
                      have bp612307 : gB p612307 0 100 := (hB612346.2.2.1)
                      have ac612349 : (fI (F612268 q572540) 14).toInt = p612310.toInt := by rw [he612302]; rfl
                      have bp612310 : gB p612310 0 2000 := (hB612346.2.2.2.1)
                      have hm612350 : q612266 ∈ P612267 := RS_m hT612269 ht612277 (by decide)
                      obtain ⟨p612352, p612353, p612354, p612355, p612356, p612357, p612358, he612351, bp612352, bp612353, bp612356, bp612357, bp612358, r612359, r612360, r612361, r612362, r612363⟩ := show rk_1 γ q612266 (F612268 q612266) from RS_o hT612269 ht612277
                      have bp612354 := gB_any p612354
                      have bp612355 := gB_any p612355
                      have r612364 : γ 7 (γ 1 q612266) = γ 7 f := by rw [hf612278]
                      refine G_aload 5 dr_cX17_spill_292 rfl ?_
                      refine Gw_callV (As := []) (gV_ok D I) (cp_398616_Row_sets l hl0 D I P612267 F612268 q612266 p612352 p612353 p612354 p612355 p612356 p612357 p612358 hm612350 he612351 bp612352 bp612353 bp612356 bp612357 bp612358) dr_cX17_spill_294 ⟨wr_10_181, wr_1_39, wr_10_184, by decide, rfl, (Nat.le_of_ble_eq_true rfl), (Nat.le_of_ble_eq_true rfl)⟩ wr_10_182 wr_10_183 hm612350 he612351 rfl (rm_zc pk612299) (rm_zs pk612299) (Nat.le_of_ble_eq_true rfl) (fun r612368 w612369 dc612365 ds612366 hp612367 => ?_) (fun _ _ _ _ _ z => z.elim)
                      obtain ⟨o612370, rfl, rfl, hdc, hds, bo612370, x612371⟩ := hp612367
                      change G _ _ _ _ _ _ _ (.int o612370 :: _) _ _ _
                      refine G_widen (cs' := ((rPh γ el f - rPh γ0 el0 f) / 18)) (sl' := (rPh γ el f - rPh γ0 el0 f)) (rm_d0 hdc) (rm_d0 hds) ?_
                      refine G_if_eq 419 dr_cX17_spill_297 (by decide +kernel) (fun hc612372 => ?_) (fun hc612372 => ?_)
                      · have r612373 : o612370.toInt = 0 := gj_eq hc612372 (show Int32.toInt 0 = 0 by decide)
                        have bo612370' : gB o612370 0 0 := gB_t0 r612373
                        have rn612375 : rNx (nSp (cB (F572539 (γ0 9 3))) (cB (F607276 (γ0 9 19)))) (F612268 q612266) := rS2_n he612351 he612351 x612288 (fun h => (uS_0 x612371 (by omega) h).elim)
                        have pl612374 := sp_fin x612286 x612287 rn612375 (rfl : (g612265.toInt : Int).toNat + 1 = (g612265.toInt : Int).toNat + 1)
                        obtain ⟨z612376, hz612376⟩ : ∃ z : Int32, z = g612265 + Int32.ofInt 1 := ⟨_, rfl⟩
                        have ez612376 : z612376.toInt = g612265.toInt + 1 := gI_inc hz612376 (by decide) bg612265 (by decide) (by decide)
                        have bz612376 : gB z612376 1 1000002 := ⟨by omega, by omega⟩
                        refine G_iinc (L' := [(4, .int z612376), (0, .ref q572540), (1, .ref q572541), (2, .int g610515), (3, .ref q610655), (5, .ref q612266)]) z612376 4 dr_cX17_spill_419 rfl hz612376.symm (Nat.le_of_ble_eq_true rfl) rfl ?_
                        refine G_goto 90 dr_cX17_spill_422 (by decide +kernel) ?_
                        refine G_lv (L' := [(4, .int z612376), (3, .ref q610655), (2, .int g610515), (0, .ref q572540), (1, .ref q572541)]) [0, 4, 3, 1, 2] rfl ?_
                        have ac612377 : (fI (F612268 q572540) 11).toInt = p612307.toInt := by rw [he612302]; rfl
                        have ac612378 : (fI (F612268 q572540) 14).toInt = p612310.toInt := by rw [he612302]; rfl
                        exact ih90_612166 P612267 F612268 γ el z612376 (gB_w bz612376 (by decide) (by decide)) hT612269 hs612270 hph612271 hB612272 ht612273 hf612274 r612275 r612276 (by omega) (by omega) (by omega) (by omega) (by omega) (by omega) x612285 (by rw [(show (z612376.toInt : Int).toNat = ((g612265.toInt : Int).toNat + 1) from tn_eq1 (by omega) (by omega))]; exact pl612374) (by omega) (by omega) x612293 x612294 (ms_g x612291 (by omega) (by omega) (by omega))
                      · have r612379 : o612370.toInt ≠ 0 := gj_neq hc612372 (show Int32.toInt 0 = 0 by decide)
                        have bo612370' : gB o612370 1 1 := gB_t1 bo612370 r612379
                        refine G_aload 5 dr_cX17_spill_300 rfl ?_
                        refine Gp_get 0 hm612350 he612351 dr_cX17_spill_302 (gk_X15 D I) (Nat.le_of_ble_eq_true rfl) wr_9_177 rfl ?_
                        refine G_bipush 21 dr_cX17_spill_305 (by decide +kernel) ?_
                        refine G_icmp_eq 419 dr_cX17_spill_307 (by decide +kernel) (fun hc612380 => ?_) (fun hc612380 => ?_)
                        · have r612381 : p612352.toInt = 21 := gj_eq hc612380 (show Int32.toInt 21 = 21 by decide)
                          have bp612352' : gB p612352 21 21 := ⟨by omega, by omega⟩
                          have rn612383 : rNx (nSp (cB (F572539 (γ0 9 3))) (cB (F607276 (γ0 9 19)))) (F612268 q612266) := rS2_n he612351 he612351 x612288 (fun _ => Or.inr ⟨rfl, Or.inl (by omega)⟩)
                          have pl612382 := sp_fin x612286 x612287 rn612383 (rfl : (g612265.toInt : Int).toNat + 1 = (g612265.toInt : Int).toNat + 1)
                          obtain ⟨z612384, hz612384⟩ : ∃ z : Int32, z = g612265 + Int32.ofInt 1 := ⟨_, rfl⟩
                          have ez612384 : z612384.toInt = g612265.toInt + 1 := gI_inc hz612384 (by decide) bg612265 (by decide) (by decide)
                          have bz612384 : gB z612384 1 1000002 := ⟨by omega, by omega⟩
                          refine G_iinc (L' := [(4, .int z612384), (0, .ref q572540), (1, .ref q572541), (2, .int g610515), (3, .ref q610655), (5, .ref q612266)]) z612384 4 dr_cX17_spill_419 rfl hz612384.symm (Nat.le_of_ble_eq_true rfl) rfl ?_
                          refine G_goto 90 dr_cX17_spill_422 (by decide +kernel) ?_
                          refine G_lv (L' := [(4, .int z612384), (3, .ref q610655), (2, .int g610515), (0, .ref q572540), (1, .ref q572541)]) [0, 4, 3, 1, 2] rfl ?_
                          have ac612385 : (fI (F612268 q572540) 11).toInt = p612307.toInt := by rw [he612302]; rfl
                          have ac612386 : (fI (F612268 q572540) 14).toInt = p612310.toInt := by rw [he612302]; rfl
                          exact ih90_612166 P612267 F612268 γ el z612384 (gB_w bz612384 (by decide) (by decide)) hT612269 hs612270 hph612271 hB612272 ht612273 hf612274 r612275 r612276 (by omega) (by omega) (by omega) (by omega) (by omega) (by omega) x612285 (by rw [(show (z612384.toInt : Int).toNat = ((g612265.toInt : Int).toNat + 1) from tn_eq1 (by omega) (by omega))]; exact pl612382) (by omega) (by omega) x612293 x612294 (ms_g x612291 (by omega) (by omega) (by omega))
                        · have r612387 : p612352.toInt ≠ 21 := gj_neq hc612380 (show Int32.toInt 21 = 21 by decide)
                          refine G_aload_n 0 dr_cX17_spill_310 rfl ?_
                          refine Gp_get 19 hm612301 he612302 dr_cX17_spill_311 (gk_X17 D I) (Nat.le_of_ble_eq_true rfl) wr_7_93 rfl ?_
                          refine G_aload 5 dr_cX17_spill_314 rfl ?_
                          refine Gp_get 1 hm612350 he612351 dr_cX17_spill_316 (gk_X15 D I) (Nat.le_of_ble_eq_true rfl) wr_9_182 rfl ?_
                          have hm612388 : (γ 9 19) ∈ P612267 := RS_m hT612269 ht612335 (by decide)
                          obtain ⟨f612390, he612389, bf612390⟩ := show rk_21 I (F612268 (γ 9 19)) from RS_o hT612269 ht612335
                          refine Gp_iald 0 hm612388 he612389 dr_cX17_spill_319 rfl (gB_in bp612353 (by decide) (by decide)) (G_nam fun z612391 hz612391 => ?_)
                          have bz612391 : gB z612391 (-1) 1999 := by rw [hz612391]; exact bf612390 _
                          have c9_612392 : cB (F607276 (γ0 9 19)) = f612390 := by rw [← x612285, ← congrFun (rSk_9 hs612270) 19]; exact cB_of he612389
                          have hs612393 : (cB (F607276 (γ0 9 19)) p612353.toInt.toNat).toInt = z612391.toInt := by rw [c9_612392, hz612391]; rfl
                          refine G_if_ge 326 dr_cX17_spill_320 (by decide +kernel) (fun hc612395 => ?_) (fun hc612395 => ?_)
                          · have r612396 : 0 ≤ z612391.toInt := gj_leL hc612395 (show Int32.toInt 0 = 0 by decide)
                            have bz612391' : gB z612391 0 1999 := ⟨by omega, by omega⟩
                            refine G_aload_n 0 dr_cX17_spill_326 rfl ?_
                            refine Gp_get 19 hm612301 he612302 dr_cX17_spill_327 (gk_X17 D I) (Nat.le_of_ble_eq_true rfl) wr_7_93 rfl ?_
                            refine G_aload 5 dr_cX17_spill_330 rfl ?_
                            refine Gp_get 1 hm612350 he612351 dr_cX17_spill_332 (gk_X15 D I) (Nat.le_of_ble_eq_true rfl) wr_9_182 rfl ?_
                            refine Gp_iald 0 hm612388 he612389 dr_cX17_spill_335 rfl (gB_in bp612353 (by decide) (by decide)) (G_eqi (y := z612391) hz612391.symm ?_)
                            have r612397 := (spi607361.2.2.2 p612353.toInt.toNat (tn_lt (by omega) (by omega)) (by omega)).2.2
                            refine G_istore (L' := [(8, .int z612391), (0, .ref q572540), (1, .ref q572541), (2, .int g610515), (3, .ref q610655), (4, .int g612265), (5, .ref q612266)]) dr_cX17_spill_336 (Nat.le_of_ble_eq_true rfl) rfl ?_
                            refine G_aload_n 1 dr_cX17_spill_338 rfl ?_
                            refine Gp_get 14 hm612301 he612302 dr_cX17_spill_339 (gk_X17 D I) (Nat.le_of_ble_eq_true rfl) wr_7_88 rfl ?_
                            refine G_sipush 2000 dr_cX17_spill_342 (by decide +kernel) ?_
                            refine G_icmp_ne 350 dr_cX17_spill_345 (by decide +kernel) (fun hc612398 => ?_) (fun hc612398 => ?_)
                            · have r612399 : p612310.toInt ≠ 2000 := gj_neq hc612398 (show Int32.toInt 2000 = 2000 by decide)
                              have bp612310' : gB p612310 0 1999 := ⟨by omega, by omega⟩
                              have r612400 := eO_r x612292 (by rw [he612351]; rfl) (uS_1 x612371 (by omega))
                              refine G_aload 6 dr_cX17_spill_350 rfl ?_
                              refine G_aload_n 1 dr_cX17_spill_352 rfl ?_
                              refine Gp_get 14 hm612301 he612302 dr_cX17_spill_353 (gk_X17 D I) (Nat.le_of_ble_eq_true rfl) wr_7_88 rfl ?_
                              refine Gp_put 1 hm612350 he612351 dr_cX17_spill_356 (gk_X15 D I) (Nat.le_of_ble_eq_true rfl) wr_9_182 rfl rfl rfl (Nat.le_of_ble_eq_true rfl) (fun F612401 e612402 n612403 => ?_)
                              have he612404 : F612401 q572540 = .inr (22, [.ref (γ 9 0), .ref (γ 9 1), .ref (γ 9 2), .ref (γ 9 3), .ref (γ 9 4), .ref (γ 9 5), .ref (γ 9 6), .ref (γ 9 7), .ref (γ 9 8), .int p612305, .int p612306, .int p612307, .int p612308, .int p612309, .int p612310, .ref (γ 9 15), .ref (γ 9 16), .ref (γ 9 17), .ref (γ 9 18), .ref (γ 9 19), .ref (γ 9 20), .ref (γ 9 21), .ref (γ 9 22), .int p612311, .int p612312, .int p612313, .int p612314, .int p612315, .ref q612303, .ref (γ 9 29), .int p612316, .ref (γ 9 31), .int p612317, .int p612318, .int p612319, .ref q612304]) := (n612403 q572540 (rn_oo he612302 he612351 (by decide))).trans he612302
                              have he612405 : F612401 (γ 9 19) = .inl (I .int, 2000, .inl f612390) := (n612403 (γ 9 19) (rn_ao he612389 he612351)).trans he612389
                              have he612406 : F612401 q612266 = .inr (20, [.int p612352, .int p612310, .int p612354, .int p612355, .int p612356, .int p612357, .int p612358]) := e612402
                              have mk612407 : mKp (F572539 q572540) (F612401 q572540) := mKp_tr x612294 (mKp_eq (n612403 q572540 (rn_ty ht612296 ht612277 (by decide))))
                              have kp612408 : F612401 (γ0 9 3) = F572539 (γ0 9 3) := (n612403 (γ0 9 3) (rn_ty (rSk_k hs612270 k0_3 (by decide) (by decide)) ht612277 (by decide))).trans x612293
                              have kp612409 : F612401 (γ0 9 19) = F607276 (γ0 9 19) := (n612403 (γ0 9 19) (rn_ty (rSk_k hs612270 k0_19 (by decide) (by decide)) ht612277 (by decide))).trans x612285
                              have hT612410 : RS D I P612267 F612401 γ el := RS_set hT612269 n612403 ht612277 (by decide) ⟨p612352, p612310, p612354, p612355, p612356, p612357, p612358, he612406, bp612352, bp612310', bp612356, bp612357, bp612358, r612359, r612360, r612361, (by have z := r612362; omega), r612363⟩
                              have hs612412 := rSk_put hs612270 hT612410 n612403 ht612277 (by decide) (by decide)
                              have hm612414 : q610655 ∈ P612267 := RS_m hT612410 ht612273 (by decide)
                              obtain ⟨q612416, q612417, p612418, p612419, he612415, ht612426, ht612420, ht612421, ht612422, ht612423, ht612424, bp612418, bp612419, r612425, r612427, r612428⟩ := show rk_2 γ q610655 (F612401 q610655) from RS_o hT612410 ht612273
                              have hf612429 : γ 1 q612416 = f := (show γ 1 q612416 = γ 1 q610655 from ht612421).trans hf612274
                              have hf612430 : γ 1 q612417 = f := (show γ 1 q612417 = γ 1 q610655 from ht612423).trans hf612274
                              have r612431 : γ 6 (γ 1 q610655) = γ 6 f := by rw [hf612274]
                              have r612432 : γ 7 (γ 1 q610655) = γ 7 f := by rw [hf612274]
                              have r612433 : γ 19 (γ 1 q610655) = γ 19 f := by rw [hf612274]
                              have r612434 := r612425.resolve_left (by omega)
                              clear r612425
                              have r612435 : γ 2 (γ 14 q610655) = γ 2 q612416 := by rw [ht612426.1]
                              have pl612413 := sp_put hT612269 ht612297 hf612298 x612286 n612403 x612287 (show (g610515.toInt : Int).toNat < γ 6 f from tn_lt (by omega) (by omega)) (by unfold rwL; rw [r612276]; exact tn_le0 (by omega) (by omega))
                              have rn612437 : rNx (nSp (cB (F572539 (γ0 9 3))) (cB (F607276 (γ0 9 19)))) (F612401 q612266) := rS2_n he612351 he612406 x612288 (fun _ => Or.inl (by omega))
                              have pl612436 := sp_fin pl612413 x612287 rn612437 (rfl : (g612265.toInt : Int).toNat + 1 = (g612265.toInt : Int).toNat + 1)
                              refine G_aload_n 1 dr_cX17_spill_359 rfl ?_
                              refine G_dup dr_cX17_spill_360 rfl ?_
                              refine Gp_get 14 hm612301 he612404 dr_cX17_spill_361 (gk_X17 D I) (Nat.le_of_ble_eq_true rfl) wr_7_88 rfl ?_
                              refine G_iconst 1 dr_cX17_spill_364 (by decide +kernel) ?_
                              refine G_iadd dr_cX17_spill_365 (G_nam fun z612438 hz612438 => ?_)
                              have ez612438 : z612438.toInt = p612310.toInt + 1 := by rw [gI_add hz612438 bp612310' (gBl (show Int32.toInt 1 = 1 by decide)) (by decide) (by decide), show Int32.toInt 1 = 1 from by decide]
                              have bz612438 : gB z612438 1 2000 := gB_add (gI_add hz612438 bp612310' (gBl (show Int32.toInt 1 = 1 by decide)) (by decide) (by decide)) bp612310' (gBl (show Int32.toInt 1 = 1 by decide)) (by decide) (by decide)
                              refine Gp_put 14 hm612301 he612404 dr_cX17_spill_366 (gk_X17 D I) (Nat.le_of_ble_eq_true rfl) wr_7_88 rfl rfl rfl (Nat.le_of_ble_eq_true rfl) (fun F612439 e612440 n612441 => ?_)
                              have he612442 : F612439 q612266 = .inr (20, [.int p612352, .int p612310, .int p612354, .int p612355, .int p612356, .int p612357, .int p612358]) := (n612441 q612266 (rn_oo he612406 he612404 (by decide))).trans he612406
                              have he612443 : F612439 (γ 9 19) = .inl (I .int, 2000, .inl f612390) := (n612441 (γ 9 19) (rn_ao he612405 he612404)).trans he612405
                              have he612444 : F612439 q610655 = .inr (17, [.ref q612416, .ref q612417, .int p612418, .int p612419]) := (n612441 q610655 (rn_oo he612415 he612404 (by decide))).trans he612415
                              have he612445 : F612439 q572540 = .inr (22, [.ref (γ 9 0), .ref (γ 9 1), .ref (γ 9 2), .ref (γ 9 3), .ref (γ 9 4), .ref (γ 9 5), .ref (γ 9 6), .ref (γ 9 7), .ref (γ 9 8), .int p612305, .int p612306, .int p612307, .int p612308, .int p612309, .int z612438, .ref (γ 9 15), .ref (γ 9 16), .ref (γ 9 17), .ref (γ 9 18), .ref (γ 9 19), .ref (γ 9 20), .ref (γ 9 21), .ref (γ 9 22), .int p612311, .int p612312, .int p612313, .int p612314, .int p612315, .ref q612303, .ref (γ 9 29), .int p612316, .ref (γ 9 31), .int p612317, .int p612318, .int p612319, .ref q612304]) := e612440
                              have mk612446 : mKp (F572539 q572540) (F612439 q572540) := mKp_tr mk612407 (by rw [he612404, he612445]; exact ⟨rfl, rfl⟩)
                              have kp612447 : F612439 (γ0 9 3) = F572539 (γ0 9 3) := (n612441 (γ0 9 3) (rn_ty (rSk_k hs612412 k0_3 (by decide) (by decide)) ht612296 (by decide))).trans kp612408
                              have kp612448 : F612439 (γ0 9 19) = F607276 (γ0 9 19) := (n612441 (γ0 9 19) (rn_ty (rSk_k hs612412 k0_19 (by decide) (by decide)) ht612296 (by decide))).trans kp612409
                              have hT612449 : RS D I P612267 F612439 γ el := RS_set hT612410 n612441 ht612296 (by decide) ⟨q612303, q612304, p612305, p612306, p612307, p612308, p612309, z612438, p612311, p612312, p612313, p612314, p612315, p612316, p612317, p612318, p612319, he612445, ⟨(hB612346.1), (hB612346.2.1), bp612307, (gB_w bz612438 (by decide) (by decide)), (hB612346.2.2.2.2.1), (hB612346.2.2.2.2.2.1), (hB612346.2.2.2.2.2.2.1), (hB612346.2.2.2.2.2.2.2.1), (hB612346.2.2.2.2.2.2.2.2)⟩, ht612320, ht612321, ht612322, ht612323, ht612324, ht612325, ht612326, ht612327, ht612328, ht612329, ht612330, ht612331, ht612332, ht612333, ht612334, ht612335, ht612336, ht612337, ht612338, ht612339, ht612340, ht612341, ht612342, ht612343, hB612347⟩
                              have hs612451 := rSk_put hs612412 hT612449 n612441 ht612296 (by decide) (by decide)
                              have pl612452 := rPl_fr hT612410 ht612297 hf612298 pl612436 (fun b hb _ => n612441 b (rn_ty (show rKd γ b 1 from hb) ht612296 (by decide)))
                              have ac612453 : (fI (F612439 q572540) 11).toInt = p612307.toInt := by rw [he612445]; rfl
                              have ac612454 : (fI (F612439 q572540) 14).toInt = z612438.toInt := by rw [he612445]; rfl
                              refine G_aload_n 2 dr_cX17_spill_369 rfl ?_
                              have rg612455 := rM_ge hT612449 ht612297 hf612298
                              have rm612456 := rM_bd hB612272
                              have bd612457 := rBd_c hT612449 ht612297 hf612298 hB612272
                              have rc612458 := rc_at hT612449 ht612297 hf612298
                              obtain ⟨q612465, hl612466⟩ : ∃ z, z = γ 14 q610655 := ⟨_, rfl⟩
                              have hl612467 : γ 0 q612465 = 3 ∨ γ 0 q612465 = 103 := by rw [hl612466, ← r612276]; exact (RS_lst hT612449 rc612458.2.1 r612275).1
                              refine Gt_row (c := q572541) (f := f) hl0 dr_cX17_spill_370 ⟨wr_10_206, wr_1_15, wr_10_82, by decide, rfl, (Nat.le_of_ble_eq_true rfl), (Nat.le_of_ble_eq_true rfl)⟩ wr_10_80 wr_10_81 hT612449 ht612297 hf612298 (Nat.le_trans bd612457.2.2.1 (Nat.le_trans hBk (by decide))) (rm_cs hph612271 rg612455.2.1 rm612456 (by decide)) (rm_sl hph612271 rg612455.2.1 rm612456 rm_s18) (Nat.le_of_ble_eq_true rfl) (fun P612459 F612460 γ el q612461 dc612462 ds612463 hq612464 => ?_)
                              have pl612468 := rPl_row hT612449 ht612297 hf612298 hq612464 pl612452
                              obtain ⟨hk612469, x0612470, x1612471, x22612472, x8612473, h16612474, h18612475, hnu612476, hot612477, h45612478, hf0612479, ⟨hr1612480, hr2612481⟩, hM612482, hBB612483⟩ := hq612464
                              have hk612484 := rSk_of hk612469
                              obtain ⟨nu612485, nu612486, nu612487, nu612488⟩ := hnu612476
                              have hT612489 := hk612484.1
                              have hs612490 := rSk_tr hs612451 hk612484 (by decide) (by decide) (by decide)
                              have kp612491 : F612460 (γ0 9 3) = F572539 (γ0 9 3) := (rSk_F hk612484 (rSk_k hs612451 k0_3 (by decide) (by decide)) (by decide) (by decide)).trans kp612447
                              have kp612492 : F612460 (γ0 9 19) = F607276 (γ0 9 19) := (rSk_F hk612484 (rSk_k hs612451 k0_19 (by decide) (by decide)) (by decide) (by decide)).trans kp612448
                              have r612493 := rSk_F hk612484 ht612296 (by decide) (by decide)
                              have ht612494 : rKd γ q572540 10 := rSk_k hk612484 ht612296 (by decide) (by decide)
                              have ht612495 : rKd γ q572541 9 := rSk_k hk612484 ht612297 (by decide) (by decide)
                              have hf612496 : γ 1 q572541 = f := rSk_1 hk612484 ht612297 (by decide) hf612298
                              have ht612497 : rKd γ q610655 2 := rSk_k hk612484 ht612273 (by decide) (by decide)
                              have hf612498 : γ 1 q610655 = f := rSk_1 hk612484 ht612273 (by decide) hf612274
                              have ht612499 : rKd γ q612266 1 := rSk_k hk612484 ht612277 (by decide) (by decide)
                              have hf612500 : γ 1 q612266 = f := rSk_1 hk612484 ht612277 (by decide) hf612278
                              have ht612501 : rKd γ q612416 3 := rSk_k hk612484 ht612420 (by decide) (by decide)
                              have hf612502 : γ 1 q612416 = f := rSk_1 hk612484 ht612420 (by decide) hf612429
                              have mk612503 : mKp (F572539 q572540) (F612460 q572540) := mKp_tr mk612446 (mKp_eq (rSk_F hk612484 ht612296 (by decide) (by decide)))
                              have r612504 := (rSk_s hk612484 ht612297 (by decide)).2.1
                              have r612505 := hot612477 _ (by rw [rc612458.2.1]; decide) (by rw [rc612458.2.1]; decide)
                              have r612506 : g610515.toInt.toNat < γ 2 (γ 14 q572541) := by rw [r612504, r612505.1]; exact r612275
                              have r612507 : el (γ 14 q572541) g610515.toInt.toNat = q610655 := by rw [r612504, r612505.2]; exact r612276
                              have he612508 : F612460 q612266 = .inr (20, [.int p612352, .int p612310, .int p612354, .int p612355, .int p612356, .int p612357, .int p612358]) := (rSk_F hk612484 ht612277 (by decide) (by decide)).trans he612442
                              have hm612509 : q612266 ∈ P612459 := RS_m hT612489 ht612499 (by decide)
                              clear bp612418 bp612419 r612427 r612428 rg612455 rm612456 bd612457 rc612458
                              have hm612510 : q572540 ∈ P612459 := RS_m hT612489 ht612494 (by decide)
                              refine rk10_e (show rk_10 γ (F612460 q572540) from RS_o hT612489 ht612494) (fun q612512 q612513 p612514 p612515 p612516 p612517 p612518 p612519 p612520 p612521 p612522 p612523 p612524 p612525 p612526 p612527 p612528 he612511 hB612555 ht612529 ht612530 ht612531 ht612532 ht612533 ht612534 ht612535 ht612536 ht612537 ht612538 ht612539 ht612540 ht612541 ht612542 ht612543 ht612544 ht612545 ht612546 ht612547 ht612548 ht612549 ht612550 ht612551 ht612552 hB612556 => ?_)
                              have r612557 : p612516.toInt = p612307.toInt := by have z : p612516 = p612307 := congrArg (fun e => fI e 11) (he612511.symm.trans (r612493.trans he612445)); rw [z]
                              have bp612516 : gB p612516 0 100 := (hB612555.2.2.1)
                              have r612558 : p612519.toInt = z612438.toInt := by have z : p612519 = z612438 := congrArg (fun e => fI e 14) (he612511.symm.trans (r612493.trans he612445)); rw [z]
                              have bp612519 : gB p612519 0 2000 := (hB612555.2.2.2.1)
                              have bp612519' : gB p612519 1 2000 := ⟨by omega, by omega⟩
                              have sz612559 := (rSk_s hk612484 ht612273 (by decide)).2.1
                              have sz612560 := congrArg (γ 2) sz612559
                              have sz612561 := (hot612477 q612465 (by omega) (by omega)).1
                              rw [hl612466] at sz612561
                              clear hl612467
                              have sz612562 := (hot612477 q612416 (rT0 ht612420 (by decide)) (by rw [show _ = 3 from ht612420]; decide)).1
                              have r612563 := hf0612479.2.2
                              have hB612564 : rBd γ el f B := hBB612483 B (by omega) hB612272
                              have ht612565 : rKd γ q612461 101 := x0612470
                              have r612566 : γ 8 q612461 < γ 16 f := rm_x8 x8612473 h16612474 rfl
                              have hph612567 : rPh γ0 el0 f ≤ rPh γ el f := rm_ph hph612271 hr2612481
                              have pk612568 : rPh γ el f ≤ 387 * B + 6000 := rm_pk (rM_ge hT612489 ht612495 hf612496).1 (rM_bd hB612564)
                              have hm612569 : q612461 ∈ P612459 := RS_m hT612489 ht612565 (by decide)
                              obtain ⟨p612571, p612572, p612573, p612574, p612575, p612576, p612577, he612570, bp612571, bp612572, bp612575, bp612576, bp612577, r612578, r612579, r612580⟩ := show rkR (F612460 q612461) from RS_o hT612489 ht612565
                              have bp612573 := gB_any p612573
                              have bp612574 := gB_any p612574
                              have r612581 : γ 7 (γ 1 q612461) = γ 7 f := by rw [x1612471]
                              have r612582 : p612576.toInt = 0 := by have z := hf0612479.1; rw [he612570] at z; exact z
                              have bp612576' : gB p612576 0 0 := gB_t0 r612582
                              have r612583 : p612577.toInt = 0 := by have z := hf0612479.2.1; rw [he612570] at z; exact z
                              have bp612577' : gB p612577 0 0 := gB_t0 r612583
                              refine G_widen (cs' := ((rPh γ el f - rPh γ0 el0 f) / 18)) (sl' := (rPh γ el f - rPh γ0 el0 f)) (rm_wc hph612271 hr1612480) (rm_ws hph612271 hr2612481) ?_
                              refine G_astore (L' := [(9, .ref q612461), (8, .int z612391), (0, .ref q572540), (1, .ref q572541), (2, .int g610515), (3, .ref q610655), (4, .int g612265), (5, .ref q612266)]) dr_cX17_spill_373 (Nat.le_of_ble_eq_true rfl) rfl ?_
                              refine G_aload 0 dr_cX17_spill_375 rfl ?_
                              refine G_bipush 23 dr_cX17_spill_377 (by decide +kernel) ?_
                              refine Gp_put 0 hm612569 he612570 dr_cX17_spill_379 (gk_X15 D I) (Nat.le_of_ble_eq_true rfl) wr_9_177 rfl rfl rfl (Nat.le_of_ble_eq_true rfl) (fun F612584 e612585 n612586 => ?_)
                              have he612587 : F612584 q612266 = .inr (20, [.int p612352, .int p612310, .int p612354, .int p612355, .int p612356, .int p612357, .int p612358]) := (n612586 q612266 (rn_ty ht612499 ht612565 (by decide))).trans he612508
                              have he612588 : F612584 q572540 = .inr (22, [.ref (γ 9 0), .ref (γ 9 1), .ref (γ 9 2), .ref (γ 9 3), .ref (γ 9 4), .ref (γ 9 5), .ref (γ 9 6), .ref (γ 9 7), .ref (γ 9 8), .int p612514, .int p612515, .int p612516, .int p612517, .int p612518, .int p612519, .ref (γ 9 15), .ref (γ 9 16), .ref (γ 9 17), .ref (γ 9 18), .ref (γ 9 19), .ref (γ 9 20), .ref (γ 9 21), .ref (γ 9 22), .int p612520, .int p612521, .int p612522, .int p612523, .int p612524, .ref q612512, .ref (γ 9 29), .int p612525, .ref (γ 9 31), .int p612526, .int p612527, .int p612528, .ref q612513]) := (n612586 q572540 (rn_oo he612511 he612570 (by decide))).trans he612511
                              have he612589 : F612584 q612461 = .inr (20, [.int 23, .int p612572, .int p612573, .int p612574, .int p612575, .int p612576, .int p612577]) := e612585
                              have mk612590 : mKp (F572539 q572540) (F612584 q572540) := mKp_tr mk612503 (mKp_eq (n612586 q572540 (rn_ty ht612494 ht612565 (by decide))))
                              have kp612591 : F612584 (γ0 9 3) = F572539 (γ0 9 3) := (n612586 (γ0 9 3) (rn_ty (rSk_k hs612490 k0_3 (by decide) (by decide)) ht612565 (by decide))).trans kp612491
                              have kp612592 : F612584 (γ0 9 19) = F607276 (γ0 9 19) := (n612586 (γ0 9 19) (rn_ty (rSk_k hs612490 k0_19 (by decide) (by decide)) ht612565 (by decide))).trans kp612492
                              refine G_aload 0 dr_cX17_spill_382 rfl ?_
                              refine G_iload 1 dr_cX17_spill_384 rfl ?_
                              refine Gp_put 4 hm612569 he612589 dr_cX17_spill_386 (gk_X15 D I) (Nat.le_of_ble_eq_true rfl) wr_9_193 rfl rfl rfl (Nat.le_of_ble_eq_true rfl) (fun F612593 e612594 n612595 => ?_)
                              have he612596 : F612593 q612266 = .inr (20, [.int p612352, .int p612310, .int p612354, .int p612355, .int p612356, .int p612357, .int p612358]) := (n612595 q612266 (rn_ty ht612499 ht612565 (by decide))).trans he612587
                              have he612597 : F612593 q572540 = .inr (22, [.ref (γ 9 0), .ref (γ 9 1), .ref (γ 9 2), .ref (γ 9 3), .ref (γ 9 4), .ref (γ 9 5), .ref (γ 9 6), .ref (γ 9 7), .ref (γ 9 8), .int p612514, .int p612515, .int p612516, .int p612517, .int p612518, .int p612519, .ref (γ 9 15), .ref (γ 9 16), .ref (γ 9 17), .ref (γ 9 18), .ref (γ 9 19), .ref (γ 9 20), .ref (γ 9 21), .ref (γ 9 22), .int p612520, .int p612521, .int p612522, .int p612523, .int p612524, .ref q612512, .ref (γ 9 29), .int p612525, .ref (γ 9 31), .int p612526, .int p612527, .int p612528, .ref q612513]) := (n612595 q572540 (rn_oo he612588 he612589 (by decide))).trans he612588
                              have he612598 : F612593 q612461 = .inr (20, [.int 23, .int p612572, .int p612573, .int p612574, .int z612391, .int p612576, .int p612577]) := e612594
                              have mk612599 : mKp (F572539 q572540) (F612593 q572540) := mKp_tr mk612590 (mKp_eq (n612595 q572540 (rn_ty ht612494 ht612565 (by decide))))
                              have n612600 : ∀ b, b ≠ q612461 → F612593 b = F612460 b := fun b hb => (n612595 b hb).trans (n612586 b hb)
                              have kp612601 : F612593 (γ0 9 3) = F572539 (γ0 9 3) := (n612595 (γ0 9 3) (rn_ty (rSk_k hs612490 k0_3 (by decide) (by decide)) ht612565 (by decide))).trans kp612591
                              have kp612602 : F612593 (γ0 9 19) = F607276 (γ0 9 19) := (n612595 (γ0 9 19) (rn_ty (rSk_k hs612490 k0_19 (by decide) (by decide)) ht612565 (by decide))).trans kp612592
                              refine G_aload 0 dr_cX17_spill_389 rfl ?_
                              refine G_aload 7 dr_cX17_spill_391 rfl ?_
                              refine Gp_get 1 hm612509 he612596 dr_cX17_spill_393 (gk_X15 D I) (Nat.le_of_ble_eq_true rfl) wr_9_182 rfl ?_
                              refine Gp_put 2 hm612569 he612598 dr_cX17_spill_396 (gk_X15 D I) (Nat.le_of_ble_eq_true rfl) wr_9_186 rfl rfl rfl (Nat.le_of_ble_eq_true rfl) (fun F612603 e612604 n612605 => ?_)
                              have he612606 : F612603 q612266 = .inr (20, [.int p612352, .int p612310, .int p612354, .int p612355, .int p612356, .int p612357, .int p612358]) := (n612605 q612266 (rn_ty ht612499 ht612565 (by decide))).trans he612596
                              have he612607 : F612603 q572540 = .inr (22, [.ref (γ 9 0), .ref (γ 9 1), .ref (γ 9 2), .ref (γ 9 3), .ref (γ 9 4), .ref (γ 9 5), .ref (γ 9 6), .ref (γ 9 7), .ref (γ 9 8), .int p612514, .int p612515, .int p612516, .int p612517, .int p612518, .int p612519, .ref (γ 9 15), .ref (γ 9 16), .ref (γ 9 17), .ref (γ 9 18), .ref (γ 9 19), .ref (γ 9 20), .ref (γ 9 21), .ref (γ 9 22), .int p612520, .int p612521, .int p612522, .int p612523, .int p612524, .ref q612512, .ref (γ 9 29), .int p612525, .ref (γ 9 31), .int p612526, .int p612527, .int p612528, .ref q612513]) := (n612605 q572540 (rn_oo he612597 he612598 (by decide))).trans he612597
                              have he612608 : F612603 q612461 = .inr (20, [.int 23, .int p612572, .int p612310, .int p612574, .int z612391, .int p612576, .int p612577]) := e612604
                              have mk612609 : mKp (F572539 q572540) (F612603 q572540) := mKp_tr mk612599 (mKp_eq (n612605 q572540 (rn_ty ht612494 ht612565 (by decide))))
                              have n612610 : ∀ b, b ≠ q612461 → F612603 b = F612460 b := fun b hb => (n612605 b hb).trans (n612600 b hb)
                              have kp612611 : F612603 (γ0 9 3) = F572539 (γ0 9 3) := (n612605 (γ0 9 3) (rn_ty (rSk_k hs612490 k0_3 (by decide) (by decide)) ht612565 (by decide))).trans kp612601
                              have kp612612 : F612603 (γ0 9 19) = F607276 (γ0 9 19) := (n612605 (γ0 9 19) (rn_ty (rSk_k hs612490 k0_19 (by decide) (by decide)) ht612565 (by decide))).trans kp612602
                              refine G_aload 0 dr_cX17_spill_399 rfl ?_
                              refine G_iconst 1 dr_cX17_spill_401 (by decide +kernel) ?_
                              refine Gp_put 5 hm612569 he612608 dr_cX17_spill_402 (gk_X15 D I) (Nat.le_of_ble_eq_true rfl) wr_9_197 rfl rfl rfl (Nat.le_of_ble_eq_true rfl) (fun F612613 e612614 n612615 => ?_)
                              have he612616 : F612613 q612266 = .inr (20, [.int p612352, .int p612310, .int p612354, .int p612355, .int p612356, .int p612357, .int p612358]) := (n612615 q612266 (rn_ty ht612499 ht612565 (by decide))).trans he612606
                              have he612617 : F612613 q572540 = .inr (22, [.ref (γ 9 0), .ref (γ 9 1), .ref (γ 9 2), .ref (γ 9 3), .ref (γ 9 4), .ref (γ 9 5), .ref (γ 9 6), .ref (γ 9 7), .ref (γ 9 8), .int p612514, .int p612515, .int p612516, .int p612517, .int p612518, .int p612519, .ref (γ 9 15), .ref (γ 9 16), .ref (γ 9 17), .ref (γ 9 18), .ref (γ 9 19), .ref (γ 9 20), .ref (γ 9 21), .ref (γ 9 22), .int p612520, .int p612521, .int p612522, .int p612523, .int p612524, .ref q612512, .ref (γ 9 29), .int p612525, .ref (γ 9 31), .int p612526, .int p612527, .int p612528, .ref q612513]) := (n612615 q572540 (rn_oo he612607 he612608 (by decide))).trans he612607
                              have he612618 : F612613 q612461 = .inr (20, [.int 23, .int p612572, .int p612310, .int p612574, .int z612391, .int 1, .int p612577]) := e612614
                              have mk612619 : mKp (F572539 q572540) (F612613 q572540) := mKp_tr mk612609 (mKp_eq (n612615 q572540 (rn_ty ht612494 ht612565 (by decide))))
                              have n612620 : ∀ b, b ≠ q612461 → F612613 b = F612460 b := fun b hb => (n612615 b hb).trans (n612610 b hb)
                              have kp612621 : F612613 (γ0 9 3) = F572539 (γ0 9 3) := (n612615 (γ0 9 3) (rn_ty (rSk_k hs612490 k0_3 (by decide) (by decide)) ht612565 (by decide))).trans kp612611
                              have kp612622 : F612613 (γ0 9 19) = F607276 (γ0 9 19) := (n612615 (γ0 9 19) (rn_ty (rSk_k hs612490 k0_19 (by decide) (by decide)) ht612565 (by decide))).trans kp612612
                              obtain ⟨z612623, hz612623⟩ : ∃ z : Int32, z = g612265 + Int32.ofInt 1 := ⟨_, rfl⟩
                              have ez612623 : z612623.toInt = g612265.toInt + 1 := gI_inc hz612623 (by decide) bg612265 (by decide) (by decide)
                              have bz612623 : gB z612623 1 1000002 := ⟨by omega, by omega⟩
                              refine G_iinc (L' := [(4, .int z612623), (9, .ref q612461), (8, .int z612391), (0, .ref q572540), (1, .ref q572541), (2, .int g610515), (3, .ref q610655), (5, .ref q612266)]) z612623 6 dr_cX17_spill_405 rfl hz612623.symm (Nat.le_of_ble_eq_true rfl) rfl ?_
                              refine G_aload_n 6 dr_cX17_spill_408 rfl ?_
                              have hT612624 : RS D I P612459 F612613 γ el := RS_set hT612489 n612620 ht612565 (by decide) ⟨23, p612572, p612310, p612574, z612391, 1, p612577, he612618, (gB_w (gBl (show Int32.toInt 23 = 23 by decide)) (by decide) (by decide)), bp612572, bz612391', (gB_w (gBl (show Int32.toInt 1 = 1 by decide)) (by decide) (by decide)), (gB_w bp612577' (by decide) (by decide)), (Or.inr (by decide)), (Or.inr bp612310'), r612580⟩
                              have hs612626 := rSk_put hs612490 hT612624 n612620 ht612565 (by decide) (by decide)
                              have hm612627 : q610655 ∈ P612459 := RS_m hT612624 ht612497 (by decide)
                              obtain ⟨q612629, q612630, p612631, p612632, he612628, ht612639, ht612633, ht612634, ht612635, ht612636, ht612637, bp612631, bp612632, r612638, r612640, r612641⟩ := show rk_2 γ q610655 (F612613 q610655) from RS_o hT612624 ht612497
                              have hf612642 : γ 1 q612629 = f := (show γ 1 q612629 = γ 1 q610655 from ht612634).trans hf612498
                              have hf612643 : γ 1 q612630 = f := (show γ 1 q612630 = γ 1 q610655 from ht612636).trans hf612498
                              have r612644 : γ 6 (γ 1 q610655) = γ 6 f := by rw [hf612498]
                              have r612645 : γ 7 (γ 1 q610655) = γ 7 f := by rw [hf612498]
                              have r612646 : γ 19 (γ 1 q610655) = γ 19 f := by rw [hf612498]
                              have r612647 := r612638.resolve_left (by omega)
                              clear r612638
                              have r612648 : γ 2 (γ 14 q610655) = γ 2 q612629 := by rw [ht612639.1]
                              refine Gp_get 0 hm612627 he612628 dr_cX17_spill_409 (gk_X12 D I) (Nat.le_of_ble_eq_true rfl) wr_9_220 rfl ?_
                              refine G_iload 0 dr_cX17_spill_412 rfl ?_
                              refine G_aload 1 dr_cX17_spill_414 rfl ?_
                              have pl612649 := rPl_fr hT612489 ht612495 hf612496 pl612468 (fun b hb _ => n612620 b (rn_ty (show rKd γ b 1 from hb) ht612565 (by decide)))
                              have rg612650 := rM_ge hT612624 ht612495 hf612496
                              have rm612651 := rM_bd hB612564
                              have bd612652 := rBd_c hT612624 ht612495 hf612496 hB612564
                              have rc612653 := rc_at hT612624 ht612495 hf612496
                              have r612655 : γ 14 (el (γ 14 q572541) g610515.toInt.toNat) = q612629 := by rw [r612507]; exact ht612639.1
                              have r612656 := rg612650.2.2 _ r612506
                              rw [r612655] at r612656
                              have r612657 := bd612652.2.2.2 _ r612506
                              rw [r612655] at r612657
                              have r612658 : γ 7 (γ 1 q612461) = γ 7 f := by rw [x1612471]
                              have hx612659 : rk_1 γ q612461 (F612613 q612461) := ⟨23, p612572, p612310, p612574, z612391, 1, p612577, he612618, (gB_w (gBl (show Int32.toInt 23 = 23 by decide)) (by decide) (by decide)), bp612572, bz612391', (gB_w (gBl (show Int32.toInt 1 = 1 by decide)) (by decide) (by decide)), (gB_w bp612577' (by decide) (by decide)), (Or.inr (by decide)), (Or.inr bp612310'), r612580, (Or.inr (by omega)), (Or.inl x22612472)⟩
                              refine Gt_ins (c := q572541) (f := f) hl0 dr_cX17_spill_416 ⟨wr_10_207, wr_1_18, wr_10_210, by decide, rfl, (Nat.le_of_ble_eq_true rfl), (Nat.le_of_ble_eq_true rfl)⟩ wr_10_208 wr_10_209 hT612624 ht612633 hf612642 ht612565 x1612471 x22612472 r612566 (by omega) ht612495 hf612496 r612506 r612655 hx612659 (by omega) (by omega) (Nat.le_trans r612657 (Nat.le_trans hBk (by decide))) (rm_cs hph612567 r612656 rm612651 (by decide)) (rm_sl hph612567 r612656 rm612651 rm_s11) (Nat.le_of_ble_eq_true rfl) (fun P612660 F612654 γ el dc612661 ds612662 hq612663 => ?_)
                              have pl612664 := sp_ins (j1 := ((g612265.toInt : Int).toNat + 1) + 1) hT612624 ht612495 hf612496 hq612663 r612655 (tn_lt (by omega) (by omega)) (tn_le0 (by omega) (by omega)) (by rw [(show z612623.toInt.toNat = ((g612265.toInt : Int).toNat + 1) from tn_eq1 (by omega) (by omega))]; exact pl612649) (nm_sto he612618 (by decide)).1 (nm_sto he612618 (by decide)).2 (tn_ge (show 100 ≤ p612310.toInt by omega)) (congrArg (fun k => k + 1) (show z612623.toInt.toNat = ((g612265.toInt : Int).toNat + 1) from tn_eq1 (by omega) (by omega)).symm)
                              obtain ⟨hk612665, x0612666, h2612667, hel612668, hot612669, h16612670, h18612671, hnu612672, hFx612673, hr612674, hM612675, hBB612676⟩ := hq612663
                              have hk612677 := rSk_of hk612665
                              have r612678 : (fI (F612654 q572541) 3).toInt = (fI (F612613 q572541) 3).toInt := by rw [rSk_F hk612677 ht612495 (by decide) (by decide)]
                              obtain ⟨nu612679, nu612680, nu612681, nu612682⟩ := hnu612672
                              have hT612683 := hk612677.1
                              have hs612684 := rSk_tr hs612626 hk612677 (by decide) (by decide) (by decide)
                              have kp612685 : F612654 (γ0 9 3) = F572539 (γ0 9 3) := (rSk_F hk612677 (rSk_k hs612626 k0_3 (by decide) (by decide)) (by decide) (by decide)).trans kp612621
                              have kp612686 : F612654 (γ0 9 19) = F607276 (γ0 9 19) := (rSk_F hk612677 (rSk_k hs612626 k0_19 (by decide) (by decide)) (by decide) (by decide)).trans kp612622
                              have r612687 := rSk_F hk612677 ht612494 (by decide) (by decide)
                              have ht612688 : rKd γ q572540 10 := rSk_k hk612677 ht612494 (by decide) (by decide)
                              have ht612689 : rKd γ q572541 9 := rSk_k hk612677 ht612495 (by decide) (by decide)
                              have hf612690 : γ 1 q572541 = f := rSk_1 hk612677 ht612495 (by decide) hf612496
                              have ht612691 : rKd γ q610655 2 := rSk_k hk612677 ht612497 (by decide) (by decide)
                              have hf612692 : γ 1 q610655 = f := rSk_1 hk612677 ht612497 (by decide) hf612498
                              have ht612693 : rKd γ q612266 1 := rSk_k hk612677 ht612499 (by decide) (by decide)
                              have hf612694 : γ 1 q612266 = f := rSk_1 hk612677 ht612499 (by decide) hf612500
                              have ht612695 : rKd γ q612416 3 := rSk_k hk612677 ht612501 (by decide) (by decide)
                              have hf612696 : γ 1 q612416 = f := rSk_1 hk612677 ht612501 (by decide) hf612502
                              have ht612697 : rKd γ q612629 3 := rSk_k hk612677 ht612633 (by decide) (by decide)
                              have hf612698 : γ 1 q612629 = f := rSk_1 hk612677 ht612633 (by decide) hf612642
                              have mk612699 : mKp (F572539 q572540) (F612654 q572540) := mKp_tr mk612619 (mKp_eq (rSk_F hk612677 ht612494 (by decide) (by decide)))
                              have r612700 := (rSk_s hk612677 ht612495 (by decide)).2.1
                              have r612701 := hot612669 _ (by rw [rc612653.2.1]; decide) (fun q => by rw [q, show _ = 3 from ht612633] at rc612653; exact absurd rc612653.2.1 (by decide))
                              have r612702 : g610515.toInt.toNat < γ 2 (γ 14 q572541) := by rw [r612700, r612701.1]; exact r612506
                              have r612703 : el (γ 14 q572541) g610515.toInt.toNat = q610655 := by rw [r612700, r612701.2]; exact r612507
                              have he612704 : F612654 q612266 = .inr (20, [.int p612352, .int p612310, .int p612354, .int p612355, .int p612356, .int p612357, .int p612358]) := (rSk_F hk612677 ht612499 (by decide) (by decide)).trans he612616
                              have hm612705 : q612266 ∈ P612660 := RS_m hT612683 ht612693 (by decide)
                              clear bp612571 bp612572 bp612575 bp612576 bp612577 bp612573 bp612574 bp612631 bp612632 r612640 r612641 rg612650 rm612651 bd612652 rc612653 r612656 r612657
                              clear r612578 r612579 r612580
                              have hm612706 : q572540 ∈ P612660 := RS_m hT612683 ht612688 (by decide)
                              refine rk10_e (show rk_10 γ (F612654 q572540) from RS_o hT612683 ht612688) (fun q612708 q612709 p612710 p612711 p612712 p612713 p612714 p612715 p612716 p612717 p612718 p612719 p612720 p612721 p612722 p612723 p612724 he612707 hB612751 ht612725 ht612726 ht612727 ht612728 ht612729 ht612730 ht612731 ht612732 ht612733 ht612734 ht612735 ht612736 ht612737 ht612738 ht612739 ht612740 ht612741 ht612742 ht612743 ht612744 ht612745 ht612746 ht612747 ht612748 hB612752 => ?_)
                              have r612753 : p612712.toInt = p612516.toInt := by have z : p612712 = p612516 := congrArg (fun e => fI e 11) (he612707.symm.trans (r612687.trans he612617)); rw [z]
                              have bp612712 : gB p612712 0 100 := (hB612751.2.2.1)
                              have r612754 : p612715.toInt = p612519.toInt := by have z : p612715 = p612519 := congrArg (fun e => fI e 14) (he612707.symm.trans (r612687.trans he612617)); rw [z]
                              have bp612715 : gB p612715 0 2000 := (hB612751.2.2.2.1)
                              have bp612715' : gB p612715 1 2000 := ⟨by omega, by omega⟩
                              first | have sz612755 := (hot612669 q612416 (rT0 ht612501 (by decide)) (by assumption)).1 | skip
                              have ht612756 : rKd γ q612461 1 := x0612666
                              have hB612757 : rBd γ el f B := hBB612676 B hB612564
                              have hph612758 : rPh γ0 el0 f ≤ rPh γ el f := rm_ph hph612567 hr612674.2
                              have pk612759 : rPh γ el f ≤ 387 * B + 6000 := rm_pk (rM_ge hT612683 ht612689 hf612690).1 (rM_bd hB612757)
                              refine G_widen (cs' := ((rPh γ el f - rPh γ0 el0 f) / 18)) (sl' := (rPh γ el f - rPh γ0 el0 f)) (rm_wc hph612567 hr612674.1) (rm_ws hph612567 hr612674.2) ?_
                              have r612760 : γ 14 q610655 = q612629 := ((rSk_s (rSk_of hk612665) ht612497 (by decide)).2.1).trans ht612639.1
                              have sz612761 : γ 2 (γ 14 q610655) = γ 2 q612629 := by rw [r612760]
                              obtain ⟨z612762, hz612762⟩ : ∃ z : Int32, z = z612623 + Int32.ofInt 1 := ⟨_, rfl⟩
                              have ez612762 : z612762.toInt = z612623.toInt + 1 := gI_inc hz612762 (by decide) bz612623 (by decide) (by decide)
                              have bz612762 : gB z612762 2 1000003 := ⟨by omega, by omega⟩
                              refine G_iinc (L' := [(4, .int z612762), (9, .ref q612461), (8, .int z612391), (0, .ref q572540), (1, .ref q572541), (2, .int g610515), (3, .ref q610655), (5, .ref q612266)]) z612762 0 dr_cX17_spill_419 rfl hz612762.symm (Nat.le_of_ble_eq_true rfl) rfl ?_
                              refine G_goto 90 dr_cX17_spill_422 (by decide +kernel) ?_
                              refine G_lv (L' := [(4, .int z612762), (3, .ref q610655), (2, .int g610515), (0, .ref q572540), (1, .ref q572541)]) [0, 6, 5, 3, 4] rfl ?_
                              have ac612763 : (fI (F612654 q572540) 11).toInt = p612712.toInt := by rw [he612707]; rfl
                              have ac612764 : (fI (F612654 q572540) 14).toInt = p612715.toInt := by rw [he612707]; rfl
                              exact ih90_612166 P612660 F612654 γ el z612762 (gB_w bz612762 (by decide) (by decide)) hT612683 hs612684 hph612758 hB612757 ht612691 hf612692 r612702 r612703 (by omega) (by omega) (by omega) (by omega) (by omega) (by omega) kp612686 (by rw [(show (z612762.toInt : Int).toNat = (((g612265.toInt : Int).toNat + 1) + 1) from tn_eq2 (by omega) (by omega))]; exact pl612664) (by omega) (by omega) kp612685 mk612699 (ms_g x612291 (by omega) (by omega) (by omega))
                            · have r612765 : p612310.toInt = 2000 := gj_eq hc612398 (show Int32.toInt 2000 = 2000 by decide)
                              have bp612310' : gB p612310 2000 2000 := ⟨by omega, by omega⟩
                              refine G_iconst 0 dr_cX17_spill_348 (by decide +kernel) ?_
                              exact G_zretA FieldType.boolean dr_cX17_spill_349 rfl rfl (rm_zc pk612299) (rm_zs pk612299) ⟨P612267, F612268, γ, el, 0, rfl, rfl, hs612270, (rm_pp hph612271), hB612272, (gB_w (gBl (show Int32.toInt 0 = 0 by decide)) (by decide) (by decide)), (by have qa0 : Int32.toInt 0 = 0 := (by decide); omega), (Or.inl (by decide)), x612293, x612294⟩
                          · have r612766 : z612391.toInt < 0 := gj_nleL hc612395 (show Int32.toInt 0 = 0 by decide)
                            have bz612391' : gB z612391 (-1) (-1) := ⟨by omega, by omega⟩
                            refine G_goto 419 dr_cX17_spill_323 (by decide +kernel) ?_
                            have rn612768 : rNx (nSp (cB (F572539 (γ0 9 3))) (cB (F607276 (γ0 9 19)))) (F612268 q612266) := rS2_n he612351 he612351 x612288 (fun _ => Or.inr ⟨rfl, Or.inr (by omega)⟩)
                            have pl612767 := sp_fin x612286 x612287 rn612768 (rfl : (g612265.toInt : Int).toNat + 1 = (g612265.toInt : Int).toNat + 1)
                            obtain ⟨z612769, hz612769⟩ : ∃ z : Int32, z = g612265 + Int32.ofInt 1 := ⟨_, rfl⟩
                            have ez612769 : z612769.toInt = g612265.toInt + 1 := gI_inc hz612769 (by decide) bg612265 (by decide) (by decide)
                            have bz612769 : gB z612769 1 1000002 := ⟨by omega, by omega⟩
                            refine G_iinc (L' := [(4, .int z612769), (0, .ref q572540), (1, .ref q572541), (2, .int g610515), (3, .ref q610655), (5, .ref q612266)]) z612769 4 dr_cX17_spill_419 rfl hz612769.symm (Nat.le_of_ble_eq_true rfl) rfl ?_
                            refine G_goto 90 dr_cX17_spill_422 (by decide +kernel) ?_
                            refine G_lv (L' := [(4, .int z612769), (3, .ref q610655), (2, .int g610515), (0, .ref q572540), (1, .ref q572541)]) [0, 4, 3, 1, 2] rfl ?_
                            have ac612770 : (fI (F612268 q572540) 11).toInt = p612307.toInt := by rw [he612302]; rfl
                            have ac612771 : (fI (F612268 q572540) 14).toInt = p612310.toInt := by rw [he612302]; rfl
                            exact ih90_612166 P612267 F612268 γ el z612769 (gB_w bz612769 (by decide) (by decide)) hT612269 hs612270 hph612271 hB612272 ht612273 hf612274 r612275 r612276 (by omega) (by omega) (by omega) (by omega) (by omega) (by omega) x612285 (by rw [(show (z612769.toInt : Int).toNat = ((g612265.toInt : Int).toNat + 1) from tn_eq1 (by omega) (by omega))]; exact pl612767) (by omega) (by omega) x612293 x612294 (ms_g x612291 (by omega) (by omega) (by omega))
                    have jn236_612803 : ∀ (P612776 : List Nat) (F612777 : Nat → va_E) (γ el : Nat → Nat → Nat) (g612772 : Int32) (q612773 : Nat) (g612774 : Int32) (g612775 : Int32), gB g612772 0 1000001 → gB g612774 (-1) 1999 → gB g612775 (-1) 1999 → RS D I P612776 F612777 γ el → rSk f [101] ([1, 3, 5, 6, 8, 9, 101] ++ npk) D I P572538 F572539 γ0 el0 P612776 F612777 γ el → rPh γ0 el0 f ≤ rPh γ el f → rBd γ el f B → rKd γ q610655 2 → γ 1 q610655 = f → g610515.toInt.toNat < γ 2 (γ 14 q572541) → el (γ 14 q572541) g610515.toInt.toNat = q610655 → rKd γ q612773 1 → γ 1 q612773 = f → γ 6 f = γ0 6 f → γ 18 f = γ0 18 f → ((γ 7 f : Nat) : Int) = (fI (F612777 q572540) 11).toInt → (fI (F612777 q572540) 11).toInt = (fI (F607276 q572540) 11).toInt → ((γ 16 f : Nat) : Int) + 2001 ≤ (B : Int) + (fI (F612777 q572540) 14).toInt → 100 ≤ (fI (F612777 q572540) 14).toInt → (F612777 (γ0 9 19) = F607276 (γ0 9 19)) → rPl γ el F612777 q572541 (γ 6 f) (spX (cB (F572539 (γ0 9 3))) (cB (F607276 (γ0 9 19))) (g610515.toInt : Int).toNat (g612772.toInt : Int).toNat) → rAt γ el q572541 (g610515.toInt : Int).toNat (g612772.toInt : Int).toNat = q612773 → rS1 (cB (F572539 (γ0 9 3))) (cB (F607276 (γ0 9 19))) (F612777 q612773) g612774.toInt g612775.toInt → (g612772.toInt : Int) ≤ γ 2 (γ 14 q610655) → (g610515.toInt : Int) < γ 6 f → (γ 2 (γ 14 q610655) + 1 - (g612772.toInt : Int).toNat) < n90_612166 + 1 → eO g612772.toInt (γ 2 (γ 14 q610655) : Nat) (fI (F612777 q612773) 0).toInt → (F612777 (γ0 9 3) = F572539 (γ0 9 3)) → mKp (F572539 q572540) (F612777 q572540) → G (gV D I) l (gRm 9 195 (((387 * B + 6000) - rPh γ0 el0 f) / 18) ((387 * B + 6000) - rPh γ0 el0 f)) (gMA (gV D I) (pg_572548_SpillForgeModel_spill D I γ0 el0 f B P572538 F572539 q572540 q572541) gNA (((387 * B + 6000) - rPh γ0 el0 f) / 18) ((387 * B + 6000) - rPh γ0 el0 f)) ky_572548_SpillForgeModel_spill 236 [(0, .ref q572540), (1, .ref q572541), (2, .int g610515), (3, .ref q610655), (4, .int g612772), (5, .ref q612773), (6, .int g612774), (7, .int g612775)] [] (va_pl P612776 F612777) ((rPh γ el f - rPh γ0 el0 f) / 18) (rPh γ el f - rPh γ0 el0 f) := by
                      intro P612776 F612777 γ el g612772 q612773 g612774 g612775 bg612772 bg612774 bg612775 hT612778 hs612779 hph612780 hB612781 ht612782 hf612783 r612784 r612785 ht612786 hf612787 x612788 x612789 x612790 x612791 x612792 x612793 x612794 x612795 x612796 x612797 x612798 x612799 x612800 x612801 x612802 x612803
                      clear bp612226 bp612227 r612235 r612236 r612239 r612240 r612241 r612242 r612243 r612249 r612250 r612251 r612253 r612252
                      have ht612805 : rKd γ q572540 10 := rSk_k hs612779 hzq572540 (by decide) (by decide)
                      have ht612806 : rKd γ q572541 9 := rSk_k hs612779 hzq572541 (by decide) (by decide)
                      have hf612807 : γ 1 q572541 = f := rSk_1 hs612779 hzq572541 (by decide) hf0
                      have pk612808 : rPh γ el f ≤ 387 * B + 6000 := rm_pk (rM_ge hT612778 ht612806 hf612807).1 (rM_bd hB612781)
                      have r612809 : 0 < γ 6 (γ 1 q572541) := by rw [hf612807]; omega
                      have hm612810 : q572540 ∈ P612776 := RS_m hT612778 ht612805 (by decide)
                      refine rk10_e (show rk_10 γ (F612777 q572540) from RS_o hT612778 ht612805) (fun q612812 q612813 p612814 p612815 p612816 p612817 p612818 p612819 p612820 p612821 p612822 p612823 p612824 p612825 p612826 p612827 p612828 he612811 hB612855 ht612829 ht612830 ht612831 ht612832 ht612833 ht612834 ht612835 ht612836 ht612837 ht612838 ht612839 ht612840 ht612841 ht612842 ht612843 ht612844 ht612845 ht612846 ht612847 ht612848 ht612849 ht612850 ht612851 ht612852 hB612856 => ?_)
                      have ac612857 : (fI (F612777 q572540) 11).toInt = p612816.toInt := by rw [he612811]; rfl
                      have bp612816 : gB p612816 0 100 := (hB612855.2.2.1)
                      have ac612858 : (fI (F612777 q572540) 14).toInt = p612819.toInt := by rw [he612811]; rfl
                      have bp612819 : gB p612819 0 2000 := (hB612855.2.2.2.1)
                      have hm612859 : q612773 ∈ P612776 := RS_m hT612778 ht612786 (by decide)
                      obtain ⟨p612861, p612862, p612863, p612864, p612865, p612866, p612867, he612860, bp612861, bp612862, bp612865, bp612866, bp612867, r612868, r612869, r612870, r612871, r612872⟩ := show rk_1 γ q612773 (F612777 q612773) from RS_o hT612778 ht612786
                      have bp612863 := gB_any p612863
                      have bp612864 := gB_any p612864
                      have r612873 : γ 7 (γ 1 q612773) = γ 7 f := by rw [hf612787]
                      refine G_iload 7 dr_cX17_spill_236 rfl ?_
                      refine G_if_lt 292 dr_cX17_spill_238 (by decide +kernel) (fun hc612874 => ?_) (fun hc612874 => ?_)
                      · have r612875 : g612775.toInt < 0 := gj_lt hc612874 (show Int32.toInt 0 = 0 by decide)
                        have bg612775' : gB g612775 (-1) (-1) := ⟨by omega, by omega⟩
                        have ac612876 : (fI (F612777 q572540) 11).toInt = p612816.toInt := by rw [he612811]; rfl
                        have ac612877 : (fI (F612777 q572540) 14).toInt = p612819.toInt := by rw [he612811]; rfl
                        refine G_lv (L' := [(0, .ref q572540), (1, .ref q572541), (2, .int g610515), (3, .ref q610655), (4, .int g612772), (5, .ref q612773)]) [0, 1, 2, 3, 4, 5] rfl ?_
                        exact jn292_612294 P612776 F612777 γ el g612772 q612773 bg612772 hT612778 hs612779 hph612780 hB612781 ht612782 hf612783 r612784 r612785 ht612786 hf612787 (by omega) (by omega) (by omega) (by omega) (by omega) (by omega) x612794 (by exact x612795) (by exact x612796) (rS1_2 x612797 (Or.inl (by omega))) (by omega) (by omega) (ms_j x612800 (by omega) (by omega) (by omega)) (eO_j x612801 (by rw [he612860] <;> rfl) (by rw [he612860] <;> rfl) (by omega)) x612802 x612803
                      · have r612878 : 0 ≤ g612775.toInt := gj_nlt hc612874 (show Int32.toInt 0 = 0 by decide)
                        have bg612775' : gB g612775 0 1999 := ⟨by omega, by omega⟩
                        refine G_iload 7 dr_cX17_spill_241 rfl ?_
                        refine G_iload 6 dr_cX17_spill_243 rfl ?_
                        refine G_icmp_eq 292 dr_cX17_spill_245 (by decide +kernel) (fun hc612879 => ?_) (fun hc612879 => ?_)
                        · have r612880 : g612775.toInt = g612774.toInt := gC_eq hc612879
                          have bg612774' : gB g612774 0 1999 := ⟨by omega, by omega⟩
                          have ac612881 : (fI (F612777 q572540) 11).toInt = p612816.toInt := by rw [he612811]; rfl
                          have ac612882 : (fI (F612777 q572540) 14).toInt = p612819.toInt := by rw [he612811]; rfl
                          refine G_lv (L' := [(0, .ref q572540), (1, .ref q572541), (2, .int g610515), (3, .ref q610655), (4, .int g612772), (5, .ref q612773)]) [0, 1, 2, 3, 4, 5] rfl ?_
                          exact jn292_612294 P612776 F612777 γ el g612772 q612773 bg612772 hT612778 hs612779 hph612780 hB612781 ht612782 hf612783 r612784 r612785 ht612786 hf612787 (by omega) (by omega) (by omega) (by omega) (by omega) (by omega) x612794 (by exact x612795) (by exact x612796) (rS1_2 x612797 (Or.inr (Or.inl (by omega)))) (by omega) (by omega) (ms_j x612800 (by omega) (by omega) (by omega)) (eO_j x612801 (by rw [he612860] <;> rfl) (by rw [he612860] <;> rfl) (by omega)) x612802 x612803
                        · have r612883 : g612775.toInt ≠ g612774.toInt := gC_ne hc612879
                          refine G_aload_n 0 dr_cX17_spill_248 rfl ?_
                          refine Gp_get 19 hm612810 he612811 dr_cX17_spill_249 (gk_X17 D I) (Nat.le_of_ble_eq_true rfl) wr_7_93 rfl ?_
                          refine G_iload 7 dr_cX17_spill_252 rfl ?_
                          have hm612884 : (γ 9 19) ∈ P612776 := RS_m hT612778 ht612844 (by decide)
                          obtain ⟨f612886, he612885, bf612886⟩ := show rk_21 I (F612777 (γ 9 19)) from RS_o hT612778 ht612844
                          refine Gp_iald 0 hm612884 he612885 dr_cX17_spill_254 rfl (gB_in bg612775' (by decide) (by decide)) (G_nam fun z612887 hz612887 => ?_)
                          have bz612887 : gB z612887 (-1) 1999 := by rw [hz612887]; exact bf612886 _
                          have c9_612888 : cB (F607276 (γ0 9 19)) = f612886 := by rw [← x612794, ← congrFun (rSk_9 hs612779) 19]; exact cB_of he612885
                          have hs612889 : (cB (F607276 (γ0 9 19)) g612775.toInt.toNat).toInt = z612887.toInt := by rw [c9_612888, hz612887]; rfl
                          refine G_if_lt 292 dr_cX17_spill_255 (by decide +kernel) (fun hc612891 => ?_) (fun hc612891 => ?_)
                          · have r612892 : z612887.toInt < 0 := gj_lt hc612891 (show Int32.toInt 0 = 0 by decide)
                            have bz612887' : gB z612887 (-1) (-1) := ⟨by omega, by omega⟩
                            have ac612893 : (fI (F612777 q572540) 11).toInt = p612816.toInt := by rw [he612811]; rfl
                            have ac612894 : (fI (F612777 q572540) 14).toInt = p612819.toInt := by rw [he612811]; rfl
                            refine G_lv (L' := [(0, .ref q572540), (1, .ref q572541), (2, .int g610515), (3, .ref q610655), (4, .int g612772), (5, .ref q612773)]) [0, 1, 2, 3, 4, 5] rfl ?_
                            exact jn292_612294 P612776 F612777 γ el g612772 q612773 bg612772 hT612778 hs612779 hph612780 hB612781 ht612782 hf612783 r612784 r612785 ht612786 hf612787 (by omega) (by omega) (by omega) (by omega) (by omega) (by omega) x612794 (by exact x612795) (by exact x612796) (rS1_2 x612797 (Or.inr (Or.inr (by omega)))) (by omega) (by omega) (ms_j x612800 (by omega) (by omega) (by omega)) (eO_j x612801 (by rw [he612860] <;> rfl) (by rw [he612860] <;> rfl) (by omega)) x612802 x612803
                          · have r612895 : 0 ≤ z612887.toInt := gj_nlt hc612891 (show Int32.toInt 0 = 0 by decide)
                            have bz612887' : gB z612887 0 1999 := ⟨by omega, by omega⟩
                            refine G_aload_n 0 dr_cX17_spill_258 rfl ?_
                            refine G_aload_n 1 dr_cX17_spill_259 rfl ?_
                            refine G_aload_n 3 dr_cX17_spill_260 rfl ?_
                            refine G_iload 4 dr_cX17_spill_261 rfl ?_
                            refine G_aload_n 0 dr_cX17_spill_263 rfl ?_
                            refine Gp_get 19 hm612810 he612811 dr_cX17_spill_264 (gk_X17 D I) (Nat.le_of_ble_eq_true rfl) wr_7_93 rfl ?_
                            refine G_iload 7 dr_cX17_spill_267 rfl ?_
                            refine Gp_iald 0 hm612884 he612885 dr_cX17_spill_269 rfl (gB_in bg612775' (by decide) (by decide)) (G_eqi (y := z612887) hz612887.symm ?_)
                            have hm612896 : q610655 ∈ P612776 := RS_m hT612778 ht612782 (by decide)
                            obtain ⟨q612898, q612899, p612900, p612901, he612897, ht612908, ht612902, ht612903, ht612904, ht612905, ht612906, bp612900, bp612901, r612907, r612909, r612910⟩ := show rk_2 γ q610655 (F612777 q610655) from RS_o hT612778 ht612782
                            have hf612911 : γ 1 q612898 = f := (show γ 1 q612898 = γ 1 q610655 from ht612903).trans hf612783
                            have hf612912 : γ 1 q612899 = f := (show γ 1 q612899 = γ 1 q610655 from ht612905).trans hf612783
                            have r612913 : γ 6 (γ 1 q610655) = γ 6 f := by rw [hf612783]
                            have r612914 : γ 7 (γ 1 q610655) = γ 7 f := by rw [hf612783]
                            have r612915 : γ 19 (γ 1 q610655) = γ 19 f := by rw [hf612783]
                            have r612916 := r612907.resolve_left (by omega)
                            clear r612907
                            have r612917 : γ 2 (γ 14 q610655) = γ 2 q612898 := by rw [ht612908.1]
                            have hm612918 : q612898 ∈ P612776 := RS_m hT612778 ht612902 (by decide)
                            obtain ⟨⟨p612920, p612921, q612922, he612919, r612923, r612924, r612925, r612927⟩, r612926⟩ := show rk_3 D I γ el F612777 q612898 from RS_o hT612778 ht612902
                            have bp612920 := gB_any p612920
                            have bp612921 : gB p612921 0 1000000 := ⟨by omega, by omega⟩
                            have r612928 := (spi607361.2.2.2 g612775.toInt.toNat (tn_lt (by omega) (by omega)) (by omega)).2.2
                            have ac612929 : (fI (F612777 q572540) 11).toInt = p612816.toInt := by rw [he612811]; rfl
                            have ac612930 : (fI (F612777 q572540) 14).toInt = p612819.toInt := by rw [he612811]; rfl
                            have rg612931 := rM_ge hT612778 ht612806 hf612807
                            have rm612932 := rM_bd hB612781
                            have bd612933 := rBd_c hT612778 ht612806 hf612807 hB612781
                            have rc612934 := rc_at hT612778 ht612806 hf612807
                            refine Gw_callV (As := [.ref q572541, .ref q610655, .int g612772, .int z612887]) (gV_ok D I) (cg_398209_SpillForgeModel_load l hl0 D I γ el f B P612776 F612777 q572540 q572541 q610655 g612772 z612887 g610515.toInt.toNat hT612778 ht612805 ht612806 ht612782 hf612807 hB612781 hBk r612784 r612785 hf612783 ⟨by omega, by omega⟩ bz612887' (by omega) (by omega) (by omega) (by omega) (by omega)) dr_cX17_spill_270 ⟨wr_11_67, wr_1_14, wr_11_70, by decide, rfl, (Nat.le_of_ble_eq_true rfl), (Nat.le_of_ble_eq_true rfl)⟩ wr_11_69 wr_p_111 hm612810 he612811 rfl (rm_gc hph612780 pk612808) (rm_gs hph612780 pk612808) (Nat.le_of_ble_eq_true rfl) (fun r612938 w612939 dc612935 ds612936 hp612937 => ?_) (fun _ _ _ _ _ z => z.elim)
                            obtain ⟨P612950, F612951, γ, el, o612940, rfl, rfl, hk612952, ⟨hr612953, hr612954⟩, hB612955, bo612940, x612941, x612942, x612943, x612944, x612945, x612946, x612947, x612948, x612949⟩ := hp612937
                            have hT612956 := hk612952.1
                            have hs612957 := rSk_tr hs612779 hk612952 (by decide) (by decide) (by decide)
                            have kp612958 : F612951 (γ0 9 3) = F572539 (γ0 9 3) := (rSk_F hk612952 (rSk_k hs612779 k0_3 (by decide) (by decide)) (by decide) (by decide)).trans x612802
                            have kp612959 : F612951 (γ0 9 19) = F607276 (γ0 9 19) := (rSk_F hk612952 (rSk_k hs612779 k0_19 (by decide) (by decide)) (by decide) (by decide)).trans x612794
                            have ht612960 : rKd γ q572540 10 := rSk_k hk612952 ht612805 (by decide) (by decide)
                            have ht612961 : rKd γ q572541 9 := rSk_k hk612952 ht612806 (by decide) (by decide)
                            have hf612962 : γ 1 q572541 = f := rSk_1 hk612952 ht612806 (by decide) hf612807
                            have ht612963 : rKd γ q610655 2 := rSk_k hk612952 ht612782 (by decide) (by decide)
                            have hf612964 : γ 1 q610655 = f := rSk_1 hk612952 ht612782 (by decide) hf612783
                            have ht612965 : rKd γ q612773 1 := rSk_k hk612952 ht612786 (by decide) (by decide)
                            have hf612966 : γ 1 q612773 = f := rSk_1 hk612952 ht612786 (by decide) hf612787
                            have ht612967 : rKd γ q612898 3 := rSk_k hk612952 ht612902 (by decide) (by decide)
                            have hf612968 : γ 1 q612898 = f := rSk_1 hk612952 ht612902 (by decide) hf612911
                            have he612969 : F612951 q612773 = .inr (20, [.int p612861, .int p612862, .int p612863, .int p612864, .int p612865, .int p612866, .int p612867]) := (rSk_F hk612952 ht612786 (by decide) (by decide)).trans he612860
                            have hm612970 : q612773 ∈ P612950 := RS_m hT612956 ht612965 (by decide)
                            clear bp612900 bp612901 r612909 r612910 rg612931 rm612932 bd612933 rc612934
                            have mk612971 : mKp (F572539 q572540) (F612951 q572540) := mKp_tr x612803 x612949
                            have hph612972 : rPh γ0 el0 f ≤ rPh γ el f := rm_ph hph612780 hr612954
                            have pk612973 : rPh γ el f ≤ 387 * B + 6000 := rm_pk (rM_ge hT612956 ht612961 hf612962).1 (rM_bd hB612955)
                            change G _ _ _ _ _ _ _ (.int o612940 :: _) _ _ _
                            refine G_widen (cs' := ((rPh γ el f - rPh γ0 el0 f) / 18)) (sl' := (rPh γ el f - rPh γ0 el0 f)) (rm_wc hph612780 hr612953) (rm_ws hph612780 hr612954) ?_
                            have sz612974 := x612941
                            have r612975 : 0 < γ 6 (γ 1 q572541) := by rw [hf612962]; omega
                            have hm612976 : q572540 ∈ P612950 := RS_m hT612956 ht612960 (by decide)
                            refine rk10_e (show rk_10 γ (F612951 q572540) from RS_o hT612956 ht612960) (fun q612978 q612979 p612980 p612981 p612982 p612983 p612984 p612985 p612986 p612987 p612988 p612989 p612990 p612991 p612992 p612993 p612994 he612977 hB613021 ht612995 ht612996 ht612997 ht612998 ht612999 ht613000 ht613001 ht613002 ht613003 ht613004 ht613005 ht613006 ht613007 ht613008 ht613009 ht613010 ht613011 ht613012 ht613013 ht613014 ht613015 ht613016 ht613017 ht613018 hB613022 => ?_)
                            have ac613023 : (fI (F612951 q572540) 11).toInt = p612982.toInt := by rw [he612977]; rfl
                            have bp612982 : gB p612982 0 100 := (hB613021.2.2.1)
                            have ac613024 : (fI (F612951 q572540) 14).toInt = p612985.toInt := by rw [he612977]; rfl
                            have bp612985 : gB p612985 0 2000 := (hB613021.2.2.2.1)
                            refine G_istore (L' := [(8, .int o612940), (0, .ref q572540), (1, .ref q572541), (2, .int g610515), (3, .ref q610655), (4, .int g612772), (5, .ref q612773), (6, .int g612774), (7, .int g612775)]) dr_cX17_spill_273 (Nat.le_of_ble_eq_true rfl) rfl ?_
                            refine G_iload 0 dr_cX17_spill_275 rfl ?_
                            refine G_if_ge 282 dr_cX17_spill_277 (by decide +kernel) (fun hc613025 => ?_) (fun hc613025 => ?_)
                            · have r613026 : 0 ≤ o612940.toInt := gj_leL hc613025 (show Int32.toInt 0 = 0 by decide)
                              have bo612940' : gB o612940 0 1999 := ⟨by omega, by omega⟩
                              have pl613028 := sp_ld (x612947.resolve_left (by omega)) x612795 (tn_ge (by omega)) (rfl : ((g612772.toInt : Int).toNat + 1) = (g612772.toInt : Int).toNat + 1)
                              have hp613029 : rAt γ el q572541 (g610515.toInt : Int).toNat ((g612772.toInt : Int).toNat + 1) = q612773 := ((x612948.resolve_left (by omega)) (g612772.toInt : Int).toNat (Nat.le_refl _)).trans x612796
                              have r613030 := x612945.resolve_left (by omega)
                              clear x612945 x612947 x612948
                              obtain ⟨z613031, hz613031⟩ : ∃ z : Int32, z = g612772 + Int32.ofInt 1 := ⟨_, rfl⟩
                              have ez613031 : z613031.toInt = g612772.toInt + 1 := gI_inc hz613031 (by decide) bg612772 (by decide) (by decide)
                              have bz613031 : gB z613031 1 1000002 := ⟨by omega, by omega⟩
                              refine G_iinc (L' := [(4, .int z613031), (8, .int o612940), (0, .ref q572540), (1, .ref q572541), (2, .int g610515), (3, .ref q610655), (5, .ref q612773), (6, .int g612774), (7, .int g612775)]) z613031 5 dr_cX17_spill_282 rfl hz613031.symm (Nat.le_of_ble_eq_true rfl) rfl ?_
                              refine G_aload 6 dr_cX17_spill_285 rfl ?_
                              refine G_iload 1 dr_cX17_spill_287 rfl ?_
                              refine Gp_put 3 hm612970 he612969 dr_cX17_spill_289 (gk_X15 D I) (Nat.le_of_ble_eq_true rfl) wr_9_190 rfl rfl rfl (Nat.le_of_ble_eq_true rfl) (fun F613032 e613033 n613034 => ?_)
                              have he613035 : F613032 q572540 = .inr (22, [.ref (γ 9 0), .ref (γ 9 1), .ref (γ 9 2), .ref (γ 9 3), .ref (γ 9 4), .ref (γ 9 5), .ref (γ 9 6), .ref (γ 9 7), .ref (γ 9 8), .int p612980, .int p612981, .int p612982, .int p612983, .int p612984, .int p612985, .ref (γ 9 15), .ref (γ 9 16), .ref (γ 9 17), .ref (γ 9 18), .ref (γ 9 19), .ref (γ 9 20), .ref (γ 9 21), .ref (γ 9 22), .int p612986, .int p612987, .int p612988, .int p612989, .int p612990, .ref q612978, .ref (γ 9 29), .int p612991, .ref (γ 9 31), .int p612992, .int p612993, .int p612994, .ref q612979]) := (n613034 q572540 (rn_oo he612977 he612969 (by decide))).trans he612977
                              have he613036 : F613032 q612773 = .inr (20, [.int p612861, .int p612862, .int p612863, .int o612940, .int p612865, .int p612866, .int p612867]) := e613033
                              have mk613037 : mKp (F572539 q572540) (F613032 q572540) := mKp_tr mk612971 (mKp_eq (n613034 q572540 (rn_ty ht612960 ht612965 (by decide))))
                              have kp613038 : F613032 (γ0 9 3) = F572539 (γ0 9 3) := (n613034 (γ0 9 3) (rn_ty (rSk_k hs612957 k0_3 (by decide) (by decide)) ht612965 (by decide))).trans kp612958
                              have kp613039 : F613032 (γ0 9 19) = F607276 (γ0 9 19) := (n613034 (γ0 9 19) (rn_ty (rSk_k hs612957 k0_19 (by decide) (by decide)) ht612965 (by decide))).trans kp612959
                              have hT613040 : RS D I P612950 F613032 γ el := RS_set hT612956 n613034 ht612965 (by decide) ⟨p612861, p612862, p612863, o612940, p612865, p612866, p612867, he613036, bp612861, bp612862, bp612865, bp612866, bp612867, r612868, r612869, (Or.inr bo612940'), (by have z := r612871; omega), r612872⟩
                              have hs613042 := rSk_put hs612957 hT613040 n613034 ht612965 (by decide) (by decide)
                              have hm613044 : q610655 ∈ P612950 := RS_m hT613040 ht612963 (by decide)
                              obtain ⟨q613046, q613047, p613048, p613049, he613045, ht613056, ht613050, ht613051, ht613052, ht613053, ht613054, bp613048, bp613049, r613055, r613057, r613058⟩ := show rk_2 γ q610655 (F613032 q610655) from RS_o hT613040 ht612963
                              have hf613059 : γ 1 q613046 = f := (show γ 1 q613046 = γ 1 q610655 from ht613051).trans hf612964
                              have hf613060 : γ 1 q613047 = f := (show γ 1 q613047 = γ 1 q610655 from ht613053).trans hf612964
                              have r613061 : γ 6 (γ 1 q610655) = γ 6 f := by rw [hf612964]
                              have r613062 : γ 7 (γ 1 q610655) = γ 7 f := by rw [hf612964]
                              have r613063 : γ 19 (γ 1 q610655) = γ 19 f := by rw [hf612964]
                              have r613064 := r613055.resolve_left (by omega)
                              clear r613055
                              have r613065 : γ 2 (γ 14 q610655) = γ 2 q613046 := by rw [ht613056.1]
                              have pl613043 := sp_put hT612956 ht612961 hf612962 pl613028 n613034 hp613029 (show (g610515.toInt : Int).toNat < γ 6 f from tn_lt (by omega) (by omega)) (by unfold rwL; rw [x612944.2.2]; exact tn_le1 (by omega) (by omega))
                              have ac613066 : (fI (F613032 q572540) 11).toInt = p612982.toInt := by rw [he613035]; rfl
                              have ac613067 : (fI (F613032 q572540) 14).toInt = p612985.toInt := by rw [he613035]; rfl
                              refine G_lv (L' := [(0, .ref q572540), (1, .ref q572541), (2, .int g610515), (3, .ref q610655), (4, .int z613031), (5, .ref q612773)]) [2, 3, 4, 5, 0, 6] rfl ?_
                              exact jn292_612294 P612950 F613032 γ el z613031 q612773 ⟨by omega, by omega⟩ hT613040 hs613042 hph612972 hB612955 ht612963 hf612964 x612944.2.1 x612944.2.2 ht612965 hf612966 (by omega) (by omega) (by omega) (by omega) (by omega) (by omega) kp613039 (by rw [(show (z613031.toInt : Int).toNat = ((g612772.toInt : Int).toNat + 1) from tn_eq1 (by omega) (by omega))]; exact pl613043) (by rw [(show (z613031.toInt : Int).toNat = ((g612772.toInt : Int).toNat + 1) from tn_eq1 (by omega) (by omega))]; exact hp613029) (rS1_b he612860 he613036 (by omega) x612797) (by omega) (by omega) (ms_j x612800 (by omega) (by omega) (by omega)) (eO_j x612801 (by rw [he613036] <;> rfl) (by rw [he612860] <;> rfl) (by omega)) kp613038 mk613037
                            · have r613068 : o612940.toInt < 0 := gj_nleL hc613025 (show Int32.toInt 0 = 0 by decide)
                              have bo612940' : gB o612940 (-1) (-1) := ⟨by omega, by omega⟩
                              refine G_iconst 0 dr_cX17_spill_280 (by decide +kernel) ?_
                              exact G_zretA FieldType.boolean dr_cX17_spill_281 rfl rfl (rm_zc pk612973) (rm_zs pk612973) ⟨P612950, F612951, γ, el, 0, rfl, rfl, hs612957, (rm_pp hph612972), hB612955, (gB_w (gBl (show Int32.toInt 0 = 0 by decide)) (by decide) (by decide)), (by have qa0 : Int32.toInt 0 = 0 := (by decide); omega), (Or.inl (by decide)), kp612958, mk612971⟩
                    refine G_iload 0 dr_cX17_spill_102 rfl ?_
                    refine G_aload_n 1 dr_cX17_spill_104 rfl ?_
                    refine Gp_get 0 hm612222 he612223 dr_cX17_spill_105 (gk_X12 D I) (Nat.le_of_ble_eq_true rfl) wr_9_220 rfl ?_
                    refine Gw_callV (As := []) (gV_ok D I) (cp_7_ArrayList_size l hl0 D I P612145 F612146 q612224 p612246 q612248 p612247 hm612244 he612245 (gB_w bp612247 (by decide) (by decide))) dr_cX17_spill_108 ⟨wr_10_200, wr_1_18, wr_9_160, by decide, rfl, (Nat.le_of_ble_eq_true rfl), (Nat.le_of_ble_eq_true rfl)⟩ wr_9_158 wr_9_159 hm612244 he612245 rfl (rm_zc pk612171) (rm_zs pk612171) (Nat.le_of_ble_eq_true rfl) (fun r613072 w613073 dc613069 ds613070 hp613071 => ?_) (fun _ _ _ _ _ z => z.elim)
                    obtain ⟨rfl, rfl, hdc, hds⟩ := hp613071
                    change G _ _ _ _ _ _ _ (.int p612247 :: _) _ _ _
                    refine G_widen (cs' := ((rPh γ el f - rPh γ0 el0 f) / 18)) (sl' := (rPh γ el f - rPh γ0 el0 f)) (rm_d0 hdc) (rm_d0 hds) ?_
                    refine G_icmp_ge 129 dr_cX17_spill_111 (by decide +kernel) (fun hc613074 => ?_) (fun hc613074 => ?_)
                    · have r613075 : p612247.toInt ≤ g612144.toInt := gC_le hc613074
                      refine G_aload_n 1 dr_cX17_spill_129 rfl ?_
                      refine Gp_get 1 hm612222 he612223 dr_cX17_spill_130 (gk_X12 D I) (Nat.le_of_ble_eq_true rfl) wr_9_223 rfl ?_
                      have fl613078 : p612247.toInt = γ 2 q612224 := r612249
                      have hp613076 : rAt γ el q572541 (g610515.toInt : Int).toNat (g612144.toInt : Int).toNat = q612225 := (rAt_e r612154 ht612234.1 (by omega)).trans ht612234.2.1
                      have hL613077 : (g612144.toInt : Int).toNat ≤ γ 2 (rwL γ el q572541 (g610515.toInt : Int).toNat) := by unfold rwL; rw [r612154, ht612234.1]; exact tn_le0 (by omega) (by omega)
                      have hm613079 : q612225 ∈ P612145 := RS_m hT612147 ht612230 (by decide)
                      obtain ⟨p613081, p613082, p613083, p613084, p613085, p613086, p613087, he613080, bp613081, bp613082, bp613085, bp613086, bp613087, r613088, r613089, r613090, r613091, r613092⟩ := show rk_1 γ q612225 (F612146 q612225) from RS_o hT612147 ht612230
                      have bp613083 := gB_any p613083
                      have bp613084 := gB_any p613084
                      have r613093 : γ 7 (γ 1 q612225) = γ 7 f := by rw [hf612238]
                      have pl613094 := sp_hd x612162 hp613076 (show (g610515.toInt : Int).toNat < γ 6 f from tn_lt (by omega) (by omega)) hL613077
                      refine G_astore (L' := [(5, .ref q612225), (4, .int g612144), (3, .ref q610655), (2, .int g610515), (0, .ref q572540), (1, .ref q572541)]) dr_cX17_spill_133 (Nat.le_of_ble_eq_true rfl) rfl ?_
                      refine G_aload 0 dr_cX17_spill_135 rfl ?_
                      refine Gw_callV (As := []) (gV_ok D I) (cp_398571_Row_usesA l hl0 D I P612145 F612146 q612225 p613081 p613082 p613083 p613084 p613085 p613086 p613087 hm613079 he613080 bp613081 bp613082 bp613085 bp613086 bp613087) dr_cX17_spill_137 ⟨wr_10_192, wr_1_39, wr_10_195, by decide, rfl, (Nat.le_of_ble_eq_true rfl), (Nat.le_of_ble_eq_true rfl)⟩ wr_10_193 wr_10_194 hm613079 he613080 rfl (rm_zc pk612171) (rm_zs pk612171) (Nat.le_of_ble_eq_true rfl) (fun r613098 w613099 dc613095 ds613096 hp613097 => ?_) (fun _ _ _ _ _ z => z.elim)
                      obtain ⟨o613100, rfl, rfl, hdc, hds, bo613100, x613101⟩ := hp613097
                      change G _ _ _ _ _ _ _ (.int o613100 :: _) _ _ _
                      refine G_widen (cs' := ((rPh γ el f - rPh γ0 el0 f) / 18)) (sl' := (rPh γ el f - rPh γ0 el0 f)) (rm_d0 hdc) (rm_d0 hds) ?_
                      refine G_if_eq 151 dr_cX17_spill_140 (by decide +kernel) (fun hc613102 => ?_) (fun hc613102 => ?_)
                      · have r613103 : o613100.toInt = 0 := gj_eq hc613102 (show Int32.toInt 0 = 0 by decide)
                        have bo613100' : gB o613100 0 0 := gB_t0 r613103
                        refine G_iconst (-1) dr_cX17_spill_151 (by decide +kernel) ?_
                        refine G_istore (L' := [(6, .int (-1)), (5, .ref q612225), (4, .int g612144), (3, .ref q610655), (2, .int g610515), (0, .ref q572540), (1, .ref q572541)]) dr_cX17_spill_152 (Nat.le_of_ble_eq_true rfl) rfl ?_
                        refine G_aload 1 dr_cX17_spill_154 rfl ?_
                        refine Gw_callV (As := []) (gV_ok D I) (cp_398595_Row_usesB l hl0 D I P612145 F612146 q612225 p613081 p613082 p613083 p613084 p613085 p613086 p613087 hm613079 he613080 bp613081 bp613082 bp613085 bp613086 bp613087) dr_cX17_spill_156 ⟨wr_10_196, wr_1_39, wr_10_199, by decide, rfl, (Nat.le_of_ble_eq_true rfl), (Nat.le_of_ble_eq_true rfl)⟩ wr_10_197 wr_10_198 hm613079 he613080 rfl (rm_zc pk612171) (rm_zs pk612171) (Nat.le_of_ble_eq_true rfl) (fun r613107 w613108 dc613104 ds613105 hp613106 => ?_) (fun _ _ _ _ _ z => z.elim)
                        obtain ⟨o613109, rfl, rfl, hdc, hds, bo613109, x613110⟩ := hp613106
                        change G _ _ _ _ _ _ _ (.int o613109 :: _) _ _ _
                        refine G_widen (cs' := ((rPh γ el f - rPh γ0 el0 f) / 18)) (sl' := (rPh γ el f - rPh γ0 el0 f)) (rm_d0 hdc) (rm_d0 hds) ?_
                        refine G_if_eq 170 dr_cX17_spill_159 (by decide +kernel) (fun hc613111 => ?_) (fun hc613111 => ?_)
                        · have r613112 : o613109.toInt = 0 := gj_eq hc613111 (show Int32.toInt 0 = 0 by decide)
                          have bo613109' : gB o613109 0 0 := gB_t0 r613112
                          refine G_iconst (-1) dr_cX17_spill_170 (by decide +kernel) ?_
                          refine G_istore (L' := [(7, .int (-1)), (6, .int (-1)), (5, .ref q612225), (4, .int g612144), (3, .ref q610655), (2, .int g610515), (0, .ref q572540), (1, .ref q572541)]) dr_cX17_spill_171 (Nat.le_of_ble_eq_true rfl) rfl ?_
                          refine G_iload 1 dr_cX17_spill_173 rfl ?_
                          refine G_if_lt 236 dr_cX17_spill_175 (by decide +kernel) (fun _ => ?_) (fun hc => absurd hc (by decide))
                          have ac613113 : (fI (F612146 q572540) 11).toInt = p612179.toInt := by rw [he612174]; rfl
                          have ac613114 : (fI (F612146 q572540) 14).toInt = p612182.toInt := by rw [he612174]; rfl
                          refine G_lv (L' := [(0, .ref q572540), (1, .ref q572541), (2, .int g610515), (3, .ref q610655), (4, .int g612144), (5, .ref q612225), (6, .int (-1)), (7, .int (-1))]) [6, 7, 5, 4, 3, 2, 1, 0] rfl ?_
                          exact jn236_612803 P612145 F612146 γ el g612144 q612225 (-1) (-1) (gB_w bg612144' (by decide) (by decide)) (gB_w (gBl (show Int32.toInt (-1) = (-1) by decide)) (by decide) (by decide)) (gB_w (gBl (show Int32.toInt (-1) = (-1) by decide)) (by decide) (by decide)) hT612147 hs612148 hph612149 hB612150 ht612151 hf612152 r612153 r612154 ht612230 hf612238 (by have qa0 : Int32.toInt (-1) = (-1) := (by decide); omega) (by have qa0 : Int32.toInt (-1) = (-1) := (by decide); omega) (by have qa0 : Int32.toInt (-1) = (-1) := (by decide); omega) (by have qa0 : Int32.toInt (-1) = (-1) := (by decide); omega) (by have qa0 : Int32.toInt (-1) = (-1) := (by decide); omega) (by have qa0 : Int32.toInt (-1) = (-1) := (by decide); omega) x612161 (by exact pl613094.1) (by exact hp613076) (rS1_of he613080 he613080 pl613094.2 (fun h1 h2 h3 h4 => (uA_0 x613101 (by omega) h1 h2 h3 h4).elim) (fun h1 h2 h3 => (uB_0 x613110 (by omega) h1 h2 h3).elim)) (by have qa0 : Int32.toInt (-1) = (-1) := (by decide); omega) (by have qa0 : Int32.toInt (-1) = (-1) := (by decide); omega) (ms_j hm90_612166 (by omega) (by omega) (by omega)) (eO_c (op := p613081.toInt) (by rw [he613080] <;> rfl) (Or.inr (r613092.resolve_left (fun z => absurd (ht612232.2.symm.trans z) (by decide))))) x612165 x612166
                        · have r613115 : o613109.toInt ≠ 0 := gj_neq hc613111 (show Int32.toInt 0 = 0 by decide)
                          have bo613109' : gB o613109 1 1 := gB_t1 bo613109 r613115
                          refine G_aload 1 dr_cX17_spill_162 rfl ?_
                          refine Gp_get 3 hm613079 he613080 dr_cX17_spill_164 (gk_X15 D I) (Nat.le_of_ble_eq_true rfl) wr_9_190 rfl ?_
                          have rb613116 : gB p613084 0 1999 := r613090.resolve_left (by have z := (uB_1 x613110 (by omega)).2.2; omega)
                          refine G_goto 171 dr_cX17_spill_167 (by decide +kernel) ?_
                          refine G_istore (L' := [(7, .int p613084), (6, .int (-1)), (5, .ref q612225), (4, .int g612144), (3, .ref q610655), (2, .int g610515), (0, .ref q572540), (1, .ref q572541)]) dr_cX17_spill_171 (Nat.le_of_ble_eq_true rfl) rfl ?_
                          refine G_iload 1 dr_cX17_spill_173 rfl ?_
                          refine G_if_lt 236 dr_cX17_spill_175 (by decide +kernel) (fun _ => ?_) (fun hc => absurd hc (by decide))
                          have ac613117 : (fI (F612146 q572540) 11).toInt = p612179.toInt := by rw [he612174]; rfl
                          have ac613118 : (fI (F612146 q572540) 14).toInt = p612182.toInt := by rw [he612174]; rfl
                          refine G_lv (L' := [(0, .ref q572540), (1, .ref q572541), (2, .int g610515), (3, .ref q610655), (4, .int g612144), (5, .ref q612225), (6, .int (-1)), (7, .int p613084)]) [6, 7, 5, 4, 3, 2, 1, 0] rfl ?_
                          exact jn236_612803 P612145 F612146 γ el g612144 q612225 (-1) p613084 (gB_w bg612144' (by decide) (by decide)) (gB_w (gBl (show Int32.toInt (-1) = (-1) by decide)) (by decide) (by decide)) (gB_w rb613116 (by decide) (by decide)) hT612147 hs612148 hph612149 hB612150 ht612151 hf612152 r612153 r612154 ht612230 hf612238 (by have qa0 : Int32.toInt (-1) = (-1) := (by decide); omega) (by have qa0 : Int32.toInt (-1) = (-1) := (by decide); omega) (by have qa0 : Int32.toInt (-1) = (-1) := (by decide); omega) (by have qa0 : Int32.toInt (-1) = (-1) := (by decide); omega) (by have qa0 : Int32.toInt (-1) = (-1) := (by decide); omega) (by have qa0 : Int32.toInt (-1) = (-1) := (by decide); omega) x612161 (by exact pl613094.1) (by exact hp613076) (rS1_of he613080 he613080 pl613094.2 (fun h1 h2 h3 h4 => (uA_0 x613101 (by omega) h1 h2 h3 h4).elim) (fun _ _ _ => Or.inr ⟨rfl, rfl, by omega, Or.inl (by have qa : Int32.toInt (-1) = -1 := (by decide); omega)⟩)) (by have qa0 : Int32.toInt (-1) = (-1) := (by decide); omega) (by have qa0 : Int32.toInt (-1) = (-1) := (by decide); omega) (ms_j hm90_612166 (by omega) (by omega) (by omega)) (eO_c (op := p613081.toInt) (by rw [he613080] <;> rfl) (Or.inr (r613092.resolve_left (fun z => absurd (ht612232.2.symm.trans z) (by decide))))) x612165 x612166
                      · have r613119 : o613100.toInt ≠ 0 := gj_neq hc613102 (show Int32.toInt 0 = 0 by decide)
                        have bo613100' : gB o613100 1 1 := gB_t1 bo613100 r613119
                        refine G_aload 0 dr_cX17_spill_143 rfl ?_
                        refine Gp_get 2 hm613079 he613080 dr_cX17_spill_145 (gk_X15 D I) (Nat.le_of_ble_eq_true rfl) wr_9_186 rfl ?_
                        have rb613120 : gB p613083 0 1999 := r613089.resolve_left (by have z := (uA_1 x613101 (by omega)).2.2.2; omega)
                        refine G_goto 152 dr_cX17_spill_148 (by decide +kernel) ?_
                        refine G_istore (L' := [(6, .int p613083), (5, .ref q612225), (4, .int g612144), (3, .ref q610655), (2, .int g610515), (0, .ref q572540), (1, .ref q572541)]) dr_cX17_spill_152 (Nat.le_of_ble_eq_true rfl) rfl ?_
                        refine G_aload 1 dr_cX17_spill_154 rfl ?_
                        refine Gw_callV (As := []) (gV_ok D I) (cp_398595_Row_usesB l hl0 D I P612145 F612146 q612225 p613081 p613082 p613083 p613084 p613085 p613086 p613087 hm613079 he613080 bp613081 bp613082 bp613085 bp613086 bp613087) dr_cX17_spill_156 ⟨wr_10_196, wr_1_39, wr_10_199, by decide, rfl, (Nat.le_of_ble_eq_true rfl), (Nat.le_of_ble_eq_true rfl)⟩ wr_10_197 wr_10_198 hm613079 he613080 rfl (rm_zc pk612171) (rm_zs pk612171) (Nat.le_of_ble_eq_true rfl) (fun r613124 w613125 dc613121 ds613122 hp613123 => ?_) (fun _ _ _ _ _ z => z.elim)
                        obtain ⟨o613126, rfl, rfl, hdc, hds, bo613126, x613127⟩ := hp613123
                        change G _ _ _ _ _ _ _ (.int o613126 :: _) _ _ _
                        refine G_widen (cs' := ((rPh γ el f - rPh γ0 el0 f) / 18)) (sl' := (rPh γ el f - rPh γ0 el0 f)) (rm_d0 hdc) (rm_d0 hds) ?_
                        refine G_if_eq 170 dr_cX17_spill_159 (by decide +kernel) (fun hc613128 => ?_) (fun hc613128 => ?_)
                        · have r613129 : o613126.toInt = 0 := gj_eq hc613128 (show Int32.toInt 0 = 0 by decide)
                          have bo613126' : gB o613126 0 0 := gB_t0 r613129
                          refine G_iconst (-1) dr_cX17_spill_170 (by decide +kernel) ?_
                          refine G_istore (L' := [(7, .int (-1)), (6, .int p613083), (5, .ref q612225), (4, .int g612144), (3, .ref q610655), (2, .int g610515), (0, .ref q572540), (1, .ref q572541)]) dr_cX17_spill_171 (Nat.le_of_ble_eq_true rfl) rfl ?_
                          refine G_iload 1 dr_cX17_spill_173 rfl ?_
                          refine G_if_lt 236 dr_cX17_spill_175 (by decide +kernel) (fun hc => absurd (show False by have := gj_lt hc (show Int32.toInt 0 = 0 by decide); omega) not_false) (fun _ => ?_)
                          refine G_aload_n 6 dr_cX17_spill_178 rfl ?_
                          refine Gp_get 19 hm612173 he612174 dr_cX17_spill_179 (gk_X17 D I) (Nat.le_of_ble_eq_true rfl) wr_7_93 rfl ?_
                          refine G_iload 1 dr_cX17_spill_182 rfl ?_
                          have hm613130 : (γ 9 19) ∈ P612145 := RS_m hT612147 ht612207 (by decide)
                          obtain ⟨f613132, he613131, bf613132⟩ := show rk_21 I (F612146 (γ 9 19)) from RS_o hT612147 ht612207
                          refine Gp_iald 0 hm613130 he613131 dr_cX17_spill_184 rfl (gB_in rb613120 (by decide) (by decide)) (G_nam fun z613133 hz613133 => ?_)
                          have bz613133 : gB z613133 (-1) 1999 := by rw [hz613133]; exact bf613132 _
                          have c9_613134 : cB (F607276 (γ0 9 19)) = f613132 := by rw [← x612161, ← congrFun (rSk_9 hs612148) 19]; exact cB_of he613131
                          have hs613135 : (cB (F607276 (γ0 9 19)) p613083.toInt.toNat).toInt = z613133.toInt := by rw [c9_613134, hz613133]; rfl
                          refine G_if_lt 236 dr_cX17_spill_185 (by decide +kernel) (fun hc613137 => ?_) (fun hc613137 => ?_)
                          · have r613138 : z613133.toInt < 0 := gj_lt hc613137 (show Int32.toInt 0 = 0 by decide)
                            have bz613133' : gB z613133 (-1) (-1) := ⟨by omega, by omega⟩
                            have ac613139 : (fI (F612146 q572540) 11).toInt = p612179.toInt := by rw [he612174]; rfl
                            have ac613140 : (fI (F612146 q572540) 14).toInt = p612182.toInt := by rw [he612174]; rfl
                            refine G_lv (L' := [(0, .ref q572540), (1, .ref q572541), (2, .int g610515), (3, .ref q610655), (4, .int g612144), (5, .ref q612225), (6, .int p613083), (7, .int (-1))]) [6, 7, 5, 4, 3, 2, 1, 0] rfl ?_
                            exact jn236_612803 P612145 F612146 γ el g612144 q612225 p613083 (-1) (gB_w bg612144' (by decide) (by decide)) (gB_w rb613120 (by decide) (by decide)) (gB_w (gBl (show Int32.toInt (-1) = (-1) by decide)) (by decide) (by decide)) hT612147 hs612148 hph612149 hB612150 ht612151 hf612152 r612153 r612154 ht612230 hf612238 (by have qa0 : Int32.toInt (-1) = (-1) := (by decide); omega) (by have qa0 : Int32.toInt (-1) = (-1) := (by decide); omega) (by have qa0 : Int32.toInt (-1) = (-1) := (by decide); omega) (by have qa0 : Int32.toInt (-1) = (-1) := (by decide); omega) (by have qa0 : Int32.toInt (-1) = (-1) := (by decide); omega) (by have qa0 : Int32.toInt (-1) = (-1) := (by decide); omega) x612161 (by exact pl613094.1) (by exact hp613076) (rS1_of he613080 he613080 pl613094.2 (fun _ _ _ _ => Or.inr ⟨rfl, by omega⟩) (fun h1 h2 h3 => (uB_0 x613127 (by omega) h1 h2 h3).elim)) (by have qa0 : Int32.toInt (-1) = (-1) := (by decide); omega) (by have qa0 : Int32.toInt (-1) = (-1) := (by decide); omega) (ms_j hm90_612166 (by omega) (by omega) (by omega)) (eO_c (op := p613081.toInt) (by rw [he613080] <;> rfl) (Or.inr (r613092.resolve_left (fun z => absurd (ht612232.2.symm.trans z) (by decide))))) x612165 x612166
                          · have r613141 : 0 ≤ z613133.toInt := gj_nlt hc613137 (show Int32.toInt 0 = 0 by decide)
                            have bz613133' : gB z613133 0 1999 := ⟨by omega, by omega⟩
                            refine G_aload_n 6 dr_cX17_spill_188 rfl ?_
                            refine G_aload_n 7 dr_cX17_spill_189 rfl ?_
                            refine G_aload_n 4 dr_cX17_spill_190 rfl ?_
                            refine G_iload 3 dr_cX17_spill_191 rfl ?_
                            refine G_aload_n 6 dr_cX17_spill_193 rfl ?_
                            refine Gp_get 19 hm612173 he612174 dr_cX17_spill_194 (gk_X17 D I) (Nat.le_of_ble_eq_true rfl) wr_7_93 rfl ?_
                            refine G_iload 1 dr_cX17_spill_197 rfl ?_
                            refine Gp_iald 0 hm613130 he613131 dr_cX17_spill_199 rfl (gB_in rb613120 (by decide) (by decide)) (G_eqi (y := z613133) hz613133.symm ?_)
                            have r613142 := (spi607361.2.2.2 p613083.toInt.toNat (tn_lt (by omega) (by omega)) (by omega)).2.2
                            have ac613143 : (fI (F612146 q572540) 11).toInt = p612179.toInt := by rw [he612174]; rfl
                            have ac613144 : (fI (F612146 q572540) 14).toInt = p612182.toInt := by rw [he612174]; rfl
                            have rg613145 := rM_ge hT612147 ht612169 hf612170
                            have rm613146 := rM_bd hB612150
                            have bd613147 := rBd_c hT612147 ht612169 hf612170 hB612150
                            have rc613148 := rc_at hT612147 ht612169 hf612170
                            refine Gw_callV (As := [.ref q572541, .ref q610655, .int g612144, .int z613133]) (gV_ok D I) (cg_398209_SpillForgeModel_load l hl0 D I γ el f B P612145 F612146 q572540 q572541 q610655 g612144 z613133 g610515.toInt.toNat hT612147 ht612168 ht612169 ht612151 hf612170 hB612150 hBk r612153 r612154 hf612152 bg612144' bz613133' (by have qa0 : Int32.toInt (-1) = (-1) := (by decide); omega) (by have qa0 : Int32.toInt (-1) = (-1) := (by decide); omega) (by have qa0 : Int32.toInt (-1) = (-1) := (by decide); omega) (by have qa0 : Int32.toInt (-1) = (-1) := (by decide); omega) (by have qa0 : Int32.toInt (-1) = (-1) := (by decide); omega)) dr_cX17_spill_200 ⟨wr_11_67, wr_1_14, wr_11_70, by decide, rfl, (Nat.le_of_ble_eq_true rfl), (Nat.le_of_ble_eq_true rfl)⟩ wr_11_69 wr_p_111 hm612173 he612174 rfl (rm_gc hph612149 pk612171) (rm_gs hph612149 pk612171) (Nat.le_of_ble_eq_true rfl) (fun r613152 w613153 dc613149 ds613150 hp613151 => ?_) (fun _ _ _ _ _ z => z.elim)
                            obtain ⟨P613164, F613165, γ, el, o613154, rfl, rfl, hk613166, ⟨hr613167, hr613168⟩, hB613169, bo613154, x613155, x613156, x613157, x613158, x613159, x613160, x613161, x613162, x613163⟩ := hp613151
                            have hT613170 := hk613166.1
                            have hs613171 := rSk_tr hs612148 hk613166 (by decide) (by decide) (by decide)
                            have kp613172 : F613165 (γ0 9 3) = F572539 (γ0 9 3) := (rSk_F hk613166 (rSk_k hs612148 k0_3 (by decide) (by decide)) (by decide) (by decide)).trans x612165
                            have kp613173 : F613165 (γ0 9 19) = F607276 (γ0 9 19) := (rSk_F hk613166 (rSk_k hs612148 k0_19 (by decide) (by decide)) (by decide) (by decide)).trans x612161
                            have ht613174 : rKd γ q572540 10 := rSk_k hk613166 ht612168 (by decide) (by decide)
                            have ht613175 : rKd γ q572541 9 := rSk_k hk613166 ht612169 (by decide) (by decide)
                            have hf613176 : γ 1 q572541 = f := rSk_1 hk613166 ht612169 (by decide) hf612170
                            have ht613177 : rKd γ q610655 2 := rSk_k hk613166 ht612151 (by decide) (by decide)
                            have hf613178 : γ 1 q610655 = f := rSk_1 hk613166 ht612151 (by decide) hf612152
                            have ht613179 : rKd γ q612224 3 := rSk_k hk613166 ht612228 (by decide) (by decide)
                            have hf613180 : γ 1 q612224 = f := rSk_1 hk613166 ht612228 (by decide) hf612237
                            have ht613181 : rKd γ q612225 1 := rSk_k hk613166 ht612230 (by decide) (by decide)
                            have hf613182 : γ 1 q612225 = f := rSk_1 hk613166 ht612230 (by decide) hf612238
                            have he613183 : F613165 q612225 = .inr (20, [.int p613081, .int p613082, .int p613083, .int p613084, .int p613085, .int p613086, .int p613087]) := (rSk_F hk613166 ht612230 (by decide) (by decide)).trans he613080
                            have hm613184 : q612225 ∈ P613164 := RS_m hT613170 ht613181 (by decide)
                            clear bp612226 bp612227 r612235 r612236 rg613145 rm613146 bd613147 rc613148
                            have mk613185 : mKp (F572539 q572540) (F613165 q572540) := mKp_tr x612166 x613163
                            have hph613186 : rPh γ0 el0 f ≤ rPh γ el f := rm_ph hph612149 hr613168
                            have pk613187 : rPh γ el f ≤ 387 * B + 6000 := rm_pk (rM_ge hT613170 ht613175 hf613176).1 (rM_bd hB613169)
                            change G _ _ _ _ _ _ _ (.int o613154 :: _) _ _ _
                            refine G_widen (cs' := ((rPh γ el f - rPh γ0 el0 f) / 18)) (sl' := (rPh γ el f - rPh γ0 el0 f)) (rm_wc hph612149 hr613167) (rm_ws hph612149 hr613168) ?_
                            have sz613188 := x613155
                            have r613189 : 0 < γ 6 (γ 1 q572541) := by rw [hf613176]; omega
                            have hm613190 : q572540 ∈ P613164 := RS_m hT613170 ht613174 (by decide)
                            refine rk10_e (show rk_10 γ (F613165 q572540) from RS_o hT613170 ht613174) (fun q613192 q613193 p613194 p613195 p613196 p613197 p613198 p613199 p613200 p613201 p613202 p613203 p613204 p613205 p613206 p613207 p613208 he613191 hB613235 ht613209 ht613210 ht613211 ht613212 ht613213 ht613214 ht613215 ht613216 ht613217 ht613218 ht613219 ht613220 ht613221 ht613222 ht613223 ht613224 ht613225 ht613226 ht613227 ht613228 ht613229 ht613230 ht613231 ht613232 hB613236 => ?_)
                            have ac613237 : (fI (F613165 q572540) 11).toInt = p613196.toInt := by rw [he613191]; rfl
                            have bp613196 : gB p613196 0 100 := (hB613235.2.2.1)
                            have ac613238 : (fI (F613165 q572540) 14).toInt = p613199.toInt := by rw [he613191]; rfl
                            have bp613199 : gB p613199 0 2000 := (hB613235.2.2.2.1)
                            refine G_istore (L' := [(8, .int o613154), (7, .int (-1)), (6, .int p613083), (5, .ref q612225), (4, .int g612144), (3, .ref q610655), (2, .int g610515), (0, .ref q572540), (1, .ref q572541)]) dr_cX17_spill_203 (Nat.le_of_ble_eq_true rfl) rfl ?_
                            refine G_iload 0 dr_cX17_spill_205 rfl ?_
                            refine G_if_ge 212 dr_cX17_spill_207 (by decide +kernel) (fun hc613239 => ?_) (fun hc613239 => ?_)
                            · have r613240 : 0 ≤ o613154.toInt := gj_leL hc613239 (show Int32.toInt 0 = 0 by decide)
                              have bo613154' : gB o613154 0 1999 := ⟨by omega, by omega⟩
                              have pl613242 := sp_ld (x613161.resolve_left (by omega)) pl613094.1 (tn_ge (by omega)) (rfl : ((g612144.toInt : Int).toNat + 1) = (g612144.toInt : Int).toNat + 1)
                              have hp613243 : rAt γ el q572541 (g610515.toInt : Int).toNat ((g612144.toInt : Int).toNat + 1) = q612225 := ((x613162.resolve_left (by omega)) (g612144.toInt : Int).toNat (Nat.le_refl _)).trans hp613076
                              have r613244 := x613159.resolve_left (by omega)
                              clear x613159 x613161 x613162
                              obtain ⟨z613245, hz613245⟩ : ∃ z : Int32, z = g612144 + Int32.ofInt 1 := ⟨_, rfl⟩
                              have ez613245 : z613245.toInt = g612144.toInt + 1 := gI_inc hz613245 (by decide) bg612144' (by decide) (by decide)
                              have bz613245 : gB z613245 1 1000001 := ⟨by omega, by omega⟩
                              refine G_iinc (L' := [(4, .int z613245), (8, .int o613154), (7, .int (-1)), (6, .int p613083), (5, .ref q612225), (3, .ref q610655), (2, .int g610515), (0, .ref q572540), (1, .ref q572541)]) z613245 4 dr_cX17_spill_212 rfl hz613245.symm (Nat.le_of_ble_eq_true rfl) rfl ?_
                              refine G_aload 4 dr_cX17_spill_215 rfl ?_
                              refine G_iload 1 dr_cX17_spill_217 rfl ?_
                              refine Gp_put 2 hm613184 he613183 dr_cX17_spill_219 (gk_X15 D I) (Nat.le_of_ble_eq_true rfl) wr_9_186 rfl rfl rfl (Nat.le_of_ble_eq_true rfl) (fun F613246 e613247 n613248 => ?_)
                              have he613249 : F613246 q572540 = .inr (22, [.ref (γ 9 0), .ref (γ 9 1), .ref (γ 9 2), .ref (γ 9 3), .ref (γ 9 4), .ref (γ 9 5), .ref (γ 9 6), .ref (γ 9 7), .ref (γ 9 8), .int p613194, .int p613195, .int p613196, .int p613197, .int p613198, .int p613199, .ref (γ 9 15), .ref (γ 9 16), .ref (γ 9 17), .ref (γ 9 18), .ref (γ 9 19), .ref (γ 9 20), .ref (γ 9 21), .ref (γ 9 22), .int p613200, .int p613201, .int p613202, .int p613203, .int p613204, .ref q613192, .ref (γ 9 29), .int p613205, .ref (γ 9 31), .int p613206, .int p613207, .int p613208, .ref q613193]) := (n613248 q572540 (rn_oo he613191 he613183 (by decide))).trans he613191
                              have he613250 : F613246 q612225 = .inr (20, [.int p613081, .int p613082, .int o613154, .int p613084, .int p613085, .int p613086, .int p613087]) := e613247
                              have mk613251 : mKp (F572539 q572540) (F613246 q572540) := mKp_tr mk613185 (mKp_eq (n613248 q572540 (rn_ty ht613174 ht613181 (by decide))))
                              have kp613252 : F613246 (γ0 9 3) = F572539 (γ0 9 3) := (n613248 (γ0 9 3) (rn_ty (rSk_k hs613171 k0_3 (by decide) (by decide)) ht613181 (by decide))).trans kp613172
                              have kp613253 : F613246 (γ0 9 19) = F607276 (γ0 9 19) := (n613248 (γ0 9 19) (rn_ty (rSk_k hs613171 k0_19 (by decide) (by decide)) ht613181 (by decide))).trans kp613173
                              refine G_iload 2 dr_cX17_spill_222 rfl ?_
                              refine G_iload 3 dr_cX17_spill_224 rfl ?_
                              refine G_icmp_ne 236 dr_cX17_spill_226 (by decide +kernel) (fun _ => ?_) (fun hc => absurd (show False by have := gj_eqL hc (show Int32.toInt (-1) = (-1) by decide); omega) not_false)
                              have hT613254 : RS D I P613164 F613246 γ el := RS_set hT613170 n613248 ht613181 (by decide) ⟨p613081, p613082, o613154, p613084, p613085, p613086, p613087, he613250, bp613081, bp613082, bp613085, bp613086, bp613087, r613088, (Or.inr bo613154'), r613090, (by have z := r613091; omega), r613092⟩
                              have hs613256 := rSk_put hs613171 hT613254 n613248 ht613181 (by decide) (by decide)
                              have hm613258 : q610655 ∈ P613164 := RS_m hT613254 ht613177 (by decide)
                              obtain ⟨q613260, q613261, p613262, p613263, he613259, ht613270, ht613264, ht613265, ht613266, ht613267, ht613268, bp613262, bp613263, r613269, r613271, r613272⟩ := show rk_2 γ q610655 (F613246 q610655) from RS_o hT613254 ht613177
                              have hf613273 : γ 1 q613260 = f := (show γ 1 q613260 = γ 1 q610655 from ht613265).trans hf613178
                              have hf613274 : γ 1 q613261 = f := (show γ 1 q613261 = γ 1 q610655 from ht613267).trans hf613178
                              have r613275 : γ 6 (γ 1 q610655) = γ 6 f := by rw [hf613178]
                              have r613276 : γ 7 (γ 1 q610655) = γ 7 f := by rw [hf613178]
                              have r613277 : γ 19 (γ 1 q610655) = γ 19 f := by rw [hf613178]
                              have r613278 := r613269.resolve_left (by omega)
                              clear r613269
                              have r613279 : γ 2 (γ 14 q610655) = γ 2 q613260 := by rw [ht613270.1]
                              have pl613257 := sp_put hT613170 ht613175 hf613176 pl613242 n613248 hp613243 (show (g610515.toInt : Int).toNat < γ 6 f from tn_lt (by omega) (by omega)) (by unfold rwL; rw [x613158.2.2]; exact tn_le1 (by omega) (by omega))
                              have ac613280 : (fI (F613246 q572540) 11).toInt = p613196.toInt := by rw [he613249]; rfl
                              have ac613281 : (fI (F613246 q572540) 14).toInt = p613199.toInt := by rw [he613249]; rfl
                              refine G_lv (L' := [(0, .ref q572540), (1, .ref q572541), (2, .int g610515), (3, .ref q610655), (4, .int z613245), (5, .ref q612225), (6, .int p613083), (7, .int (-1))]) [7, 8, 6, 5, 0, 4, 3, 2] rfl ?_
                              exact jn236_612803 P613164 F613246 γ el z613245 q612225 p613083 (-1) (gB_w bz613245 (by decide) (by decide)) (gB_w rb613120 (by decide) (by decide)) (gB_w (gBl (show Int32.toInt (-1) = (-1) by decide)) (by decide) (by decide)) hT613254 hs613256 hph613186 hB613169 ht613177 hf613178 x613158.2.1 x613158.2.2 ht613181 hf613182 (by have qa0 : Int32.toInt (-1) = (-1) := (by decide); omega) (by have qa0 : Int32.toInt (-1) = (-1) := (by decide); omega) (by have qa0 : Int32.toInt (-1) = (-1) := (by decide); omega) (by have qa0 : Int32.toInt (-1) = (-1) := (by decide); omega) (by have qa0 : Int32.toInt (-1) = (-1) := (by decide); omega) (by have qa0 : Int32.toInt (-1) = (-1) := (by decide); omega) kp613253 (by rw [(show (z613245.toInt : Int).toNat = ((g612144.toInt : Int).toNat + 1) from tn_eq1 (by omega) (by omega))]; exact pl613257) (by rw [(show (z613245.toInt : Int).toNat = ((g612144.toInt : Int).toNat + 1) from tn_eq1 (by omega) (by omega))]; exact hp613243) (rS1_of he613080 he613250 pl613094.2 (fun _ _ _ _ => Or.inl (by omega)) (fun h1 h2 h3 => (uB_0 x613127 (by omega) h1 h2 h3).elim)) (by have qa0 : Int32.toInt (-1) = (-1) := (by decide); omega) (by have qa0 : Int32.toInt (-1) = (-1) := (by decide); omega) (ms_j hm90_612166 (by omega) (by omega) (by omega)) (eO_c (op := p613081.toInt) (by rw [he613250] <;> rfl) (Or.inr (r613092.resolve_left (fun z => absurd (ht612232.2.symm.trans z) (by decide))))) kp613252 mk613251
                            · have r613282 : o613154.toInt < 0 := gj_nleL hc613239 (show Int32.toInt 0 = 0 by decide)
                              have bo613154' : gB o613154 (-1) (-1) := ⟨by omega, by omega⟩
                              refine G_iconst 0 dr_cX17_spill_210 (by decide +kernel) ?_
                              exact G_zretA FieldType.boolean dr_cX17_spill_211 rfl rfl (rm_zc pk613187) (rm_zs pk613187) ⟨P613164, F613165, γ, el, 0, rfl, rfl, hs613171, (rm_pp hph613186), hB613169, (gB_w (gBl (show Int32.toInt 0 = 0 by decide)) (by decide) (by decide)), (by have qa0 : Int32.toInt (-1) = (-1) := (by decide); have qa1 : Int32.toInt 0 = 0 := (by decide); omega), (Or.inl (by decide)), kp613172, mk613185⟩
                        · have r613283 : o613126.toInt ≠ 0 := gj_neq hc613128 (show Int32.toInt 0 = 0 by decide)
                          have bo613126' : gB o613126 1 1 := gB_t1 bo613126 r613283
                          refine G_aload 1 dr_cX17_spill_162 rfl ?_
                          refine Gp_get 3 hm613079 he613080 dr_cX17_spill_164 (gk_X15 D I) (Nat.le_of_ble_eq_true rfl) wr_9_190 rfl ?_
                          have rb613284 : gB p613084 0 1999 := r613090.resolve_left (by have z := (uB_1 x613127 (by omega)).2.2; omega)
                          refine G_goto 171 dr_cX17_spill_167 (by decide +kernel) ?_
                          refine G_istore (L' := [(7, .int p613084), (6, .int p613083), (5, .ref q612225), (4, .int g612144), (3, .ref q610655), (2, .int g610515), (0, .ref q572540), (1, .ref q572541)]) dr_cX17_spill_171 (Nat.le_of_ble_eq_true rfl) rfl ?_
                          refine G_iload 1 dr_cX17_spill_173 rfl ?_
                          refine G_if_lt 236 dr_cX17_spill_175 (by decide +kernel) (fun hc => absurd (show False by have := gj_lt hc (show Int32.toInt 0 = 0 by decide); omega) not_false) (fun _ => ?_)
                          refine G_aload_n 6 dr_cX17_spill_178 rfl ?_
                          refine Gp_get 19 hm612173 he612174 dr_cX17_spill_179 (gk_X17 D I) (Nat.le_of_ble_eq_true rfl) wr_7_93 rfl ?_
                          refine G_iload 1 dr_cX17_spill_182 rfl ?_
                          have hm613285 : (γ 9 19) ∈ P612145 := RS_m hT612147 ht612207 (by decide)
                          obtain ⟨f613287, he613286, bf613287⟩ := show rk_21 I (F612146 (γ 9 19)) from RS_o hT612147 ht612207
                          refine Gp_iald 0 hm613285 he613286 dr_cX17_spill_184 rfl (gB_in rb613120 (by decide) (by decide)) (G_nam fun z613288 hz613288 => ?_)
                          have bz613288 : gB z613288 (-1) 1999 := by rw [hz613288]; exact bf613287 _
                          have c9_613289 : cB (F607276 (γ0 9 19)) = f613287 := by rw [← x612161, ← congrFun (rSk_9 hs612148) 19]; exact cB_of he613286
                          have hs613290 : (cB (F607276 (γ0 9 19)) p613083.toInt.toNat).toInt = z613288.toInt := by rw [c9_613289, hz613288]; rfl
                          refine G_if_lt 236 dr_cX17_spill_185 (by decide +kernel) (fun hc613292 => ?_) (fun hc613292 => ?_)
                          · have r613293 : z613288.toInt < 0 := gj_lt hc613292 (show Int32.toInt 0 = 0 by decide)
                            have bz613288' : gB z613288 (-1) (-1) := ⟨by omega, by omega⟩
                            have ac613294 : (fI (F612146 q572540) 11).toInt = p612179.toInt := by rw [he612174]; rfl
                            have ac613295 : (fI (F612146 q572540) 14).toInt = p612182.toInt := by rw [he612174]; rfl
                            refine G_lv (L' := [(0, .ref q572540), (1, .ref q572541), (2, .int g610515), (3, .ref q610655), (4, .int g612144), (5, .ref q612225), (6, .int p613083), (7, .int p613084)]) [6, 7, 5, 4, 3, 2, 1, 0] rfl ?_
                            exact jn236_612803 P612145 F612146 γ el g612144 q612225 p613083 p613084 (gB_w bg612144' (by decide) (by decide)) (gB_w rb613120 (by decide) (by decide)) (gB_w rb613284 (by decide) (by decide)) hT612147 hs612148 hph612149 hB612150 ht612151 hf612152 r612153 r612154 ht612230 hf612238 (by omega) (by omega) (by omega) (by omega) (by omega) (by omega) x612161 (by exact pl613094.1) (by exact hp613076) (rS1_of he613080 he613080 pl613094.2 (fun _ _ _ _ => Or.inr ⟨rfl, by omega⟩) (fun _ _ _ => Or.inr ⟨rfl, rfl, by omega, (Classical.em (p613084.toInt = p613083.toInt)).elim (fun e => Or.inr (by rw [e]; omega)) (fun e => Or.inl e)⟩)) (by omega) (by omega) (ms_j hm90_612166 (by omega) (by omega) (by omega)) (eO_c (op := p613081.toInt) (by rw [he613080] <;> rfl) (Or.inr (r613092.resolve_left (fun z => absurd (ht612232.2.symm.trans z) (by decide))))) x612165 x612166
                          · have r613296 : 0 ≤ z613288.toInt := gj_nlt hc613292 (show Int32.toInt 0 = 0 by decide)
                            have bz613288' : gB z613288 0 1999 := ⟨by omega, by omega⟩
                            refine G_aload_n 6 dr_cX17_spill_188 rfl ?_
                            refine G_aload_n 7 dr_cX17_spill_189 rfl ?_
                            refine G_aload_n 4 dr_cX17_spill_190 rfl ?_
                            refine G_iload 3 dr_cX17_spill_191 rfl ?_
                            refine G_aload_n 6 dr_cX17_spill_193 rfl ?_
                            refine Gp_get 19 hm612173 he612174 dr_cX17_spill_194 (gk_X17 D I) (Nat.le_of_ble_eq_true rfl) wr_7_93 rfl ?_
                            refine G_iload 1 dr_cX17_spill_197 rfl ?_
                            refine Gp_iald 0 hm613285 he613286 dr_cX17_spill_199 rfl (gB_in rb613120 (by decide) (by decide)) (G_eqi (y := z613288) hz613288.symm ?_)
                            have r613297 := (spi607361.2.2.2 p613083.toInt.toNat (tn_lt (by omega) (by omega)) (by omega)).2.2
                            have ac613298 : (fI (F612146 q572540) 11).toInt = p612179.toInt := by rw [he612174]; rfl
                            have ac613299 : (fI (F612146 q572540) 14).toInt = p612182.toInt := by rw [he612174]; rfl
                            have rg613300 := rM_ge hT612147 ht612169 hf612170
                            have rm613301 := rM_bd hB612150
                            have bd613302 := rBd_c hT612147 ht612169 hf612170 hB612150
                            have rc613303 := rc_at hT612147 ht612169 hf612170
                            refine Gw_callV (As := [.ref q572541, .ref q610655, .int g612144, .int z613288]) (gV_ok D I) (cg_398209_SpillForgeModel_load l hl0 D I γ el f B P612145 F612146 q572540 q572541 q610655 g612144 z613288 g610515.toInt.toNat hT612147 ht612168 ht612169 ht612151 hf612170 hB612150 hBk r612153 r612154 hf612152 bg612144' bz613288' (by omega) (by omega) (by omega) (by omega) (by omega)) dr_cX17_spill_200 ⟨wr_11_67, wr_1_14, wr_11_70, by decide, rfl, (Nat.le_of_ble_eq_true rfl), (Nat.le_of_ble_eq_true rfl)⟩ wr_11_69 wr_p_111 hm612173 he612174 rfl (rm_gc hph612149 pk612171) (rm_gs hph612149 pk612171) (Nat.le_of_ble_eq_true rfl) (fun r613307 w613308 dc613304 ds613305 hp613306 => ?_) (fun _ _ _ _ _ z => z.elim)
                            obtain ⟨P613319, F613320, γ, el, o613309, rfl, rfl, hk613321, ⟨hr613322, hr613323⟩, hB613324, bo613309, x613310, x613311, x613312, x613313, x613314, x613315, x613316, x613317, x613318⟩ := hp613306
                            have hT613325 := hk613321.1
                            have hs613326 := rSk_tr hs612148 hk613321 (by decide) (by decide) (by decide)
                            have kp613327 : F613320 (γ0 9 3) = F572539 (γ0 9 3) := (rSk_F hk613321 (rSk_k hs612148 k0_3 (by decide) (by decide)) (by decide) (by decide)).trans x612165
                            have kp613328 : F613320 (γ0 9 19) = F607276 (γ0 9 19) := (rSk_F hk613321 (rSk_k hs612148 k0_19 (by decide) (by decide)) (by decide) (by decide)).trans x612161
                            have ht613329 : rKd γ q572540 10 := rSk_k hk613321 ht612168 (by decide) (by decide)
                            have ht613330 : rKd γ q572541 9 := rSk_k hk613321 ht612169 (by decide) (by decide)
                            have hf613331 : γ 1 q572541 = f := rSk_1 hk613321 ht612169 (by decide) hf612170
                            have ht613332 : rKd γ q610655 2 := rSk_k hk613321 ht612151 (by decide) (by decide)
                            have hf613333 : γ 1 q610655 = f := rSk_1 hk613321 ht612151 (by decide) hf612152
                            have ht613334 : rKd γ q612224 3 := rSk_k hk613321 ht612228 (by decide) (by decide)
                            have hf613335 : γ 1 q612224 = f := rSk_1 hk613321 ht612228 (by decide) hf612237
                            have ht613336 : rKd γ q612225 1 := rSk_k hk613321 ht612230 (by decide) (by decide)
                            have hf613337 : γ 1 q612225 = f := rSk_1 hk613321 ht612230 (by decide) hf612238
                            have he613338 : F613320 q612225 = .inr (20, [.int p613081, .int p613082, .int p613083, .int p613084, .int p613085, .int p613086, .int p613087]) := (rSk_F hk613321 ht612230 (by decide) (by decide)).trans he613080
                            have hm613339 : q612225 ∈ P613319 := RS_m hT613325 ht613336 (by decide)
                            clear bp612226 bp612227 r612235 r612236 rg613300 rm613301 bd613302 rc613303
                            have mk613340 : mKp (F572539 q572540) (F613320 q572540) := mKp_tr x612166 x613318
                            have hph613341 : rPh γ0 el0 f ≤ rPh γ el f := rm_ph hph612149 hr613323
                            have pk613342 : rPh γ el f ≤ 387 * B + 6000 := rm_pk (rM_ge hT613325 ht613330 hf613331).1 (rM_bd hB613324)
                            change G _ _ _ _ _ _ _ (.int o613309 :: _) _ _ _
                            refine G_widen (cs' := ((rPh γ el f - rPh γ0 el0 f) / 18)) (sl' := (rPh γ el f - rPh γ0 el0 f)) (rm_wc hph612149 hr613322) (rm_ws hph612149 hr613323) ?_
                            have sz613343 := x613310
                            have r613344 : 0 < γ 6 (γ 1 q572541) := by rw [hf613331]; omega
                            have hm613345 : q572540 ∈ P613319 := RS_m hT613325 ht613329 (by decide)
                            refine rk10_e (show rk_10 γ (F613320 q572540) from RS_o hT613325 ht613329) (fun q613347 q613348 p613349 p613350 p613351 p613352 p613353 p613354 p613355 p613356 p613357 p613358 p613359 p613360 p613361 p613362 p613363 he613346 hB613390 ht613364 ht613365 ht613366 ht613367 ht613368 ht613369 ht613370 ht613371 ht613372 ht613373 ht613374 ht613375 ht613376 ht613377 ht613378 ht613379 ht613380 ht613381 ht613382 ht613383 ht613384 ht613385 ht613386 ht613387 hB613391 => ?_)
                            have ac613392 : (fI (F613320 q572540) 11).toInt = p613351.toInt := by rw [he613346]; rfl
                            have bp613351 : gB p613351 0 100 := (hB613390.2.2.1)
                            have ac613393 : (fI (F613320 q572540) 14).toInt = p613354.toInt := by rw [he613346]; rfl
                            have bp613354 : gB p613354 0 2000 := (hB613390.2.2.2.1)
                            refine G_istore (L' := [(8, .int o613309), (7, .int p613084), (6, .int p613083), (5, .ref q612225), (4, .int g612144), (3, .ref q610655), (2, .int g610515), (0, .ref q572540), (1, .ref q572541)]) dr_cX17_spill_203 (Nat.le_of_ble_eq_true rfl) rfl ?_
                            refine G_iload 0 dr_cX17_spill_205 rfl ?_
                            refine G_if_ge 212 dr_cX17_spill_207 (by decide +kernel) (fun hc613394 => ?_) (fun hc613394 => ?_)
                            · have r613395 : 0 ≤ o613309.toInt := gj_leL hc613394 (show Int32.toInt 0 = 0 by decide)
                              have bo613309' : gB o613309 0 1999 := ⟨by omega, by omega⟩
                              have pl613397 := sp_ld (x613316.resolve_left (by omega)) pl613094.1 (tn_ge (by omega)) (rfl : ((g612144.toInt : Int).toNat + 1) = (g612144.toInt : Int).toNat + 1)
                              have hp613398 : rAt γ el q572541 (g610515.toInt : Int).toNat ((g612144.toInt : Int).toNat + 1) = q612225 := ((x613317.resolve_left (by omega)) (g612144.toInt : Int).toNat (Nat.le_refl _)).trans hp613076
                              have r613399 := x613314.resolve_left (by omega)
                              clear x613314 x613316 x613317
                              obtain ⟨z613400, hz613400⟩ : ∃ z : Int32, z = g612144 + Int32.ofInt 1 := ⟨_, rfl⟩
                              have ez613400 : z613400.toInt = g612144.toInt + 1 := gI_inc hz613400 (by decide) bg612144' (by decide) (by decide)
                              have bz613400 : gB z613400 1 1000001 := ⟨by omega, by omega⟩
                              refine G_iinc (L' := [(4, .int z613400), (8, .int o613309), (7, .int p613084), (6, .int p613083), (5, .ref q612225), (3, .ref q610655), (2, .int g610515), (0, .ref q572540), (1, .ref q572541)]) z613400 4 dr_cX17_spill_212 rfl hz613400.symm (Nat.le_of_ble_eq_true rfl) rfl ?_
                              refine G_aload 4 dr_cX17_spill_215 rfl ?_
                              refine G_iload 1 dr_cX17_spill_217 rfl ?_
                              refine Gp_put 2 hm613339 he613338 dr_cX17_spill_219 (gk_X15 D I) (Nat.le_of_ble_eq_true rfl) wr_9_186 rfl rfl rfl (Nat.le_of_ble_eq_true rfl) (fun F613401 e613402 n613403 => ?_)
                              have he613404 : F613401 q572540 = .inr (22, [.ref (γ 9 0), .ref (γ 9 1), .ref (γ 9 2), .ref (γ 9 3), .ref (γ 9 4), .ref (γ 9 5), .ref (γ 9 6), .ref (γ 9 7), .ref (γ 9 8), .int p613349, .int p613350, .int p613351, .int p613352, .int p613353, .int p613354, .ref (γ 9 15), .ref (γ 9 16), .ref (γ 9 17), .ref (γ 9 18), .ref (γ 9 19), .ref (γ 9 20), .ref (γ 9 21), .ref (γ 9 22), .int p613355, .int p613356, .int p613357, .int p613358, .int p613359, .ref q613347, .ref (γ 9 29), .int p613360, .ref (γ 9 31), .int p613361, .int p613362, .int p613363, .ref q613348]) := (n613403 q572540 (rn_oo he613346 he613338 (by decide))).trans he613346
                              have he613405 : F613401 q612225 = .inr (20, [.int p613081, .int p613082, .int o613309, .int p613084, .int p613085, .int p613086, .int p613087]) := e613402
                              have mk613406 : mKp (F572539 q572540) (F613401 q572540) := mKp_tr mk613340 (mKp_eq (n613403 q572540 (rn_ty ht613329 ht613336 (by decide))))
                              have kp613407 : F613401 (γ0 9 3) = F572539 (γ0 9 3) := (n613403 (γ0 9 3) (rn_ty (rSk_k hs613326 k0_3 (by decide) (by decide)) ht613336 (by decide))).trans kp613327
                              have kp613408 : F613401 (γ0 9 19) = F607276 (γ0 9 19) := (n613403 (γ0 9 19) (rn_ty (rSk_k hs613326 k0_19 (by decide) (by decide)) ht613336 (by decide))).trans kp613328
                              refine G_iload 2 dr_cX17_spill_222 rfl ?_
                              refine G_iload 3 dr_cX17_spill_224 rfl ?_
                              refine G_icmp_ne 236 dr_cX17_spill_226 (by decide +kernel) (fun hc613409 => ?_) (fun hc613409 => ?_)
                              · have r613410 : p613084.toInt ≠ p613083.toInt := gC_ne hc613409
                                have hT613411 : RS D I P613319 F613401 γ el := RS_set hT613325 n613403 ht613336 (by decide) ⟨p613081, p613082, o613309, p613084, p613085, p613086, p613087, he613405, bp613081, bp613082, bp613085, bp613086, bp613087, r613088, (Or.inr bo613309'), r613090, (by have z := r613091; omega), r613092⟩
                                have hs613413 := rSk_put hs613326 hT613411 n613403 ht613336 (by decide) (by decide)
                                have hm613415 : q610655 ∈ P613319 := RS_m hT613411 ht613332 (by decide)
                                obtain ⟨q613417, q613418, p613419, p613420, he613416, ht613427, ht613421, ht613422, ht613423, ht613424, ht613425, bp613419, bp613420, r613426, r613428, r613429⟩ := show rk_2 γ q610655 (F613401 q610655) from RS_o hT613411 ht613332
                                have hf613430 : γ 1 q613417 = f := (show γ 1 q613417 = γ 1 q610655 from ht613422).trans hf613333
                                have hf613431 : γ 1 q613418 = f := (show γ 1 q613418 = γ 1 q610655 from ht613424).trans hf613333
                                have r613432 : γ 6 (γ 1 q610655) = γ 6 f := by rw [hf613333]
                                have r613433 : γ 7 (γ 1 q610655) = γ 7 f := by rw [hf613333]
                                have r613434 : γ 19 (γ 1 q610655) = γ 19 f := by rw [hf613333]
                                have r613435 := r613426.resolve_left (by omega)
                                clear r613426
                                have r613436 : γ 2 (γ 14 q610655) = γ 2 q613417 := by rw [ht613427.1]
                                have pl613414 := sp_put hT613325 ht613330 hf613331 pl613397 n613403 hp613398 (show (g610515.toInt : Int).toNat < γ 6 f from tn_lt (by omega) (by omega)) (by unfold rwL; rw [x613313.2.2]; exact tn_le1 (by omega) (by omega))
                                have ac613437 : (fI (F613401 q572540) 11).toInt = p613351.toInt := by rw [he613404]; rfl
                                have ac613438 : (fI (F613401 q572540) 14).toInt = p613354.toInt := by rw [he613404]; rfl
                                refine G_lv (L' := [(0, .ref q572540), (1, .ref q572541), (2, .int g610515), (3, .ref q610655), (4, .int z613400), (5, .ref q612225), (6, .int p613083), (7, .int p613084)]) [7, 8, 6, 5, 0, 4, 3, 2] rfl ?_
                                exact jn236_612803 P613319 F613401 γ el z613400 q612225 p613083 p613084 (gB_w bz613400 (by decide) (by decide)) (gB_w rb613120 (by decide) (by decide)) (gB_w rb613284 (by decide) (by decide)) hT613411 hs613413 hph613341 hB613324 ht613332 hf613333 x613313.2.1 x613313.2.2 ht613336 hf613337 (by omega) (by omega) (by omega) (by omega) (by omega) (by omega) kp613408 (by rw [(show (z613400.toInt : Int).toNat = ((g612144.toInt : Int).toNat + 1) from tn_eq1 (by omega) (by omega))]; exact pl613414) (by rw [(show (z613400.toInt : Int).toNat = ((g612144.toInt : Int).toNat + 1) from tn_eq1 (by omega) (by omega))]; exact hp613398) (rS1_of he613080 he613405 pl613094.2 (fun _ _ _ _ => Or.inl (by omega)) (fun _ _ _ => Or.inr ⟨rfl, rfl, by omega, Or.inl (by omega)⟩)) (by omega) (by omega) (ms_j hm90_612166 (by omega) (by omega) (by omega)) (eO_c (op := p613081.toInt) (by rw [he613405] <;> rfl) (Or.inr (r613092.resolve_left (fun z => absurd (ht612232.2.symm.trans z) (by decide))))) kp613407 mk613406
                              · have r613439 : p613084.toInt = p613083.toInt := gC_eq hc613409
                                refine G_aload 4 dr_cX17_spill_229 rfl ?_
                                refine G_iload 1 dr_cX17_spill_231 rfl ?_
                                refine Gp_put 3 hm613339 he613405 dr_cX17_spill_233 (gk_X15 D I) (Nat.le_of_ble_eq_true rfl) wr_9_190 rfl rfl rfl (Nat.le_of_ble_eq_true rfl) (fun F613440 e613441 n613442 => ?_)
                                have he613443 : F613440 q572540 = .inr (22, [.ref (γ 9 0), .ref (γ 9 1), .ref (γ 9 2), .ref (γ 9 3), .ref (γ 9 4), .ref (γ 9 5), .ref (γ 9 6), .ref (γ 9 7), .ref (γ 9 8), .int p613349, .int p613350, .int p613351, .int p613352, .int p613353, .int p613354, .ref (γ 9 15), .ref (γ 9 16), .ref (γ 9 17), .ref (γ 9 18), .ref (γ 9 19), .ref (γ 9 20), .ref (γ 9 21), .ref (γ 9 22), .int p613355, .int p613356, .int p613357, .int p613358, .int p613359, .ref q613347, .ref (γ 9 29), .int p613360, .ref (γ 9 31), .int p613361, .int p613362, .int p613363, .ref q613348]) := (n613442 q572540 (rn_oo he613404 he613405 (by decide))).trans he613404
                                have he613444 : F613440 q612225 = .inr (20, [.int p613081, .int p613082, .int o613309, .int o613309, .int p613085, .int p613086, .int p613087]) := e613441
                                have mk613445 : mKp (F572539 q572540) (F613440 q572540) := mKp_tr mk613406 (mKp_eq (n613442 q572540 (rn_ty ht613329 ht613336 (by decide))))
                                have n613446 : ∀ b, b ≠ q612225 → F613440 b = F613320 b := fun b hb => (n613442 b hb).trans (n613403 b hb)
                                have kp613447 : F613440 (γ0 9 3) = F572539 (γ0 9 3) := (n613442 (γ0 9 3) (rn_ty (rSk_k hs613326 k0_3 (by decide) (by decide)) ht613336 (by decide))).trans kp613407
                                have kp613448 : F613440 (γ0 9 19) = F607276 (γ0 9 19) := (n613442 (γ0 9 19) (rn_ty (rSk_k hs613326 k0_19 (by decide) (by decide)) ht613336 (by decide))).trans kp613408
                                have hT613449 : RS D I P613319 F613440 γ el := RS_set hT613325 n613446 ht613336 (by decide) ⟨p613081, p613082, o613309, o613309, p613085, p613086, p613087, he613444, bp613081, bp613082, bp613085, bp613086, bp613087, r613088, (Or.inr bo613309'), (Or.inr bo613309'), (by have z := r613091; omega), r613092⟩
                                have hs613451 := rSk_put hs613326 hT613449 n613446 ht613336 (by decide) (by decide)
                                have hm613453 : q610655 ∈ P613319 := RS_m hT613449 ht613332 (by decide)
                                obtain ⟨q613455, q613456, p613457, p613458, he613454, ht613465, ht613459, ht613460, ht613461, ht613462, ht613463, bp613457, bp613458, r613464, r613466, r613467⟩ := show rk_2 γ q610655 (F613440 q610655) from RS_o hT613449 ht613332
                                have hf613468 : γ 1 q613455 = f := (show γ 1 q613455 = γ 1 q610655 from ht613460).trans hf613333
                                have hf613469 : γ 1 q613456 = f := (show γ 1 q613456 = γ 1 q610655 from ht613462).trans hf613333
                                have r613470 : γ 6 (γ 1 q610655) = γ 6 f := by rw [hf613333]
                                have r613471 : γ 7 (γ 1 q610655) = γ 7 f := by rw [hf613333]
                                have r613472 : γ 19 (γ 1 q610655) = γ 19 f := by rw [hf613333]
                                have r613473 := r613464.resolve_left (by omega)
                                clear r613464
                                have r613474 : γ 2 (γ 14 q610655) = γ 2 q613455 := by rw [ht613465.1]
                                have pl613452 := sp_put hT613325 ht613330 hf613331 pl613397 n613446 hp613398 (show (g610515.toInt : Int).toNat < γ 6 f from tn_lt (by omega) (by omega)) (by unfold rwL; rw [x613313.2.2]; exact tn_le1 (by omega) (by omega))
                                have ac613475 : (fI (F613440 q572540) 11).toInt = p613351.toInt := by rw [he613443]; rfl
                                have ac613476 : (fI (F613440 q572540) 14).toInt = p613354.toInt := by rw [he613443]; rfl
                                refine G_lv (L' := [(0, .ref q572540), (1, .ref q572541), (2, .int g610515), (3, .ref q610655), (4, .int z613400), (5, .ref q612225), (6, .int p613083), (7, .int p613084)]) [7, 8, 6, 5, 0, 4, 3, 2] rfl ?_
                                exact jn236_612803 P613319 F613440 γ el z613400 q612225 p613083 p613084 (gB_w bz613400 (by decide) (by decide)) (gB_w rb613120 (by decide) (by decide)) (gB_w rb613284 (by decide) (by decide)) hT613449 hs613451 hph613341 hB613324 ht613332 hf613333 x613313.2.1 x613313.2.2 ht613336 hf613337 (by omega) (by omega) (by omega) (by omega) (by omega) (by omega) kp613448 (by rw [(show (z613400.toInt : Int).toNat = ((g612144.toInt : Int).toNat + 1) from tn_eq1 (by omega) (by omega))]; exact pl613452) (by rw [(show (z613400.toInt : Int).toNat = ((g612144.toInt : Int).toNat + 1) from tn_eq1 (by omega) (by omega))]; exact hp613398) (rS1_of he613080 he613444 pl613094.2 (fun _ _ _ _ => Or.inl (by omega)) (fun _ _ _ => Or.inl (by omega))) (by omega) (by omega) (ms_j hm90_612166 (by omega) (by omega) (by omega)) (eO_c (op := p613081.toInt) (by rw [he613444] <;> rfl) (Or.inr (r613092.resolve_left (fun z => absurd (ht612232.2.symm.trans z) (by decide))))) kp613447 mk613445
                            · have r613477 : o613309.toInt < 0 := gj_nleL hc613394 (show Int32.toInt 0 = 0 by decide)
                              have bo613309' : gB o613309 (-1) (-1) := ⟨by omega, by omega⟩
                              refine G_iconst 0 dr_cX17_spill_210 (by decide +kernel) ?_
                              exact G_zretA FieldType.boolean dr_cX17_spill_211 rfl rfl (rm_zc pk613342) (rm_zs pk613342) ⟨P613319, F613320, γ, el, 0, rfl, rfl, hs613326, (rm_pp hph613341), hB613324, (gB_w (gBl (show Int32.toInt 0 = 0 by decide)) (by decide) (by decide)), (by have qa0 : Int32.toInt 0 = 0 := (by decide); omega), (Or.inl (by decide)), kp613327, mk613340⟩
                    · have r613478 : g612144.toInt < p612247.toInt := gC_nle hc613074
                      have bg612144'' : gB g612144 0 999999 := ⟨by omega, by omega⟩
                      have bp612247' : gB p612247 1 1000000 := ⟨by omega, by omega⟩
                      refine G_aload_n 1 dr_cX17_spill_114 rfl ?_
                      refine Gp_get 0 hm612222 he612223 dr_cX17_spill_115 (gk_X12 D I) (Nat.le_of_ble_eq_true rfl) wr_9_220 rfl ?_
                      refine G_iload 0 dr_cX17_spill_118 rfl ?_
                      obtain ⟨r613479, r613480, n613487, f613488, r613481, r613482, r613483, r613484, r613485, r613486⟩ := rLC_n r612251 (by omega)
                      have hm613489 : q612248 ∈ P612145 := RS_m hT612147 r613479 (by decide)
                      obtain ⟨q613490, hx613491⟩ : ∃ x, x = el q612224 g612144.toInt.toNat := ⟨_, rfl⟩
                      have hx613492 : f613488 g612144.toNatClampNeg = some q613490 := (r613485 _ (show g612144.toInt.toNat < γ 2 q612224 by first | assumption | omega)).trans (by rw [hx613491])
                      have ht613493 : rKd γ q613490 1 := by rw [hx613491]; exact (r612252 _ (show g612144.toInt.toNat < γ 2 q612224 by first | assumption | omega)).1
                      have ht613494 : rFm γ q613490 q612224 := by rw [hx613491]; exact (r612252 _ (show g612144.toInt.toNat < γ 2 q612224 by first | assumption | omega)).2.1
                      have hf613495 : γ 1 q613490 = f := (show γ 1 q613490 = γ 1 q612224 from ht613494).trans hf612237
                      refine Gw_callV (As := [.int g612144]) (gV_ok D I) (cp_22_ArrayList_get l hl0 D I P612145 F612146 q612224 q612248 g612144 p612246 p612247 f613488 n613487 q613490 hm612244 hm613489 he612245 r613481 (gB_w bg612144'' (by decide) (by decide)) (gB_w bp612247' (by decide) (by decide)) (by omega) (by omega) (by assumption) (by omega)) dr_cX17_spill_120 ⟨wr_10_201, wr_1_18, wr_10_65, by decide, rfl, (Nat.le_of_ble_eq_true rfl), (Nat.le_of_ble_eq_true rfl)⟩ wr_10_63 wr_10_64 hm612244 he612245 rfl (rm_zc pk612171) (rm_zs pk612171) (Nat.le_of_ble_eq_true rfl) (fun r613499 w613500 dc613496 ds613497 hp613498 => ?_) (fun _ _ _ _ _ z => z.elim)
                      obtain ⟨rfl, rfl, hdc, hds⟩ := hp613498
                      change G _ _ _ _ _ _ _ (.ref q613490 :: _) _ _ _
                      refine G_widen (cs' := ((rPh γ el f - rPh γ0 el0 f) / 18)) (sl' := (rPh γ el f - rPh γ0 el0 f)) (rm_d0 hdc) (rm_d0 hds) ?_
                      have hm613501 : q613490 ∈ P612145 := RS_m hT612147 ht613493 (by decide)
                      obtain ⟨p613503, p613504, p613505, p613506, p613507, p613508, p613509, he613502, bp613503, bp613504, bp613507, bp613508, bp613509, r613510, r613511, r613512, r613513, r613514⟩ := show rk_1 γ q613490 (F612146 q613490) from RS_o hT612147 ht613493
                      have bp613505 := gB_any p613505
                      have bp613506 := gB_any p613506
                      have r613515 : γ 7 (γ 1 q613490) = γ 7 f := by rw [hf613495]
                      refine Gp_cast hm613501 he613502 rfl dr_cX17_spill_123 wr_10_202 (gr_cast 1 rfl) ?_
                      refine G_goto 133 dr_cX17_spill_126 (by decide +kernel) ?_
                      have fl613518 : p612247.toInt = γ 2 q612224 := r612249
                      have hp613516 : rAt γ el q572541 (g610515.toInt : Int).toNat (g612144.toInt : Int).toNat = q613490 := (rAt_r r612154 ht612234.1 (by omega)).trans (by rw [hx613491])
                      have hL613517 : (g612144.toInt : Int).toNat ≤ γ 2 (rwL γ el q572541 (g610515.toInt : Int).toNat) := by unfold rwL; rw [r612154, ht612234.1]; exact tn_le0 (by omega) (by omega)
                      have pl613519 := sp_hd x612162 hp613516 (show (g610515.toInt : Int).toNat < γ 6 f from tn_lt (by omega) (by omega)) hL613517
                      refine G_astore (L' := [(5, .ref q613490), (4, .int g612144), (3, .ref q610655), (2, .int g610515), (0, .ref q572540), (1, .ref q572541)]) dr_cX17_spill_133 (Nat.le_of_ble_eq_true rfl) rfl ?_
                      refine G_aload 0 dr_cX17_spill_135 rfl ?_
                      refine Gw_callV (As := []) (gV_ok D I) (cp_398571_Row_usesA l hl0 D I P612145 F612146 q613490 p613503 p613504 p613505 p613506 p613507 p613508 p613509 hm613501 he613502 bp613503 bp613504 bp613507 bp613508 bp613509) dr_cX17_spill_137 ⟨wr_10_192, wr_1_39, wr_10_195, by decide, rfl, (Nat.le_of_ble_eq_true rfl), (Nat.le_of_ble_eq_true rfl)⟩ wr_10_193 wr_10_194 hm613501 he613502 rfl (rm_zc pk612171) (rm_zs pk612171) (Nat.le_of_ble_eq_true rfl) (fun r613523 w613524 dc613520 ds613521 hp613522 => ?_) (fun _ _ _ _ _ z => z.elim)
                      obtain ⟨o613525, rfl, rfl, hdc, hds, bo613525, x613526⟩ := hp613522
                      change G _ _ _ _ _ _ _ (.int o613525 :: _) _ _ _
                      refine G_widen (cs' := ((rPh γ el f - rPh γ0 el0 f) / 18)) (sl' := (rPh γ el f - rPh γ0 el0 f)) (rm_d0 hdc) (rm_d0 hds) ?_
                      refine G_if_eq 151 dr_cX17_spill_140 (by decide +kernel) (fun hc613527 => ?_) (fun hc613527 => ?_)
                      · have r613528 : o613525.toInt = 0 := gj_eq hc613527 (show Int32.toInt 0 = 0 by decide)
                        have bo613525' : gB o613525 0 0 := gB_t0 r613528
                        refine G_iconst (-1) dr_cX17_spill_151 (by decide +kernel) ?_
                        refine G_istore (L' := [(6, .int (-1)), (5, .ref q613490), (4, .int g612144), (3, .ref q610655), (2, .int g610515), (0, .ref q572540), (1, .ref q572541)]) dr_cX17_spill_152 (Nat.le_of_ble_eq_true rfl) rfl ?_
                        refine G_aload 1 dr_cX17_spill_154 rfl ?_
                        refine Gw_callV (As := []) (gV_ok D I) (cp_398595_Row_usesB l hl0 D I P612145 F612146 q613490 p613503 p613504 p613505 p613506 p613507 p613508 p613509 hm613501 he613502 bp613503 bp613504 bp613507 bp613508 bp613509) dr_cX17_spill_156 ⟨wr_10_196, wr_1_39, wr_10_199, by decide, rfl, (Nat.le_of_ble_eq_true rfl), (Nat.le_of_ble_eq_true rfl)⟩ wr_10_197 wr_10_198 hm613501 he613502 rfl (rm_zc pk612171) (rm_zs pk612171) (Nat.le_of_ble_eq_true rfl) (fun r613532 w613533 dc613529 ds613530 hp613531 => ?_) (fun _ _ _ _ _ z => z.elim)
                        obtain ⟨o613534, rfl, rfl, hdc, hds, bo613534, x613535⟩ := hp613531
                        change G _ _ _ _ _ _ _ (.int o613534 :: _) _ _ _
                        refine G_widen (cs' := ((rPh γ el f - rPh γ0 el0 f) / 18)) (sl' := (rPh γ el f - rPh γ0 el0 f)) (rm_d0 hdc) (rm_d0 hds) ?_
                        refine G_if_eq 170 dr_cX17_spill_159 (by decide +kernel) (fun hc613536 => ?_) (fun hc613536 => ?_)
                        · have r613537 : o613534.toInt = 0 := gj_eq hc613536 (show Int32.toInt 0 = 0 by decide)
                          have bo613534' : gB o613534 0 0 := gB_t0 r613537
                          refine G_iconst (-1) dr_cX17_spill_170 (by decide +kernel) ?_
                          refine G_istore (L' := [(7, .int (-1)), (6, .int (-1)), (5, .ref q613490), (4, .int g612144), (3, .ref q610655), (2, .int g610515), (0, .ref q572540), (1, .ref q572541)]) dr_cX17_spill_171 (Nat.le_of_ble_eq_true rfl) rfl ?_
                          refine G_iload 1 dr_cX17_spill_173 rfl ?_
                          refine G_if_lt 236 dr_cX17_spill_175 (by decide +kernel) (fun _ => ?_) (fun hc => absurd hc (by decide))
                          have ac613538 : (fI (F612146 q572540) 11).toInt = p612179.toInt := by rw [he612174]; rfl
                          have ac613539 : (fI (F612146 q572540) 14).toInt = p612182.toInt := by rw [he612174]; rfl
                          refine G_lv (L' := [(0, .ref q572540), (1, .ref q572541), (2, .int g610515), (3, .ref q610655), (4, .int g612144), (5, .ref q613490), (6, .int (-1)), (7, .int (-1))]) [6, 7, 5, 4, 3, 2, 1, 0] rfl ?_
                          exact jn236_612803 P612145 F612146 γ el g612144 q613490 (-1) (-1) (gB_w bg612144'' (by decide) (by decide)) (gB_w (gBl (show Int32.toInt (-1) = (-1) by decide)) (by decide) (by decide)) (gB_w (gBl (show Int32.toInt (-1) = (-1) by decide)) (by decide) (by decide)) hT612147 hs612148 hph612149 hB612150 ht612151 hf612152 r612153 r612154 ht613493 hf613495 (by have qa0 : Int32.toInt (-1) = (-1) := (by decide); omega) (by have qa0 : Int32.toInt (-1) = (-1) := (by decide); omega) (by have qa0 : Int32.toInt (-1) = (-1) := (by decide); omega) (by have qa0 : Int32.toInt (-1) = (-1) := (by decide); omega) (by have qa0 : Int32.toInt (-1) = (-1) := (by decide); omega) (by have qa0 : Int32.toInt (-1) = (-1) := (by decide); omega) x612161 (by exact pl613519.1) (by exact hp613516) (rS1_of he613502 he613502 pl613519.2 (fun h1 h2 h3 h4 => (uA_0 x613526 (by omega) h1 h2 h3 h4).elim) (fun h1 h2 h3 => (uB_0 x613535 (by omega) h1 h2 h3).elim)) (by have qa0 : Int32.toInt (-1) = (-1) := (by decide); omega) (by have qa0 : Int32.toInt (-1) = (-1) := (by decide); omega) (ms_j hm90_612166 (by omega) (by omega) (by omega)) (eO_l (by omega)) x612165 x612166
                        · have r613540 : o613534.toInt ≠ 0 := gj_neq hc613536 (show Int32.toInt 0 = 0 by decide)
                          have bo613534' : gB o613534 1 1 := gB_t1 bo613534 r613540
                          refine G_aload 1 dr_cX17_spill_162 rfl ?_
                          refine Gp_get 3 hm613501 he613502 dr_cX17_spill_164 (gk_X15 D I) (Nat.le_of_ble_eq_true rfl) wr_9_190 rfl ?_
                          have rb613541 : gB p613506 0 1999 := r613512.resolve_left (by have z := (uB_1 x613535 (by omega)).2.2; omega)
                          refine G_goto 171 dr_cX17_spill_167 (by decide +kernel) ?_
                          refine G_istore (L' := [(7, .int p613506), (6, .int (-1)), (5, .ref q613490), (4, .int g612144), (3, .ref q610655), (2, .int g610515), (0, .ref q572540), (1, .ref q572541)]) dr_cX17_spill_171 (Nat.le_of_ble_eq_true rfl) rfl ?_
                          refine G_iload 1 dr_cX17_spill_173 rfl ?_
                          refine G_if_lt 236 dr_cX17_spill_175 (by decide +kernel) (fun _ => ?_) (fun hc => absurd hc (by decide))
                          have ac613542 : (fI (F612146 q572540) 11).toInt = p612179.toInt := by rw [he612174]; rfl
                          have ac613543 : (fI (F612146 q572540) 14).toInt = p612182.toInt := by rw [he612174]; rfl
                          refine G_lv (L' := [(0, .ref q572540), (1, .ref q572541), (2, .int g610515), (3, .ref q610655), (4, .int g612144), (5, .ref q613490), (6, .int (-1)), (7, .int p613506)]) [6, 7, 5, 4, 3, 2, 1, 0] rfl ?_
                          exact jn236_612803 P612145 F612146 γ el g612144 q613490 (-1) p613506 (gB_w bg612144'' (by decide) (by decide)) (gB_w (gBl (show Int32.toInt (-1) = (-1) by decide)) (by decide) (by decide)) (gB_w rb613541 (by decide) (by decide)) hT612147 hs612148 hph612149 hB612150 ht612151 hf612152 r612153 r612154 ht613493 hf613495 (by have qa0 : Int32.toInt (-1) = (-1) := (by decide); omega) (by have qa0 : Int32.toInt (-1) = (-1) := (by decide); omega) (by have qa0 : Int32.toInt (-1) = (-1) := (by decide); omega) (by have qa0 : Int32.toInt (-1) = (-1) := (by decide); omega) (by have qa0 : Int32.toInt (-1) = (-1) := (by decide); omega) (by have qa0 : Int32.toInt (-1) = (-1) := (by decide); omega) x612161 (by exact pl613519.1) (by exact hp613516) (rS1_of he613502 he613502 pl613519.2 (fun h1 h2 h3 h4 => (uA_0 x613526 (by omega) h1 h2 h3 h4).elim) (fun _ _ _ => Or.inr ⟨rfl, rfl, by omega, Or.inl (by have qa : Int32.toInt (-1) = -1 := (by decide); omega)⟩)) (by have qa0 : Int32.toInt (-1) = (-1) := (by decide); omega) (by have qa0 : Int32.toInt (-1) = (-1) := (by decide); omega) (ms_j hm90_612166 (by omega) (by omega) (by omega)) (eO_l (by omega)) x612165 x612166
                      · have r613544 : o613525.toInt ≠ 0 := gj_neq hc613527 (show Int32.toInt 0 = 0 by decide)
                        have bo613525' : gB o613525 1 1 := gB_t1 bo613525 r613544
                        refine G_aload 0 dr_cX17_spill_143 rfl ?_
                        refine Gp_get 2 hm613501 he613502 dr_cX17_spill_145 (gk_X15 D I) (Nat.le_of_ble_eq_true rfl) wr_9_186 rfl ?_
                        have rb613545 : gB p613505 0 1999 := r613511.resolve_left (by have z := (uA_1 x613526 (by omega)).2.2.2; omega)
                        refine G_goto 152 dr_cX17_spill_148 (by decide +kernel) ?_
                        refine G_istore (L' := [(6, .int p613505), (5, .ref q613490), (4, .int g612144), (3, .ref q610655), (2, .int g610515), (0, .ref q572540), (1, .ref q572541)]) dr_cX17_spill_152 (Nat.le_of_ble_eq_true rfl) rfl ?_
                        refine G_aload 1 dr_cX17_spill_154 rfl ?_
                        refine Gw_callV (As := []) (gV_ok D I) (cp_398595_Row_usesB l hl0 D I P612145 F612146 q613490 p613503 p613504 p613505 p613506 p613507 p613508 p613509 hm613501 he613502 bp613503 bp613504 bp613507 bp613508 bp613509) dr_cX17_spill_156 ⟨wr_10_196, wr_1_39, wr_10_199, by decide, rfl, (Nat.le_of_ble_eq_true rfl), (Nat.le_of_ble_eq_true rfl)⟩ wr_10_197 wr_10_198 hm613501 he613502 rfl (rm_zc pk612171) (rm_zs pk612171) (Nat.le_of_ble_eq_true rfl) (fun r613549 w613550 dc613546 ds613547 hp613548 => ?_) (fun _ _ _ _ _ z => z.elim)
                        obtain ⟨o613551, rfl, rfl, hdc, hds, bo613551, x613552⟩ := hp613548
                        change G _ _ _ _ _ _ _ (.int o613551 :: _) _ _ _
                        refine G_widen (cs' := ((rPh γ el f - rPh γ0 el0 f) / 18)) (sl' := (rPh γ el f - rPh γ0 el0 f)) (rm_d0 hdc) (rm_d0 hds) ?_
                        refine G_if_eq 170 dr_cX17_spill_159 (by decide +kernel) (fun hc613553 => ?_) (fun hc613553 => ?_)
                        · have r613554 : o613551.toInt = 0 := gj_eq hc613553 (show Int32.toInt 0 = 0 by decide)
                          have bo613551' : gB o613551 0 0 := gB_t0 r613554
                          refine G_iconst (-1) dr_cX17_spill_170 (by decide +kernel) ?_
                          refine G_istore (L' := [(7, .int (-1)), (6, .int p613505), (5, .ref q613490), (4, .int g612144), (3, .ref q610655), (2, .int g610515), (0, .ref q572540), (1, .ref q572541)]) dr_cX17_spill_171 (Nat.le_of_ble_eq_true rfl) rfl ?_
                          refine G_iload 1 dr_cX17_spill_173 rfl ?_
                          refine G_if_lt 236 dr_cX17_spill_175 (by decide +kernel) (fun hc => absurd (show False by have := gj_lt hc (show Int32.toInt 0 = 0 by decide); omega) not_false) (fun _ => ?_)
                          refine G_aload_n 6 dr_cX17_spill_178 rfl ?_
                          refine Gp_get 19 hm612173 he612174 dr_cX17_spill_179 (gk_X17 D I) (Nat.le_of_ble_eq_true rfl) wr_7_93 rfl ?_
                          refine G_iload 1 dr_cX17_spill_182 rfl ?_
                          have hm613555 : (γ 9 19) ∈ P612145 := RS_m hT612147 ht612207 (by decide)
                          obtain ⟨f613557, he613556, bf613557⟩ := show rk_21 I (F612146 (γ 9 19)) from RS_o hT612147 ht612207
                          refine Gp_iald 0 hm613555 he613556 dr_cX17_spill_184 rfl (gB_in rb613545 (by decide) (by decide)) (G_nam fun z613558 hz613558 => ?_)
                          have bz613558 : gB z613558 (-1) 1999 := by rw [hz613558]; exact bf613557 _
                          have c9_613559 : cB (F607276 (γ0 9 19)) = f613557 := by rw [← x612161, ← congrFun (rSk_9 hs612148) 19]; exact cB_of he613556
                          have hs613560 : (cB (F607276 (γ0 9 19)) p613505.toInt.toNat).toInt = z613558.toInt := by rw [c9_613559, hz613558]; rfl
                          refine G_if_lt 236 dr_cX17_spill_185 (by decide +kernel) (fun hc613562 => ?_) (fun hc613562 => ?_)
                          · have r613563 : z613558.toInt < 0 := gj_lt hc613562 (show Int32.toInt 0 = 0 by decide)
                            have bz613558' : gB z613558 (-1) (-1) := ⟨by omega, by omega⟩
                            have ac613564 : (fI (F612146 q572540) 11).toInt = p612179.toInt := by rw [he612174]; rfl
                            have ac613565 : (fI (F612146 q572540) 14).toInt = p612182.toInt := by rw [he612174]; rfl
                            refine G_lv (L' := [(0, .ref q572540), (1, .ref q572541), (2, .int g610515), (3, .ref q610655), (4, .int g612144), (5, .ref q613490), (6, .int p613505), (7, .int (-1))]) [6, 7, 5, 4, 3, 2, 1, 0] rfl ?_
                            exact jn236_612803 P612145 F612146 γ el g612144 q613490 p613505 (-1) (gB_w bg612144'' (by decide) (by decide)) (gB_w rb613545 (by decide) (by decide)) (gB_w (gBl (show Int32.toInt (-1) = (-1) by decide)) (by decide) (by decide)) hT612147 hs612148 hph612149 hB612150 ht612151 hf612152 r612153 r612154 ht613493 hf613495 (by have qa0 : Int32.toInt (-1) = (-1) := (by decide); omega) (by have qa0 : Int32.toInt (-1) = (-1) := (by decide); omega) (by have qa0 : Int32.toInt (-1) = (-1) := (by decide); omega) (by have qa0 : Int32.toInt (-1) = (-1) := (by decide); omega) (by have qa0 : Int32.toInt (-1) = (-1) := (by decide); omega) (by have qa0 : Int32.toInt (-1) = (-1) := (by decide); omega) x612161 (by exact pl613519.1) (by exact hp613516) (rS1_of he613502 he613502 pl613519.2 (fun _ _ _ _ => Or.inr ⟨rfl, by omega⟩) (fun h1 h2 h3 => (uB_0 x613552 (by omega) h1 h2 h3).elim)) (by have qa0 : Int32.toInt (-1) = (-1) := (by decide); omega) (by have qa0 : Int32.toInt (-1) = (-1) := (by decide); omega) (ms_j hm90_612166 (by omega) (by omega) (by omega)) (eO_l (by omega)) x612165 x612166
                          · have r613566 : 0 ≤ z613558.toInt := gj_nlt hc613562 (show Int32.toInt 0 = 0 by decide)
                            have bz613558' : gB z613558 0 1999 := ⟨by omega, by omega⟩
                            refine G_aload_n 6 dr_cX17_spill_188 rfl ?_
                            refine G_aload_n 7 dr_cX17_spill_189 rfl ?_
                            refine G_aload_n 4 dr_cX17_spill_190 rfl ?_
                            refine G_iload 3 dr_cX17_spill_191 rfl ?_
                            refine G_aload_n 6 dr_cX17_spill_193 rfl ?_
                            refine Gp_get 19 hm612173 he612174 dr_cX17_spill_194 (gk_X17 D I) (Nat.le_of_ble_eq_true rfl) wr_7_93 rfl ?_
                            refine G_iload 1 dr_cX17_spill_197 rfl ?_
                            refine Gp_iald 0 hm613555 he613556 dr_cX17_spill_199 rfl (gB_in rb613545 (by decide) (by decide)) (G_eqi (y := z613558) hz613558.symm ?_)
                            have r613567 := (spi607361.2.2.2 p613505.toInt.toNat (tn_lt (by omega) (by omega)) (by omega)).2.2
                            have ac613568 : (fI (F612146 q572540) 11).toInt = p612179.toInt := by rw [he612174]; rfl
                            have ac613569 : (fI (F612146 q572540) 14).toInt = p612182.toInt := by rw [he612174]; rfl
                            have rg613570 := rM_ge hT612147 ht612169 hf612170
                            have rm613571 := rM_bd hB612150
                            have bd613572 := rBd_c hT612147 ht612169 hf612170 hB612150
                            have rc613573 := rc_at hT612147 ht612169 hf612170
                            refine Gw_callV (As := [.ref q572541, .ref q610655, .int g612144, .int z613558]) (gV_ok D I) (cg_398209_SpillForgeModel_load l hl0 D I γ el f B P612145 F612146 q572540 q572541 q610655 g612144 z613558 g610515.toInt.toNat hT612147 ht612168 ht612169 ht612151 hf612170 hB612150 hBk r612153 r612154 hf612152 (gB_w bg612144'' (by decide) (by decide)) bz613558' (by have qa0 : Int32.toInt (-1) = (-1) := (by decide); omega) (by have qa0 : Int32.toInt (-1) = (-1) := (by decide); omega) (by have qa0 : Int32.toInt (-1) = (-1) := (by decide); omega) (by have qa0 : Int32.toInt (-1) = (-1) := (by decide); omega) (by have qa0 : Int32.toInt (-1) = (-1) := (by decide); omega)) dr_cX17_spill_200 ⟨wr_11_67, wr_1_14, wr_11_70, by decide, rfl, (Nat.le_of_ble_eq_true rfl), (Nat.le_of_ble_eq_true rfl)⟩ wr_11_69 wr_p_111 hm612173 he612174 rfl (rm_gc hph612149 pk612171) (rm_gs hph612149 pk612171) (Nat.le_of_ble_eq_true rfl) (fun r613577 w613578 dc613574 ds613575 hp613576 => ?_) (fun _ _ _ _ _ z => z.elim)
                            obtain ⟨P613589, F613590, γ, el, o613579, rfl, rfl, hk613591, ⟨hr613592, hr613593⟩, hB613594, bo613579, x613580, x613581, x613582, x613583, x613584, x613585, x613586, x613587, x613588⟩ := hp613576
                            have hT613595 := hk613591.1
                            have hs613596 := rSk_tr hs612148 hk613591 (by decide) (by decide) (by decide)
                            have kp613597 : F613590 (γ0 9 3) = F572539 (γ0 9 3) := (rSk_F hk613591 (rSk_k hs612148 k0_3 (by decide) (by decide)) (by decide) (by decide)).trans x612165
                            have kp613598 : F613590 (γ0 9 19) = F607276 (γ0 9 19) := (rSk_F hk613591 (rSk_k hs612148 k0_19 (by decide) (by decide)) (by decide) (by decide)).trans x612161
                            have ht613599 : rKd γ q572540 10 := rSk_k hk613591 ht612168 (by decide) (by decide)
                            have ht613600 : rKd γ q572541 9 := rSk_k hk613591 ht612169 (by decide) (by decide)
                            have hf613601 : γ 1 q572541 = f := rSk_1 hk613591 ht612169 (by decide) hf612170
                            have ht613602 : rKd γ q610655 2 := rSk_k hk613591 ht612151 (by decide) (by decide)
                            have hf613603 : γ 1 q610655 = f := rSk_1 hk613591 ht612151 (by decide) hf612152
                            have ht613604 : rKd γ q612224 3 := rSk_k hk613591 ht612228 (by decide) (by decide)
                            have hf613605 : γ 1 q612224 = f := rSk_1 hk613591 ht612228 (by decide) hf612237
                            have ht613606 : rKd γ q613490 1 := rSk_k hk613591 ht613493 (by decide) (by decide)
                            have hf613607 : γ 1 q613490 = f := rSk_1 hk613591 ht613493 (by decide) hf613495
                            have he613608 : F613590 q613490 = .inr (20, [.int p613503, .int p613504, .int p613505, .int p613506, .int p613507, .int p613508, .int p613509]) := (rSk_F hk613591 ht613493 (by decide) (by decide)).trans he613502
                            have hm613609 : q613490 ∈ P613589 := RS_m hT613595 ht613606 (by decide)
                            clear bp612226 bp612227 r612235 r612236 rg613570 rm613571 bd613572 rc613573
                            have mk613610 : mKp (F572539 q572540) (F613590 q572540) := mKp_tr x612166 x613588
                            have hph613611 : rPh γ0 el0 f ≤ rPh γ el f := rm_ph hph612149 hr613593
                            have pk613612 : rPh γ el f ≤ 387 * B + 6000 := rm_pk (rM_ge hT613595 ht613600 hf613601).1 (rM_bd hB613594)
                            change G _ _ _ _ _ _ _ (.int o613579 :: _) _ _ _
                            refine G_widen (cs' := ((rPh γ el f - rPh γ0 el0 f) / 18)) (sl' := (rPh γ el f - rPh γ0 el0 f)) (rm_wc hph612149 hr613592) (rm_ws hph612149 hr613593) ?_
                            have sz613613 := x613580
                            have r613614 : 0 < γ 6 (γ 1 q572541) := by rw [hf613601]; omega
                            have hm613615 : q572540 ∈ P613589 := RS_m hT613595 ht613599 (by decide)
                            refine rk10_e (show rk_10 γ (F613590 q572540) from RS_o hT613595 ht613599) (fun q613617 q613618 p613619 p613620 p613621 p613622 p613623 p613624 p613625 p613626 p613627 p613628 p613629 p613630 p613631 p613632 p613633 he613616 hB613660 ht613634 ht613635 ht613636 ht613637 ht613638 ht613639 ht613640 ht613641 ht613642 ht613643 ht613644 ht613645 ht613646 ht613647 ht613648 ht613649 ht613650 ht613651 ht613652 ht613653 ht613654 ht613655 ht613656 ht613657 hB613661 => ?_)
                            have ac613662 : (fI (F613590 q572540) 11).toInt = p613621.toInt := by rw [he613616]; rfl
                            have bp613621 : gB p613621 0 100 := (hB613660.2.2.1)
                            have ac613663 : (fI (F613590 q572540) 14).toInt = p613624.toInt := by rw [he613616]; rfl
                            have bp613624 : gB p613624 0 2000 := (hB613660.2.2.2.1)
                            refine G_istore (L' := [(8, .int o613579), (7, .int (-1)), (6, .int p613505), (5, .ref q613490), (4, .int g612144), (3, .ref q610655), (2, .int g610515), (0, .ref q572540), (1, .ref q572541)]) dr_cX17_spill_203 (Nat.le_of_ble_eq_true rfl) rfl ?_
                            refine G_iload 0 dr_cX17_spill_205 rfl ?_
                            refine G_if_ge 212 dr_cX17_spill_207 (by decide +kernel) (fun hc613664 => ?_) (fun hc613664 => ?_)
                            · have r613665 : 0 ≤ o613579.toInt := gj_leL hc613664 (show Int32.toInt 0 = 0 by decide)
                              have bo613579' : gB o613579 0 1999 := ⟨by omega, by omega⟩
                              have pl613667 := sp_ld (x613586.resolve_left (by omega)) pl613519.1 (tn_ge (by omega)) (rfl : ((g612144.toInt : Int).toNat + 1) = (g612144.toInt : Int).toNat + 1)
                              have hp613668 : rAt γ el q572541 (g610515.toInt : Int).toNat ((g612144.toInt : Int).toNat + 1) = q613490 := ((x613587.resolve_left (by omega)) (g612144.toInt : Int).toNat (Nat.le_refl _)).trans hp613516
                              have r613669 := x613584.resolve_left (by omega)
                              clear x613584 x613586 x613587
                              obtain ⟨z613670, hz613670⟩ : ∃ z : Int32, z = g612144 + Int32.ofInt 1 := ⟨_, rfl⟩
                              have ez613670 : z613670.toInt = g612144.toInt + 1 := gI_inc hz613670 (by decide) bg612144'' (by decide) (by decide)
                              have bz613670 : gB z613670 1 1000000 := ⟨by omega, by omega⟩
                              refine G_iinc (L' := [(4, .int z613670), (8, .int o613579), (7, .int (-1)), (6, .int p613505), (5, .ref q613490), (3, .ref q610655), (2, .int g610515), (0, .ref q572540), (1, .ref q572541)]) z613670 4 dr_cX17_spill_212 rfl hz613670.symm (Nat.le_of_ble_eq_true rfl) rfl ?_
                              refine G_aload 4 dr_cX17_spill_215 rfl ?_
                              refine G_iload 1 dr_cX17_spill_217 rfl ?_
                              refine Gp_put 2 hm613609 he613608 dr_cX17_spill_219 (gk_X15 D I) (Nat.le_of_ble_eq_true rfl) wr_9_186 rfl rfl rfl (Nat.le_of_ble_eq_true rfl) (fun F613671 e613672 n613673 => ?_)
                              have he613674 : F613671 q572540 = .inr (22, [.ref (γ 9 0), .ref (γ 9 1), .ref (γ 9 2), .ref (γ 9 3), .ref (γ 9 4), .ref (γ 9 5), .ref (γ 9 6), .ref (γ 9 7), .ref (γ 9 8), .int p613619, .int p613620, .int p613621, .int p613622, .int p613623, .int p613624, .ref (γ 9 15), .ref (γ 9 16), .ref (γ 9 17), .ref (γ 9 18), .ref (γ 9 19), .ref (γ 9 20), .ref (γ 9 21), .ref (γ 9 22), .int p613625, .int p613626, .int p613627, .int p613628, .int p613629, .ref q613617, .ref (γ 9 29), .int p613630, .ref (γ 9 31), .int p613631, .int p613632, .int p613633, .ref q613618]) := (n613673 q572540 (rn_oo he613616 he613608 (by decide))).trans he613616
                              have he613675 : F613671 q613490 = .inr (20, [.int p613503, .int p613504, .int o613579, .int p613506, .int p613507, .int p613508, .int p613509]) := e613672
                              have mk613676 : mKp (F572539 q572540) (F613671 q572540) := mKp_tr mk613610 (mKp_eq (n613673 q572540 (rn_ty ht613599 ht613606 (by decide))))
                              have kp613677 : F613671 (γ0 9 3) = F572539 (γ0 9 3) := (n613673 (γ0 9 3) (rn_ty (rSk_k hs613596 k0_3 (by decide) (by decide)) ht613606 (by decide))).trans kp613597
                              have kp613678 : F613671 (γ0 9 19) = F607276 (γ0 9 19) := (n613673 (γ0 9 19) (rn_ty (rSk_k hs613596 k0_19 (by decide) (by decide)) ht613606 (by decide))).trans kp613598
                              refine G_iload 2 dr_cX17_spill_222 rfl ?_
                              refine G_iload 3 dr_cX17_spill_224 rfl ?_
                              refine G_icmp_ne 236 dr_cX17_spill_226 (by decide +kernel) (fun _ => ?_) (fun hc => absurd (show False by have := gj_eqL hc (show Int32.toInt (-1) = (-1) by decide); omega) not_false)
                              have hT613679 : RS D I P613589 F613671 γ el := RS_set hT613595 n613673 ht613606 (by decide) ⟨p613503, p613504, o613579, p613506, p613507, p613508, p613509, he613675, bp613503, bp613504, bp613507, bp613508, bp613509, r613510, (Or.inr bo613579'), r613512, (by have z := r613513; omega), r613514⟩
                              have hs613681 := rSk_put hs613596 hT613679 n613673 ht613606 (by decide) (by decide)
                              have hm613683 : q610655 ∈ P613589 := RS_m hT613679 ht613602 (by decide)
                              obtain ⟨q613685, q613686, p613687, p613688, he613684, ht613695, ht613689, ht613690, ht613691, ht613692, ht613693, bp613687, bp613688, r613694, r613696, r613697⟩ := show rk_2 γ q610655 (F613671 q610655) from RS_o hT613679 ht613602
                              have hf613698 : γ 1 q613685 = f := (show γ 1 q613685 = γ 1 q610655 from ht613690).trans hf613603
                              have hf613699 : γ 1 q613686 = f := (show γ 1 q613686 = γ 1 q610655 from ht613692).trans hf613603
                              have r613700 : γ 6 (γ 1 q610655) = γ 6 f := by rw [hf613603]
                              have r613701 : γ 7 (γ 1 q610655) = γ 7 f := by rw [hf613603]
                              have r613702 : γ 19 (γ 1 q610655) = γ 19 f := by rw [hf613603]
                              have r613703 := r613694.resolve_left (by omega)
                              clear r613694
                              have r613704 : γ 2 (γ 14 q610655) = γ 2 q613685 := by rw [ht613695.1]
                              have pl613682 := sp_put hT613595 ht613600 hf613601 pl613667 n613673 hp613668 (show (g610515.toInt : Int).toNat < γ 6 f from tn_lt (by omega) (by omega)) (by unfold rwL; rw [x613583.2.2]; exact tn_le1 (by omega) (by omega))
                              have ac613705 : (fI (F613671 q572540) 11).toInt = p613621.toInt := by rw [he613674]; rfl
                              have ac613706 : (fI (F613671 q572540) 14).toInt = p613624.toInt := by rw [he613674]; rfl
                              refine G_lv (L' := [(0, .ref q572540), (1, .ref q572541), (2, .int g610515), (3, .ref q610655), (4, .int z613670), (5, .ref q613490), (6, .int p613505), (7, .int (-1))]) [7, 8, 6, 5, 0, 4, 3, 2] rfl ?_
                              exact jn236_612803 P613589 F613671 γ el z613670 q613490 p613505 (-1) (gB_w bz613670 (by decide) (by decide)) (gB_w rb613545 (by decide) (by decide)) (gB_w (gBl (show Int32.toInt (-1) = (-1) by decide)) (by decide) (by decide)) hT613679 hs613681 hph613611 hB613594 ht613602 hf613603 x613583.2.1 x613583.2.2 ht613606 hf613607 (by have qa0 : Int32.toInt (-1) = (-1) := (by decide); omega) (by have qa0 : Int32.toInt (-1) = (-1) := (by decide); omega) (by have qa0 : Int32.toInt (-1) = (-1) := (by decide); omega) (by have qa0 : Int32.toInt (-1) = (-1) := (by decide); omega) (by have qa0 : Int32.toInt (-1) = (-1) := (by decide); omega) (by have qa0 : Int32.toInt (-1) = (-1) := (by decide); omega) kp613678 (by rw [(show (z613670.toInt : Int).toNat = ((g612144.toInt : Int).toNat + 1) from tn_eq1 (by omega) (by omega))]; exact pl613682) (by rw [(show (z613670.toInt : Int).toNat = ((g612144.toInt : Int).toNat + 1) from tn_eq1 (by omega) (by omega))]; exact hp613668) (rS1_of he613502 he613675 pl613519.2 (fun _ _ _ _ => Or.inl (by omega)) (fun h1 h2 h3 => (uB_0 x613552 (by omega) h1 h2 h3).elim)) (by have qa0 : Int32.toInt (-1) = (-1) := (by decide); omega) (by have qa0 : Int32.toInt (-1) = (-1) := (by decide); omega) (ms_j hm90_612166 (by omega) (by omega) (by omega)) (eO_l (by omega)) kp613677 mk613676
                            · have r613707 : o613579.toInt < 0 := gj_nleL hc613664 (show Int32.toInt 0 = 0 by decide)
                              have bo613579' : gB o613579 (-1) (-1) := ⟨by omega, by omega⟩
                              refine G_iconst 0 dr_cX17_spill_210 (by decide +kernel) ?_
                              exact G_zretA FieldType.boolean dr_cX17_spill_211 rfl rfl (rm_zc pk613612) (rm_zs pk613612) ⟨P613589, F613590, γ, el, 0, rfl, rfl, hs613596, (rm_pp hph613611), hB613594, (gB_w (gBl (show Int32.toInt 0 = 0 by decide)) (by decide) (by decide)), (by have qa0 : Int32.toInt (-1) = (-1) := (by decide); have qa1 : Int32.toInt 0 = 0 := (by decide); omega), (Or.inl (by decide)), kp613597, mk613610⟩
                        · have r613708 : o613551.toInt ≠ 0 := gj_neq hc613553 (show Int32.toInt 0 = 0 by decide)
                          have bo613551' : gB o613551 1 1 := gB_t1 bo613551 r613708
                          refine G_aload 1 dr_cX17_spill_162 rfl ?_
                          refine Gp_get 3 hm613501 he613502 dr_cX17_spill_164 (gk_X15 D I) (Nat.le_of_ble_eq_true rfl) wr_9_190 rfl ?_
                          have rb613709 : gB p613506 0 1999 := r613512.resolve_left (by have z := (uB_1 x613552 (by omega)).2.2; omega)
                          refine G_goto 171 dr_cX17_spill_167 (by decide +kernel) ?_
                          refine G_istore (L' := [(7, .int p613506), (6, .int p613505), (5, .ref q613490), (4, .int g612144), (3, .ref q610655), (2, .int g610515), (0, .ref q572540), (1, .ref q572541)]) dr_cX17_spill_171 (Nat.le_of_ble_eq_true rfl) rfl ?_
                          refine G_iload 1 dr_cX17_spill_173 rfl ?_
                          refine G_if_lt 236 dr_cX17_spill_175 (by decide +kernel) (fun hc => absurd (show False by have := gj_lt hc (show Int32.toInt 0 = 0 by decide); omega) not_false) (fun _ => ?_)
                          refine G_aload_n 6 dr_cX17_spill_178 rfl ?_
                          refine Gp_get 19 hm612173 he612174 dr_cX17_spill_179 (gk_X17 D I) (Nat.le_of_ble_eq_true rfl) wr_7_93 rfl ?_
                          refine G_iload 1 dr_cX17_spill_182 rfl ?_
                          have hm613710 : (γ 9 19) ∈ P612145 := RS_m hT612147 ht612207 (by decide)
                          obtain ⟨f613712, he613711, bf613712⟩ := show rk_21 I (F612146 (γ 9 19)) from RS_o hT612147 ht612207
                          refine Gp_iald 0 hm613710 he613711 dr_cX17_spill_184 rfl (gB_in rb613545 (by decide) (by decide)) (G_nam fun z613713 hz613713 => ?_)
                          have bz613713 : gB z613713 (-1) 1999 := by rw [hz613713]; exact bf613712 _
                          have c9_613714 : cB (F607276 (γ0 9 19)) = f613712 := by rw [← x612161, ← congrFun (rSk_9 hs612148) 19]; exact cB_of he613711
                          have hs613715 : (cB (F607276 (γ0 9 19)) p613505.toInt.toNat).toInt = z613713.toInt := by rw [c9_613714, hz613713]; rfl
                          refine G_if_lt 236 dr_cX17_spill_185 (by decide +kernel) (fun hc613717 => ?_) (fun hc613717 => ?_)
                          · have r613718 : z613713.toInt < 0 := gj_lt hc613717 (show Int32.toInt 0 = 0 by decide)
                            have bz613713' : gB z613713 (-1) (-1) := ⟨by omega, by omega⟩
                            have ac613719 : (fI (F612146 q572540) 11).toInt = p612179.toInt := by rw [he612174]; rfl
                            have ac613720 : (fI (F612146 q572540) 14).toInt = p612182.toInt := by rw [he612174]; rfl
                            refine G_lv (L' := [(0, .ref q572540), (1, .ref q572541), (2, .int g610515), (3, .ref q610655), (4, .int g612144), (5, .ref q613490), (6, .int p613505), (7, .int p613506)]) [6, 7, 5, 4, 3, 2, 1, 0] rfl ?_
                            exact jn236_612803 P612145 F612146 γ el g612144 q613490 p613505 p613506 (gB_w bg612144'' (by decide) (by decide)) (gB_w rb613545 (by decide) (by decide)) (gB_w rb613709 (by decide) (by decide)) hT612147 hs612148 hph612149 hB612150 ht612151 hf612152 r612153 r612154 ht613493 hf613495 (by omega) (by omega) (by omega) (by omega) (by omega) (by omega) x612161 (by exact pl613519.1) (by exact hp613516) (rS1_of he613502 he613502 pl613519.2 (fun _ _ _ _ => Or.inr ⟨rfl, by omega⟩) (fun _ _ _ => Or.inr ⟨rfl, rfl, by omega, (Classical.em (p613506.toInt = p613505.toInt)).elim (fun e => Or.inr (by rw [e]; omega)) (fun e => Or.inl e)⟩)) (by omega) (by omega) (ms_j hm90_612166 (by omega) (by omega) (by omega)) (eO_l (by omega)) x612165 x612166
                          · have r613721 : 0 ≤ z613713.toInt := gj_nlt hc613717 (show Int32.toInt 0 = 0 by decide)
                            have bz613713' : gB z613713 0 1999 := ⟨by omega, by omega⟩
                            refine G_aload_n 6 dr_cX17_spill_188 rfl ?_
                            refine G_aload_n 7 dr_cX17_spill_189 rfl ?_
                            refine G_aload_n 4 dr_cX17_spill_190 rfl ?_
                            refine G_iload 3 dr_cX17_spill_191 rfl ?_
                            refine G_aload_n 6 dr_cX17_spill_193 rfl ?_
                            refine Gp_get 19 hm612173 he612174 dr_cX17_spill_194 (gk_X17 D I) (Nat.le_of_ble_eq_true rfl) wr_7_93 rfl ?_
                            refine G_iload 1 dr_cX17_spill_197 rfl ?_
                            refine Gp_iald 0 hm613710 he613711 dr_cX17_spill_199 rfl (gB_in rb613545 (by decide) (by decide)) (G_eqi (y := z613713) hz613713.symm ?_)
                            have r613722 := (spi607361.2.2.2 p613505.toInt.toNat (tn_lt (by omega) (by omega)) (by omega)).2.2
                            have ac613723 : (fI (F612146 q572540) 11).toInt = p612179.toInt := by rw [he612174]; rfl
                            have ac613724 : (fI (F612146 q572540) 14).toInt = p612182.toInt := by rw [he612174]; rfl
                            have rg613725 := rM_ge hT612147 ht612169 hf612170
                            have rm613726 := rM_bd hB612150
                            have bd613727 := rBd_c hT612147 ht612169 hf612170 hB612150
                            have rc613728 := rc_at hT612147 ht612169 hf612170
                            refine Gw_callV (As := [.ref q572541, .ref q610655, .int g612144, .int z613713]) (gV_ok D I) (cg_398209_SpillForgeModel_load l hl0 D I γ el f B P612145 F612146 q572540 q572541 q610655 g612144 z613713 g610515.toInt.toNat hT612147 ht612168 ht612169 ht612151 hf612170 hB612150 hBk r612153 r612154 hf612152 (gB_w bg612144'' (by decide) (by decide)) bz613713' (by omega) (by omega) (by omega) (by omega) (by omega)) dr_cX17_spill_200 ⟨wr_11_67, wr_1_14, wr_11_70, by decide, rfl, (Nat.le_of_ble_eq_true rfl), (Nat.le_of_ble_eq_true rfl)⟩ wr_11_69 wr_p_111 hm612173 he612174 rfl (rm_gc hph612149 pk612171) (rm_gs hph612149 pk612171) (Nat.le_of_ble_eq_true rfl) (fun r613732 w613733 dc613729 ds613730 hp613731 => ?_) (fun _ _ _ _ _ z => z.elim)
                            obtain ⟨P613744, F613745, γ, el, o613734, rfl, rfl, hk613746, ⟨hr613747, hr613748⟩, hB613749, bo613734, x613735, x613736, x613737, x613738, x613739, x613740, x613741, x613742, x613743⟩ := hp613731
                            have hT613750 := hk613746.1
                            have hs613751 := rSk_tr hs612148 hk613746 (by decide) (by decide) (by decide)
                            have kp613752 : F613745 (γ0 9 3) = F572539 (γ0 9 3) := (rSk_F hk613746 (rSk_k hs612148 k0_3 (by decide) (by decide)) (by decide) (by decide)).trans x612165
                            have kp613753 : F613745 (γ0 9 19) = F607276 (γ0 9 19) := (rSk_F hk613746 (rSk_k hs612148 k0_19 (by decide) (by decide)) (by decide) (by decide)).trans x612161
                            have ht613754 : rKd γ q572540 10 := rSk_k hk613746 ht612168 (by decide) (by decide)
                            have ht613755 : rKd γ q572541 9 := rSk_k hk613746 ht612169 (by decide) (by decide)
                            have hf613756 : γ 1 q572541 = f := rSk_1 hk613746 ht612169 (by decide) hf612170
                            have ht613757 : rKd γ q610655 2 := rSk_k hk613746 ht612151 (by decide) (by decide)
                            have hf613758 : γ 1 q610655 = f := rSk_1 hk613746 ht612151 (by decide) hf612152
                            have ht613759 : rKd γ q612224 3 := rSk_k hk613746 ht612228 (by decide) (by decide)
                            have hf613760 : γ 1 q612224 = f := rSk_1 hk613746 ht612228 (by decide) hf612237
                            have ht613761 : rKd γ q613490 1 := rSk_k hk613746 ht613493 (by decide) (by decide)
                            have hf613762 : γ 1 q613490 = f := rSk_1 hk613746 ht613493 (by decide) hf613495
                            have he613763 : F613745 q613490 = .inr (20, [.int p613503, .int p613504, .int p613505, .int p613506, .int p613507, .int p613508, .int p613509]) := (rSk_F hk613746 ht613493 (by decide) (by decide)).trans he613502
                            have hm613764 : q613490 ∈ P613744 := RS_m hT613750 ht613761 (by decide)
                            clear bp612226 bp612227 r612235 r612236 rg613725 rm613726 bd613727 rc613728
                            have mk613765 : mKp (F572539 q572540) (F613745 q572540) := mKp_tr x612166 x613743
                            have hph613766 : rPh γ0 el0 f ≤ rPh γ el f := rm_ph hph612149 hr613748
                            have pk613767 : rPh γ el f ≤ 387 * B + 6000 := rm_pk (rM_ge hT613750 ht613755 hf613756).1 (rM_bd hB613749)
                            change G _ _ _ _ _ _ _ (.int o613734 :: _) _ _ _
                            refine G_widen (cs' := ((rPh γ el f - rPh γ0 el0 f) / 18)) (sl' := (rPh γ el f - rPh γ0 el0 f)) (rm_wc hph612149 hr613747) (rm_ws hph612149 hr613748) ?_
                            have sz613768 := x613735
                            have r613769 : 0 < γ 6 (γ 1 q572541) := by rw [hf613756]; omega
                            have hm613770 : q572540 ∈ P613744 := RS_m hT613750 ht613754 (by decide)
                            refine rk10_e (show rk_10 γ (F613745 q572540) from RS_o hT613750 ht613754) (fun q613772 q613773 p613774 p613775 p613776 p613777 p613778 p613779 p613780 p613781 p613782 p613783 p613784 p613785 p613786 p613787 p613788 he613771 hB613815 ht613789 ht613790 ht613791 ht613792 ht613793 ht613794 ht613795 ht613796 ht613797 ht613798 ht613799 ht613800 ht613801 ht613802 ht613803 ht613804 ht613805 ht613806 ht613807 ht613808 ht613809 ht613810 ht613811 ht613812 hB613816 => ?_)
                            have ac613817 : (fI (F613745 q572540) 11).toInt = p613776.toInt := by rw [he613771]; rfl
                            have bp613776 : gB p613776 0 100 := (hB613815.2.2.1)
                            have ac613818 : (fI (F613745 q572540) 14).toInt = p613779.toInt := by rw [he613771]; rfl
                            have bp613779 : gB p613779 0 2000 := (hB613815.2.2.2.1)
                            refine G_istore (L' := [(8, .int o613734), (7, .int p613506), (6, .int p613505), (5, .ref q613490), (4, .int g612144), (3, .ref q610655), (2, .int g610515), (0, .ref q572540), (1, .ref q572541)]) dr_cX17_spill_203 (Nat.le_of_ble_eq_true rfl) rfl ?_
                            refine G_iload 0 dr_cX17_spill_205 rfl ?_
                            refine G_if_ge 212 dr_cX17_spill_207 (by decide +kernel) (fun hc613819 => ?_) (fun hc613819 => ?_)
                            · have r613820 : 0 ≤ o613734.toInt := gj_leL hc613819 (show Int32.toInt 0 = 0 by decide)
                              have bo613734' : gB o613734 0 1999 := ⟨by omega, by omega⟩
                              have pl613822 := sp_ld (x613741.resolve_left (by omega)) pl613519.1 (tn_ge (by omega)) (rfl : ((g612144.toInt : Int).toNat + 1) = (g612144.toInt : Int).toNat + 1)
                              have hp613823 : rAt γ el q572541 (g610515.toInt : Int).toNat ((g612144.toInt : Int).toNat + 1) = q613490 := ((x613742.resolve_left (by omega)) (g612144.toInt : Int).toNat (Nat.le_refl _)).trans hp613516
                              have r613824 := x613739.resolve_left (by omega)
                              clear x613739 x613741 x613742
                              obtain ⟨z613825, hz613825⟩ : ∃ z : Int32, z = g612144 + Int32.ofInt 1 := ⟨_, rfl⟩
                              have ez613825 : z613825.toInt = g612144.toInt + 1 := gI_inc hz613825 (by decide) bg612144'' (by decide) (by decide)
                              have bz613825 : gB z613825 1 1000000 := ⟨by omega, by omega⟩
                              refine G_iinc (L' := [(4, .int z613825), (8, .int o613734), (7, .int p613506), (6, .int p613505), (5, .ref q613490), (3, .ref q610655), (2, .int g610515), (0, .ref q572540), (1, .ref q572541)]) z613825 4 dr_cX17_spill_212 rfl hz613825.symm (Nat.le_of_ble_eq_true rfl) rfl ?_
                              refine G_aload 4 dr_cX17_spill_215 rfl ?_
                              refine G_iload 1 dr_cX17_spill_217 rfl ?_
                              refine Gp_put 2 hm613764 he613763 dr_cX17_spill_219 (gk_X15 D I) (Nat.le_of_ble_eq_true rfl) wr_9_186 rfl rfl rfl (Nat.le_of_ble_eq_true rfl) (fun F613826 e613827 n613828 => ?_)
                              have he613829 : F613826 q572540 = .inr (22, [.ref (γ 9 0), .ref (γ 9 1), .ref (γ 9 2), .ref (γ 9 3), .ref (γ 9 4), .ref (γ 9 5), .ref (γ 9 6), .ref (γ 9 7), .ref (γ 9 8), .int p613774, .int p613775, .int p613776, .int p613777, .int p613778, .int p613779, .ref (γ 9 15), .ref (γ 9 16), .ref (γ 9 17), .ref (γ 9 18), .ref (γ 9 19), .ref (γ 9 20), .ref (γ 9 21), .ref (γ 9 22), .int p613780, .int p613781, .int p613782, .int p613783, .int p613784, .ref q613772, .ref (γ 9 29), .int p613785, .ref (γ 9 31), .int p613786, .int p613787, .int p613788, .ref q613773]) := (n613828 q572540 (rn_oo he613771 he613763 (by decide))).trans he613771
                              have he613830 : F613826 q613490 = .inr (20, [.int p613503, .int p613504, .int o613734, .int p613506, .int p613507, .int p613508, .int p613509]) := e613827
                              have mk613831 : mKp (F572539 q572540) (F613826 q572540) := mKp_tr mk613765 (mKp_eq (n613828 q572540 (rn_ty ht613754 ht613761 (by decide))))
                              have kp613832 : F613826 (γ0 9 3) = F572539 (γ0 9 3) := (n613828 (γ0 9 3) (rn_ty (rSk_k hs613751 k0_3 (by decide) (by decide)) ht613761 (by decide))).trans kp613752
                              have kp613833 : F613826 (γ0 9 19) = F607276 (γ0 9 19) := (n613828 (γ0 9 19) (rn_ty (rSk_k hs613751 k0_19 (by decide) (by decide)) ht613761 (by decide))).trans kp613753
                              refine G_iload 2 dr_cX17_spill_222 rfl ?_
                              refine G_iload 3 dr_cX17_spill_224 rfl ?_
                              refine G_icmp_ne 236 dr_cX17_spill_226 (by decide +kernel) (fun hc613834 => ?_) (fun hc613834 => ?_)
                              · have r613835 : p613506.toInt ≠ p613505.toInt := gC_ne hc613834
                                have hT613836 : RS D I P613744 F613826 γ el := RS_set hT613750 n613828 ht613761 (by decide) ⟨p613503, p613504, o613734, p613506, p613507, p613508, p613509, he613830, bp613503, bp613504, bp613507, bp613508, bp613509, r613510, (Or.inr bo613734'), r613512, (by have z := r613513; omega), r613514⟩
                                have hs613838 := rSk_put hs613751 hT613836 n613828 ht613761 (by decide) (by decide)
                                have hm613840 : q610655 ∈ P613744 := RS_m hT613836 ht613757 (by decide)
                                obtain ⟨q613842, q613843, p613844, p613845, he613841, ht613852, ht613846, ht613847, ht613848, ht613849, ht613850, bp613844, bp613845, r613851, r613853, r613854⟩ := show rk_2 γ q610655 (F613826 q610655) from RS_o hT613836 ht613757
                                have hf613855 : γ 1 q613842 = f := (show γ 1 q613842 = γ 1 q610655 from ht613847).trans hf613758
                                have hf613856 : γ 1 q613843 = f := (show γ 1 q613843 = γ 1 q610655 from ht613849).trans hf613758
                                have r613857 : γ 6 (γ 1 q610655) = γ 6 f := by rw [hf613758]
                                have r613858 : γ 7 (γ 1 q610655) = γ 7 f := by rw [hf613758]
                                have r613859 : γ 19 (γ 1 q610655) = γ 19 f := by rw [hf613758]
                                have r613860 := r613851.resolve_left (by omega)
                                clear r613851
                                have r613861 : γ 2 (γ 14 q610655) = γ 2 q613842 := by rw [ht613852.1]
                                have pl613839 := sp_put hT613750 ht613755 hf613756 pl613822 n613828 hp613823 (show (g610515.toInt : Int).toNat < γ 6 f from tn_lt (by omega) (by omega)) (by unfold rwL; rw [x613738.2.2]; exact tn_le1 (by omega) (by omega))
                                have ac613862 : (fI (F613826 q572540) 11).toInt = p613776.toInt := by rw [he613829]; rfl
                                have ac613863 : (fI (F613826 q572540) 14).toInt = p613779.toInt := by rw [he613829]; rfl
                                refine G_lv (L' := [(0, .ref q572540), (1, .ref q572541), (2, .int g610515), (3, .ref q610655), (4, .int z613825), (5, .ref q613490), (6, .int p613505), (7, .int p613506)]) [7, 8, 6, 5, 0, 4, 3, 2] rfl ?_
                                exact jn236_612803 P613744 F613826 γ el z613825 q613490 p613505 p613506 (gB_w bz613825 (by decide) (by decide)) (gB_w rb613545 (by decide) (by decide)) (gB_w rb613709 (by decide) (by decide)) hT613836 hs613838 hph613766 hB613749 ht613757 hf613758 x613738.2.1 x613738.2.2 ht613761 hf613762 (by omega) (by omega) (by omega) (by omega) (by omega) (by omega) kp613833 (by rw [(show (z613825.toInt : Int).toNat = ((g612144.toInt : Int).toNat + 1) from tn_eq1 (by omega) (by omega))]; exact pl613839) (by rw [(show (z613825.toInt : Int).toNat = ((g612144.toInt : Int).toNat + 1) from tn_eq1 (by omega) (by omega))]; exact hp613823) (rS1_of he613502 he613830 pl613519.2 (fun _ _ _ _ => Or.inl (by omega)) (fun _ _ _ => Or.inr ⟨rfl, rfl, by omega, Or.inl (by omega)⟩)) (by omega) (by omega) (ms_j hm90_612166 (by omega) (by omega) (by omega)) (eO_l (by omega)) kp613832 mk613831
                              · have r613864 : p613506.toInt = p613505.toInt := gC_eq hc613834
                                refine G_aload 4 dr_cX17_spill_229 rfl ?_
                                refine G_iload 1 dr_cX17_spill_231 rfl ?_
                                refine Gp_put 3 hm613764 he613830 dr_cX17_spill_233 (gk_X15 D I) (Nat.le_of_ble_eq_true rfl) wr_9_190 rfl rfl rfl (Nat.le_of_ble_eq_true rfl) (fun F613865 e613866 n613867 => ?_)
                                have he613868 : F613865 q572540 = .inr (22, [.ref (γ 9 0), .ref (γ 9 1), .ref (γ 9 2), .ref (γ 9 3), .ref (γ 9 4), .ref (γ 9 5), .ref (γ 9 6), .ref (γ 9 7), .ref (γ 9 8), .int p613774, .int p613775, .int p613776, .int p613777, .int p613778, .int p613779, .ref (γ 9 15), .ref (γ 9 16), .ref (γ 9 17), .ref (γ 9 18), .ref (γ 9 19), .ref (γ 9 20), .ref (γ 9 21), .ref (γ 9 22), .int p613780, .int p613781, .int p613782, .int p613783, .int p613784, .ref q613772, .ref (γ 9 29), .int p613785, .ref (γ 9 31), .int p613786, .int p613787, .int p613788, .ref q613773]) := (n613867 q572540 (rn_oo he613829 he613830 (by decide))).trans he613829
                                have he613869 : F613865 q613490 = .inr (20, [.int p613503, .int p613504, .int o613734, .int o613734, .int p613507, .int p613508, .int p613509]) := e613866
                                have mk613870 : mKp (F572539 q572540) (F613865 q572540) := mKp_tr mk613831 (mKp_eq (n613867 q572540 (rn_ty ht613754 ht613761 (by decide))))
                                have n613871 : ∀ b, b ≠ q613490 → F613865 b = F613745 b := fun b hb => (n613867 b hb).trans (n613828 b hb)
                                have kp613872 : F613865 (γ0 9 3) = F572539 (γ0 9 3) := (n613867 (γ0 9 3) (rn_ty (rSk_k hs613751 k0_3 (by decide) (by decide)) ht613761 (by decide))).trans kp613832
                                have kp613873 : F613865 (γ0 9 19) = F607276 (γ0 9 19) := (n613867 (γ0 9 19) (rn_ty (rSk_k hs613751 k0_19 (by decide) (by decide)) ht613761 (by decide))).trans kp613833
                                have hT613874 : RS D I P613744 F613865 γ el := RS_set hT613750 n613871 ht613761 (by decide) ⟨p613503, p613504, o613734, o613734, p613507, p613508, p613509, he613869, bp613503, bp613504, bp613507, bp613508, bp613509, r613510, (Or.inr bo613734'), (Or.inr bo613734'), (by have z := r613513; omega), r613514⟩
                                have hs613876 := rSk_put hs613751 hT613874 n613871 ht613761 (by decide) (by decide)
                                have hm613878 : q610655 ∈ P613744 := RS_m hT613874 ht613757 (by decide)
                                obtain ⟨q613880, q613881, p613882, p613883, he613879, ht613890, ht613884, ht613885, ht613886, ht613887, ht613888, bp613882, bp613883, r613889, r613891, r613892⟩ := show rk_2 γ q610655 (F613865 q610655) from RS_o hT613874 ht613757
                                have hf613893 : γ 1 q613880 = f := (show γ 1 q613880 = γ 1 q610655 from ht613885).trans hf613758
                                have hf613894 : γ 1 q613881 = f := (show γ 1 q613881 = γ 1 q610655 from ht613887).trans hf613758
                                have r613895 : γ 6 (γ 1 q610655) = γ 6 f := by rw [hf613758]
                                have r613896 : γ 7 (γ 1 q610655) = γ 7 f := by rw [hf613758]
                                have r613897 : γ 19 (γ 1 q610655) = γ 19 f := by rw [hf613758]
                                have r613898 := r613889.resolve_left (by omega)
                                clear r613889
                                have r613899 : γ 2 (γ 14 q610655) = γ 2 q613880 := by rw [ht613890.1]
                                have pl613877 := sp_put hT613750 ht613755 hf613756 pl613822 n613871 hp613823 (show (g610515.toInt : Int).toNat < γ 6 f from tn_lt (by omega) (by omega)) (by unfold rwL; rw [x613738.2.2]; exact tn_le1 (by omega) (by omega))
                                have ac613900 : (fI (F613865 q572540) 11).toInt = p613776.toInt := by rw [he613868]; rfl
                                have ac613901 : (fI (F613865 q572540) 14).toInt = p613779.toInt := by rw [he613868]; rfl
                                refine G_lv (L' := [(0, .ref q572540), (1, .ref q572541), (2, .int g610515), (3, .ref q610655), (4, .int z613825), (5, .ref q613490), (6, .int p613505), (7, .int p613506)]) [7, 8, 6, 5, 0, 4, 3, 2] rfl ?_
                                exact jn236_612803 P613744 F613865 γ el z613825 q613490 p613505 p613506 (gB_w bz613825 (by decide) (by decide)) (gB_w rb613545 (by decide) (by decide)) (gB_w rb613709 (by decide) (by decide)) hT613874 hs613876 hph613766 hB613749 ht613757 hf613758 x613738.2.1 x613738.2.2 ht613761 hf613762 (by omega) (by omega) (by omega) (by omega) (by omega) (by omega) kp613873 (by rw [(show (z613825.toInt : Int).toNat = ((g612144.toInt : Int).toNat + 1) from tn_eq1 (by omega) (by omega))]; exact pl613877) (by rw [(show (z613825.toInt : Int).toNat = ((g612144.toInt : Int).toNat + 1) from tn_eq1 (by omega) (by omega))]; exact hp613823) (rS1_of he613502 he613869 pl613519.2 (fun _ _ _ _ => Or.inl (by omega)) (fun _ _ _ => Or.inl (by omega))) (by omega) (by omega) (ms_j hm90_612166 (by omega) (by omega) (by omega)) (eO_l (by omega)) kp613872 mk613870
                            · have r613902 : o613734.toInt < 0 := gj_nleL hc613819 (show Int32.toInt 0 = 0 by decide)
                              have bo613734' : gB o613734 (-1) (-1) := ⟨by omega, by omega⟩
                              refine G_iconst 0 dr_cX17_spill_210 (by decide +kernel) ?_
                              exact G_zretA FieldType.boolean dr_cX17_spill_211 rfl rfl (rm_zc pk613767) (rm_zs pk613767) ⟨P613744, F613745, γ, el, 0, rfl, rfl, hs613751, (rm_pp hph613766), hB613749, (gB_w (gBl (show Int32.toInt 0 = 0 by decide)) (by decide) (by decide)), (by have qa0 : Int32.toInt 0 = 0 := (by decide); omega), (Or.inl (by decide)), kp613752, mk613765⟩
              have ac613903 : (fI (F610517 q572540) 11).toInt = p610544.toInt := by rw [he610539]; rfl
              have ac613904 : (fI (F610517 q572540) 14).toInt = p610547.toInt := by rw [he610539]; rfl
              exact hlp90_612166 ((γ 2 (γ 14 q610655) + 1 - (0 : Int).toNat) + 1) P610516 F610517 γ el 0 (gB_w (gBl (show Int32.toInt 0 = 0 by decide)) (by decide) (by decide)) hT610518 hs610519 hph610520 hB610521 ht610660 hf610682 r610690 r610691 (by have qa0 : Int32.toInt 0 = 0 := (by decide); omega) (by have qa0 : Int32.toInt 0 = 0 := (by decide); omega) (by have qa0 : Int32.toInt 0 = 0 := (by decide); omega) (by have qa0 : Int32.toInt 0 = 0 := (by decide); omega) (by have qa0 : Int32.toInt 0 = 0 := (by decide); omega) (by have qa0 : Int32.toInt 0 = 0 := (by decide); omega) x610528 (by have qa : Int32.toInt 0 = 0 := (by decide); rw [qa]; exact x610529) (by have qa0 : Int32.toInt 0 = 0 := (by decide); omega) (by have qa0 : Int32.toInt 0 = 0 := (by decide); omega) x610530 x610531 (Nat.lt_succ_self _)
        have ac613905 : (fI (F607276 q572540) 11).toInt = p607382.toInt := by rw [he607377]; rfl
        have ac613906 : (fI (F607276 q572540) 14).toInt = p607385.toInt := by rw [he607377]; rfl
        exact hlp73_610531 (((1000001 : Int) - 0).toNat + 1) P607275 F607276 γ el 0 (gB_w (gBl (show Int32.toInt 0 = 0 by decide)) (by decide) (by decide)) hT607367 hs607368 hph607426 hB607425 (by have qa0 : Int32.toInt 0 = 0 := (by decide); omega) (by have qa0 : Int32.toInt 0 = 0 := (by decide); omega) (by have qa0 : Int32.toInt 0 = 0 := (by decide); omega) (by have qa0 : Int32.toInt 0 = 0 := (by decide); omega) (by have qa0 : Int32.toInt 0 = 0 := (by decide); omega) (by have qa0 : Int32.toInt 0 = 0 := (by decide); omega) kp607370 (by have qa : Int32.toInt 0 = 0 := (by decide); rw [qa]; exact pl607429) kp607369 mk607375 (Nat.lt_succ_self _)
      · have r613907 : g607274.toInt < 2000 := gj_nleL hc607357 (show Int32.toInt 2000 = 2000 by decide)
        have bg607274' : gB g607274 0 1999 := ⟨by omega, by omega⟩
        refine G_aload_n 1 dr_cX17_spill_9 rfl ?_
        refine Gp_get 19 hm607295 he607296 dr_cX17_spill_10 (gk_X17 D I) (Nat.le_of_ble_eq_true rfl) wr_7_93 rfl ?_
        refine G_iload_n 0 dr_cX17_spill_13 rfl ?_
        refine G_iconst (-1) dr_cX17_spill_14 (by decide +kernel) ?_
        refine Gp_iast 0 hm607349 he607350 dr_cX17_spill_15 rfl (gB_in bg607274' (by decide) (by decide)) (fun F613908 e613909 n613910 => ?_)
        obtain ⟨f613911, hf613911⟩ : ∃ z, z = upd f607351 g607274.toNatClampNeg (-1) := ⟨_, rfl⟩
        rw [← hf613911] at e613909
        have he613912 : F613908 q572540 = .inr (22, [.ref (γ 9 0), .ref (γ 9 1), .ref (γ 9 2), .ref (γ 9 3), .ref (γ 9 4), .ref (γ 9 5), .ref (γ 9 6), .ref (γ 9 7), .ref (γ 9 8), .int p607299, .int p607300, .int p607301, .int p607302, .int p607303, .int p607304, .ref (γ 9 15), .ref (γ 9 16), .ref (γ 9 17), .ref (γ 9 18), .ref (γ 9 19), .ref (γ 9 20), .ref (γ 9 21), .ref (γ 9 22), .int p607305, .int p607306, .int p607307, .int p607308, .int p607309, .ref q607297, .ref (γ 9 29), .int p607310, .ref (γ 9 31), .int p607311, .int p607312, .int p607313, .ref q607298]) := (n613910 q572540 (rn_oa he607296 he607350)).trans he607296
        have he613913 : F613908 (γ 9 3) = .inl (I .boolean, 2000, .inl f607347) := (n613910 (γ 9 3) (rn_ty ht607319 ht607329 (by decide))).trans he607346
        have he613914 : F613908 (γ 9 17) = .inl (I .int, 2000, .inl f607355) := (n613910 (γ 9 17) (rn_ty ht607327 ht607329 (by decide))).trans he607354
        have he613915 : F613908 (γ 9 19) = .inl (I .int, 2000, .inl f613911) := e613909
        have mk613916 : mKp (F572539 q572540) (F613908 q572540) := mKp_tr x607289 (mKp_eq (n613910 q572540 (rn_ty ht607291 ht607329 (by decide))))
        have kp613917 : F613908 (γ0 9 3) = F572539 (γ0 9 3) := (n613910 (γ0 9 3) (rn_ty (rSk_k hs607278 k0_3 (by decide) (by decide)) ht607329 (by decide))).trans x607288
        have bf613911 : gF f613911 (-1) 1999 := gF_upd hf613911 bf607351 (gB_w (gBl (show Int32.toInt (-1) = (-1) by decide)) (by decide) (by decide))
        have hT613918 : RS D I P607275 F613908 γ el := RS_set hT607277 n613910 ht607329 (by decide) ⟨f613911, he613915, bf613911⟩
        have hs613920 := rSk_put hs607278 hT613918 n613910 ht607329 (by decide) (by decide)
        have pl613921 := rPl_fr hT607277 ht607292 hf607293 x607287 (fun b hb _ => n613910 b (rn_ty (show rKd γ b 1 from hb) ht607329 (by decide)))
        refine G_aload_n 1 dr_cX17_spill_16 rfl ?_
        refine Gp_get 3 hm607295 he613912 dr_cX17_spill_17 (gk_X17 D I) (Nat.le_of_ble_eq_true rfl) wr_7_77 rfl ?_
        refine G_iload_n 0 dr_cX17_spill_20 rfl ?_
        refine Gp_zald 3 hm607345 he613913 dr_cX17_spill_21 rfl (gB_in bg607274' (by decide) (by decide)) (G_nam fun z613922 hz613922 => ?_)
        have bz613922 : gB z613922 0 1 := by rw [hz613922]; exact bf607347 _
        refine G_if_eq 65 dr_cX17_spill_22 (by decide +kernel) (fun hc613923 => ?_) (fun hc613923 => ?_)
        · have r613924 : z613922.toInt = 0 := gj_eq hc613923 (show Int32.toInt 0 = 0 by decide)
          have bz613922' : gB z613922 0 0 := gB_t0 r613924
          obtain ⟨z613925, hz613925⟩ : ∃ z : Int32, z = g607274 + Int32.ofInt 1 := ⟨_, rfl⟩
          have ez613925 : z613925.toInt = g607274.toInt + 1 := gI_inc hz613925 (by decide) bg607274' (by decide) (by decide)
          have bz613925 : gB z613925 1 2000 := ⟨by omega, by omega⟩
          refine G_iinc (L' := [(2, .int z613925), (0, .ref q572540), (1, .ref q572541)]) z613925 0 dr_cX17_spill_65 rfl hz613925.symm (Nat.le_of_ble_eq_true rfl) rfl ?_
          refine G_goto 2 dr_cX17_spill_68 (by decide +kernel) ?_
          have ac613926 : (fI (F613908 q572540) 11).toInt = p607301.toInt := by rw [he613912]; rfl
          have ac613927 : (fI (F613908 q572540) 14).toInt = p607304.toInt := by rw [he613912]; rfl
          have c9_613928 : cB (F572539 (γ0 9 3)) = f607347 := by rw [← kp613917, ← congrFun (rSk_9 hs613920) 3]; exact cB_of he613913
          have c9_613929 : cB (F613908 (γ0 9 19)) = f613911 := by rw [← congrFun (rSk_9 hs613920) 19]; exact cB_of he613915
          exact ih2_607289 P607275 F613908 γ el z613925 (gB_w bz613925 (by decide) (by decide)) hT613918 hs613920 hph607279 hB607280 (by omega) (by omega) (by omega) (by omega) (by omega) (by rw [c9_613928, c9_613929, ac613926]; exact spI_n (h2 := fun _ => 0) hf613911 (by decide) (by omega) ez613925 cq607356) pl613921 kp613917 mk613916 (by omega)
        · have r613930 : z613922.toInt ≠ 0 := gj_neq hc613923 (show Int32.toInt 0 = 0 by decide)
          have bz613922' : gB z613922 1 1 := gB_t1 bz613922 r613930
          refine G_aload_n 1 dr_cX17_spill_25 rfl ?_
          refine Gp_get 17 hm607295 he613912 dr_cX17_spill_26 (gk_X17 D I) (Nat.le_of_ble_eq_true rfl) wr_7_91 rfl ?_
          refine G_iload_n 0 dr_cX17_spill_29 rfl ?_
          refine Gp_iald 0 hm607353 he613914 dr_cX17_spill_30 rfl (gB_in bg607274' (by decide) (by decide)) (G_nam fun z613931 hz613931 => ?_)
          have bz613931 : gB z613931 (-1) 31 := by rw [hz613931]; exact bf607355 _
          refine G_if_lt 37 dr_cX17_spill_31 (by decide +kernel) (fun hc613932 => ?_) (fun hc613932 => ?_)
          · have r613933 : z613931.toInt < 0 := gj_lt hc613932 (show Int32.toInt 0 = 0 by decide)
            have bz613931' : gB z613931 (-1) (-1) := ⟨by omega, by omega⟩
            refine G_iload_n 0 dr_cX17_spill_37 rfl ?_
            refine G_bipush 100 dr_cX17_spill_38 (by decide +kernel) ?_
            refine G_icmp_lt 45 dr_cX17_spill_40 (by decide +kernel) (fun hc613934 => ?_) (fun hc613934 => ?_)
            · have r613935 : g607274.toInt < 100 := gj_lt hc613934 (show Int32.toInt 100 = 100 by decide)
              have bg607274'' : gB g607274 0 99 := ⟨by omega, by omega⟩
              refine G_aload_n 1 dr_cX17_spill_45 rfl ?_
              refine Gp_get 19 hm607295 he613912 dr_cX17_spill_46 (gk_X17 D I) (Nat.le_of_ble_eq_true rfl) wr_7_93 rfl ?_
              refine G_iload_n 0 dr_cX17_spill_49 rfl ?_
              refine G_aload_n 1 dr_cX17_spill_50 rfl ?_
              refine Gp_get 11 hm607295 he613912 dr_cX17_spill_51 (gk_X17 D I) (Nat.le_of_ble_eq_true rfl) wr_7_85 rfl ?_
              refine Gp_iast 0 hm607349 he613915 dr_cX17_spill_54 rfl (gB_in bg607274'' (by decide) (by decide)) (fun F613936 e613937 n613938 => ?_)
              obtain ⟨f613939, hf613939⟩ : ∃ z, z = upd f613911 g607274.toNatClampNeg p607301 := ⟨_, rfl⟩
              rw [← hf613939] at e613937
              have he613940 : F613936 q572540 = .inr (22, [.ref (γ 9 0), .ref (γ 9 1), .ref (γ 9 2), .ref (γ 9 3), .ref (γ 9 4), .ref (γ 9 5), .ref (γ 9 6), .ref (γ 9 7), .ref (γ 9 8), .int p607299, .int p607300, .int p607301, .int p607302, .int p607303, .int p607304, .ref (γ 9 15), .ref (γ 9 16), .ref (γ 9 17), .ref (γ 9 18), .ref (γ 9 19), .ref (γ 9 20), .ref (γ 9 21), .ref (γ 9 22), .int p607305, .int p607306, .int p607307, .int p607308, .int p607309, .ref q607297, .ref (γ 9 29), .int p607310, .ref (γ 9 31), .int p607311, .int p607312, .int p607313, .ref q607298]) := (n613938 q572540 (rn_oa he613912 he613915)).trans he613912
              have he613941 : F613936 (γ 9 3) = .inl (I .boolean, 2000, .inl f607347) := (n613938 (γ 9 3) (rn_ty ht607319 ht607329 (by decide))).trans he613913
              have he613942 : F613936 (γ 9 17) = .inl (I .int, 2000, .inl f607355) := (n613938 (γ 9 17) (rn_ty ht607327 ht607329 (by decide))).trans he613914
              have he613943 : F613936 (γ 9 19) = .inl (I .int, 2000, .inl f613939) := e613937
              have mk613944 : mKp (F572539 q572540) (F613936 q572540) := mKp_tr mk613916 (mKp_eq (n613938 q572540 (rn_ty ht607291 ht607329 (by decide))))
              have kp613945 : F613936 (γ0 9 3) = F572539 (γ0 9 3) := (n613938 (γ0 9 3) (rn_ty (rSk_k hs613920 k0_3 (by decide) (by decide)) ht607329 (by decide))).trans kp613917
              have bf613939 : gF f613939 (-1) 1999 := gF_upd hf613939 bf613911 (gB_w bp607301 (by decide) (by decide))
              have hT613946 : RS D I P607275 F613936 γ el := RS_set hT613918 n613938 ht607329 (by decide) ⟨f613939, he613943, bf613939⟩
              have of613947 : ∀ b, b ≠ (γ 9 19) → F613936 b = F607276 b := fun b hb => (n613938 b hb).trans (n613910 b hb)
              have hs613948 := rSk_put hs613920 hT613946 n613938 ht607329 (by decide) (by decide)
              have pl613949 := rPl_fr hT613918 ht607292 hf607293 pl613921 (fun b hb _ => n613938 b (rn_ty (show rKd γ b 1 from hb) ht607329 (by decide)))
              have cq613950 := spI_s (r1 := g607274.toInt + 1) (s1 := p607301.toInt + 1) hf613911 hf613939 rfl (by omega) (by omega) rfl (by omega) (sd_of hz613922 (by omega) (by omega) (by omega)) rfl cq607356
              have r613951 := cq613950.2
              have r613952 := cq607356.1
              have r613953 := x572545
              rw [c9_607348] at r613953
              have bp607301' : gB p607301 0 99 := ⟨by omega, by omega⟩
              refine G_aload_n 1 dr_cX17_spill_55 rfl ?_
              refine G_dup dr_cX17_spill_56 rfl ?_
              refine Gp_get 11 hm607295 he613940 dr_cX17_spill_57 (gk_X17 D I) (Nat.le_of_ble_eq_true rfl) wr_7_85 rfl ?_
              refine G_iconst 1 dr_cX17_spill_60 (by decide +kernel) ?_
              refine G_iadd dr_cX17_spill_61 (G_nam fun z613954 hz613954 => ?_)
              have ez613954 : z613954.toInt = p607301.toInt + 1 := by rw [gI_add hz613954 bp607301' (gBl (show Int32.toInt 1 = 1 by decide)) (by decide) (by decide), show Int32.toInt 1 = 1 from by decide]
              have bz613954 : gB z613954 1 100 := gB_add (gI_add hz613954 bp607301' (gBl (show Int32.toInt 1 = 1 by decide)) (by decide) (by decide)) bp607301' (gBl (show Int32.toInt 1 = 1 by decide)) (by decide) (by decide)
              refine Gp_put 11 hm607295 he613940 dr_cX17_spill_62 (gk_X17 D I) (Nat.le_of_ble_eq_true rfl) wr_7_85 rfl rfl rfl (Nat.le_of_ble_eq_true rfl) (fun F613955 e613956 n613957 => ?_)
              have he613958 : F613955 (γ 9 3) = .inl (I .boolean, 2000, .inl f607347) := (n613957 (γ 9 3) (rn_ao he613941 he613940)).trans he613941
              have he613959 : F613955 (γ 9 19) = .inl (I .int, 2000, .inl f613939) := (n613957 (γ 9 19) (rn_ao he613943 he613940)).trans he613943
              have he613960 : F613955 (γ 9 17) = .inl (I .int, 2000, .inl f607355) := (n613957 (γ 9 17) (rn_ao he613942 he613940)).trans he613942
              have he613961 : F613955 q572540 = .inr (22, [.ref (γ 9 0), .ref (γ 9 1), .ref (γ 9 2), .ref (γ 9 3), .ref (γ 9 4), .ref (γ 9 5), .ref (γ 9 6), .ref (γ 9 7), .ref (γ 9 8), .int p607299, .int p607300, .int z613954, .int p607302, .int p607303, .int p607304, .ref (γ 9 15), .ref (γ 9 16), .ref (γ 9 17), .ref (γ 9 18), .ref (γ 9 19), .ref (γ 9 20), .ref (γ 9 21), .ref (γ 9 22), .int p607305, .int p607306, .int p607307, .int p607308, .int p607309, .ref q607297, .ref (γ 9 29), .int p607310, .ref (γ 9 31), .int p607311, .int p607312, .int p607313, .ref q607298]) := e613956
              have mk613962 : mKp (F572539 q572540) (F613955 q572540) := mKp_tr mk613944 (by rw [he613940, he613961]; exact ⟨rfl, rfl⟩)
              have kp613963 : F613955 (γ0 9 3) = F572539 (γ0 9 3) := (n613957 (γ0 9 3) (rn_ty (rSk_k hs613948 k0_3 (by decide) (by decide)) ht607291 (by decide))).trans kp613945
              have kp613964 : F613955 (γ0 9 19) = F613936 (γ0 9 19) := n613957 (γ0 9 19) (rn_ty (rSk_k hs613948 k0_19 (by decide) (by decide)) ht607291 (by decide))
              have hT613965 : RS D I P607275 F613955 γ el := RS_set hT613946 n613957 ht607291 (by decide) ⟨q607297, q607298, p607299, p607300, z613954, p607302, p607303, p607304, p607305, p607306, p607307, p607308, p607309, p607310, p607311, p607312, p607313, he613961, ⟨(hB607340.1), (hB607340.2.1), (gB_w bz613954 (by decide) (by decide)), bp607304, (hB607340.2.2.2.2.1), (hB607340.2.2.2.2.2.1), (hB607340.2.2.2.2.2.2.1), (hB607340.2.2.2.2.2.2.2.1), (hB607340.2.2.2.2.2.2.2.2)⟩, ht607314, ht607315, ht607316, ht607317, ht607318, ht607319, ht607320, ht607321, ht607322, ht607323, ht607324, ht607325, ht607326, ht607327, ht607328, ht607329, ht607330, ht607331, ht607332, ht607333, ht607334, ht607335, ht607336, ht607337, hB607341⟩
              have hs613967 := rSk_put hs613948 hT613965 n613957 ht607291 (by decide) (by decide)
              have pl613968 := rPl_fr hT613946 ht607292 hf607293 pl613949 (fun b hb _ => n613957 b (rn_ty (show rKd γ b 1 from hb) ht607291 (by decide)))
              obtain ⟨z613969, hz613969⟩ : ∃ z : Int32, z = g607274 + Int32.ofInt 1 := ⟨_, rfl⟩
              have ez613969 : z613969.toInt = g607274.toInt + 1 := gI_inc hz613969 (by decide) bg607274'' (by decide) (by decide)
              have bz613969 : gB z613969 1 100 := ⟨by omega, by omega⟩
              refine G_iinc (L' := [(2, .int z613969), (0, .ref q572540), (1, .ref q572541)]) z613969 0 dr_cX17_spill_65 rfl hz613969.symm (Nat.le_of_ble_eq_true rfl) rfl ?_
              refine G_goto 2 dr_cX17_spill_68 (by decide +kernel) ?_
              have ac613970 : (fI (F613955 q572540) 11).toInt = z613954.toInt := by rw [he613961]; rfl
              have ac613971 : (fI (F613955 q572540) 14).toInt = p607304.toInt := by rw [he613961]; rfl
              have c9_613972 : cB (F572539 (γ0 9 3)) = f607347 := by rw [← kp613963, ← congrFun (rSk_9 hs613967) 3]; exact cB_of he613958
              have c9_613973 : cB (F613955 (γ0 9 19)) = f613939 := by rw [← congrFun (rSk_9 hs613967) 19]; exact cB_of he613959
              exact ih2_607289 P607275 F613955 γ el z613969 (gB_w bz613969 (by decide) (by decide)) hT613965 hs613967 hph607279 hB607280 (by omega) (by omega) (by omega) (by omega) (by omega) (by rw [c9_613972, c9_613973, ac613970, ez613969, ez613954]; exact cq613950.1) pl613968 kp613963 mk613962 (by omega)
            · have r613974 : 100 ≤ g607274.toInt := gj_nlt hc613934 (show Int32.toInt 100 = 100 by decide)
              have bg607274'' : gB g607274 100 1999 := ⟨by omega, by omega⟩
              refine G_iconst 0 dr_cX17_spill_43 (by decide +kernel) ?_
              exact G_zretA FieldType.boolean dr_cX17_spill_44 rfl rfl (rm_zc pk607294) (rm_zs pk607294) ⟨P607275, F613908, γ, el, 0, rfl, rfl, hs613920, (rm_pp hph607279), hB607280, (gB_w (gBl (show Int32.toInt 0 = 0 by decide)) (by decide) (by decide)), (by have qa0 : Int32.toInt 0 = 0 := (by decide); omega), (Or.inl (by decide)), kp613917, mk613916⟩
          · have r613975 : 0 ≤ z613931.toInt := gj_nlt hc613932 (show Int32.toInt 0 = 0 by decide)
            have bz613931' : gB z613931 0 31 := ⟨by omega, by omega⟩
            refine G_goto 65 dr_cX17_spill_34 (by decide +kernel) ?_
            obtain ⟨z613976, hz613976⟩ : ∃ z : Int32, z = g607274 + Int32.ofInt 1 := ⟨_, rfl⟩
            have ez613976 : z613976.toInt = g607274.toInt + 1 := gI_inc hz613976 (by decide) bg607274' (by decide) (by decide)
            have bz613976 : gB z613976 1 2000 := ⟨by omega, by omega⟩
            refine G_iinc (L' := [(2, .int z613976), (0, .ref q572540), (1, .ref q572541)]) z613976 0 dr_cX17_spill_65 rfl hz613976.symm (Nat.le_of_ble_eq_true rfl) rfl ?_
            refine G_goto 2 dr_cX17_spill_68 (by decide +kernel) ?_
            have ac613977 : (fI (F613908 q572540) 11).toInt = p607301.toInt := by rw [he613912]; rfl
            have ac613978 : (fI (F613908 q572540) 14).toInt = p607304.toInt := by rw [he613912]; rfl
            have c9_613979 : cB (F572539 (γ0 9 3)) = f607347 := by rw [← kp613917, ← congrFun (rSk_9 hs613920) 3]; exact cB_of he613913
            have c9_613980 : cB (F613908 (γ0 9 19)) = f613911 := by rw [← congrFun (rSk_9 hs613920) 19]; exact cB_of he613915
            exact ih2_607289 P607275 F613908 γ el z613976 (gB_w bz613976 (by decide) (by decide)) hT613918 hs613920 hph607279 hB607280 (by omega) (by omega) (by omega) (by omega) (by omega) (by rw [c9_613979, c9_613980, ac613977]; exact spI_n (h2 := fun _ => 0) hf613911 (by decide) (by omega) ez613976 cq607356) pl613921 kp613917 mk613916 (by omega)
  exact hlp2_607289 (((2001 : Int) - 0).toNat + 1) P572538 F572539 γ el 0 (gB_w (gBl (show Int32.toInt 0 = 0 by decide)) (by decide) (by decide)) hT hst hph hB (by have qa0 : Int32.toInt 0 = 0 := (by decide); omega) (by have qa0 : Int32.toInt 0 = 0 := (by decide); omega) (by have qa0 : Int32.toInt 0 = 0 := (by decide); omega) (by have qa0 : Int32.toInt 0 = 0 := (by decide); omega) (by have qa0 : Int32.toInt 0 = 0 := (by decide); omega) (by have qa : Int32.toInt 0 = 0 := (by decide); rw [qa]; exact spI_0) (by rw [hγ0, hel0]; exact x572546) rfl mKp_rf (Nat.lt_succ_self _)
