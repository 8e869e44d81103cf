theorem dr_cX17_spill_0 : decode cX17_spill 0 = .ok (.iconst 0, 1) := by decide +kernel
theorem dr_cX17_spill_1 : decode cX17_spill 1 = .ok (.istore_n 2, 1) := by decide +kernel
theorem dr_cX17_spill_2 : decode cX17_spill 2 = .ok (.iload_n 2, 1) := by decide +kernel
theorem dr_cX17_spill_3 : decode cX17_spill 3 = .ok (.sipush 2000, 3) := by decide +kernel
theorem dr_cX17_spill_6 : decode cX17_spill 6 = .ok (.if_icmp .ge 65, 3) := by decide +kernel
theorem dr_cX17_spill_71 : decode cX17_spill 71 = .ok (.iconst 0, 1) := by decide +kernel
theorem dr_cX17_spill_72 : decode cX17_spill 72 = .ok (.istore_n 2, 1) := by decide +kernel
theorem dr_cX17_spill_73 : decode cX17_spill 73 = .ok (.iload_n 2, 1) := by decide +kernel
theorem dr_cX17_spill_74 : decode cX17_spill 74 = .ok (.aload_n 1, 1) := by decide +kernel
theorem dr_cX17_spill_75 : decode cX17_spill 75 = .ok (.invokevirtual 96, 3) := by decide +kernel
theorem dr_cX17_spill_78 : decode cX17_spill 78 = .ok (.if_icmp .ge 353, 3) := by decide +kernel
theorem dr_cX17_spill_431 : decode cX17_spill 431 = .ok (.aload_n 1, 1) := by decide +kernel
theorem dr_cX17_spill_432 : decode cX17_spill 432 = .ok (.invokevirtual 234, 3) := by decide +kernel
theorem dr_cX17_spill_435 : decode cX17_spill 435 = .ok (.sipush 4000, 3) := by decide +kernel
theorem dr_cX17_spill_438 : decode cX17_spill 438 = .ok (.if_icmp .gt 7, 3) := by decide +kernel
theorem dr_cX17_spill_445 : decode cX17_spill 445 = .ok (.iconst 0, 1) := by decide +kernel
theorem dr_cX17_spill_446 : decode cX17_spill 446 = .ok (.ireturn, 1) := by decide +kernel
theorem dr_cX17_spill_441 : decode cX17_spill 441 = .ok (.iconst 1, 1) := by decide +kernel
theorem dr_cX17_spill_442 : decode cX17_spill 442 = .ok (.goto 4, 3) := by decide +kernel
theorem dr_cX17_spill_81 : decode cX17_spill 81 = .ok (.aload_n 1, 1) := by decide +kernel
theorem dr_cX17_spill_82 : decode cX17_spill 82 = .ok (.iload_n 2, 1) := by decide +kernel
theorem dr_cX17_spill_83 : decode cX17_spill 83 = .ok (.invokevirtual 101, 3) := by decide +kernel
theorem dr_cX17_spill_86 : decode cX17_spill 86 = .ok (.astore_n 3, 1) := by decide +kernel
theorem dr_cX17_spill_87 : decode cX17_spill 87 = .ok (.iconst 0, 1) := by decide +kernel
theorem dr_cX17_spill_88 : decode cX17_spill 88 = .ok (.istore 4, 2) := by decide +kernel
theorem dr_cX17_spill_90 : decode cX17_spill 90 = .ok (.iload 4, 2) := by decide +kernel
theorem dr_cX17_spill_92 : decode cX17_spill 92 = .ok (.aload_n 3, 1) := by decide +kernel
theorem dr_cX17_spill_93 : decode cX17_spill 93 = .ok (.getfield 117, 3) := by decide +kernel
theorem dr_cX17_spill_96 : decode cX17_spill 96 = .ok (.invokevirtual 121, 3) := by decide +kernel
theorem dr_cX17_spill_99 : decode cX17_spill 99 = .ok (.if_icmp .gt 326, 3) := by decide +kernel
theorem dr_cX17_spill_425 : decode cX17_spill 425 = .ok (.iinc 2 1, 3) := by decide +kernel
theorem dr_cX17_spill_428 : decode cX17_spill 428 = .ok (.goto (-355), 3) := by decide +kernel
theorem dr_cX17_spill_292 : decode cX17_spill 292 = .ok (.aload 5, 2) := by decide +kernel
theorem dr_cX17_spill_294 : decode cX17_spill 294 = .ok (.invokevirtual 48, 3) := by decide +kernel
theorem dr_cX17_spill_297 : decode cX17_spill 297 = .ok (.ifCond .eq 122, 3) := by decide +kernel
theorem dr_cX17_spill_419 : decode cX17_spill 419 = .ok (.iinc 4 1, 3) := by decide +kernel
theorem dr_cX17_spill_422 : decode cX17_spill 422 = .ok (.goto (-332), 3) := by decide +kernel
theorem dr_cX17_spill_300 : decode cX17_spill 300 = .ok (.aload 5, 2) := by decide +kernel
theorem dr_cX17_spill_302 : decode cX17_spill 302 = .ok (.getfield 39, 3) := by decide +kernel
theorem dr_cX17_spill_305 : decode cX17_spill 305 = .ok (.bipush 21, 2) := by decide +kernel
theorem dr_cX17_spill_307 : decode cX17_spill 307 = .ok (.if_icmp .eq 112, 3) := by decide +kernel
theorem dr_cX17_spill_310 : decode cX17_spill 310 = .ok (.aload_n 0, 1) := by decide +kernel
theorem dr_cX17_spill_311 : decode cX17_spill 311 = .ok (.getfield 221, 3) := by decide +kernel
theorem dr_cX17_spill_314 : decode cX17_spill 314 = .ok (.aload 5, 2) := by decide +kernel
theorem dr_cX17_spill_316 : decode cX17_spill 316 = .ok (.getfield 52, 3) := by decide +kernel
theorem dr_cX17_spill_319 : decode cX17_spill 319 = .ok (.iaload, 1) := by decide +kernel
theorem dr_cX17_spill_320 : decode cX17_spill 320 = .ok (.ifCond .ge 6, 3) := by decide +kernel
theorem dr_cX17_spill_326 : decode cX17_spill 326 = .ok (.aload_n 0, 1) := by decide +kernel
theorem dr_cX17_spill_327 : decode cX17_spill 327 = .ok (.getfield 221, 3) := by decide +kernel
theorem dr_cX17_spill_330 : decode cX17_spill 330 = .ok (.aload 5, 2) := by decide +kernel
theorem dr_cX17_spill_332 : decode cX17_spill 332 = .ok (.getfield 52, 3) := by decide +kernel
theorem dr_cX17_spill_335 : decode cX17_spill 335 = .ok (.iaload, 1) := by decide +kernel
theorem dr_cX17_spill_336 : decode cX17_spill 336 = .ok (.istore 8, 2) := by decide +kernel
theorem dr_cX17_spill_338 : decode cX17_spill 338 = .ok (.aload_n 0, 1) := by decide +kernel
theorem dr_cX17_spill_339 : decode cX17_spill 339 = .ok (.getfield 231, 3) := by decide +kernel
theorem dr_cX17_spill_342 : decode cX17_spill 342 = .ok (.sipush 2000, 3) := by decide +kernel
theorem dr_cX17_spill_345 : decode cX17_spill 345 = .ok (.if_icmp .ne 5, 3) := by decide +kernel
theorem dr_cX17_spill_350 : decode cX17_spill 350 = .ok (.aload 5, 2) := by decide +kernel
theorem dr_cX17_spill_352 : decode cX17_spill 352 = .ok (.aload_n 0, 1) := by decide +kernel
theorem dr_cX17_spill_353 : decode cX17_spill 353 = .ok (.getfield 231, 3) := by decide +kernel
theorem dr_cX17_spill_356 : decode cX17_spill 356 = .ok (.putfield 52, 3) := by decide +kernel
theorem dr_cX17_spill_359 : decode cX17_spill 359 = .ok (.aload_n 0, 1) := by decide +kernel
theorem dr_cX17_spill_360 : decode cX17_spill 360 = .ok (.dup, 1) := by decide +kernel
theorem dr_cX17_spill_361 : decode cX17_spill 361 = .ok (.getfield 231, 3) := by decide +kernel
theorem dr_cX17_spill_364 : decode cX17_spill 364 = .ok (.iconst 1, 1) := by decide +kernel
theorem dr_cX17_spill_365 : decode cX17_spill 365 = .ok (.iadd, 1) := by decide +kernel
theorem dr_cX17_spill_366 : decode cX17_spill 366 = .ok (.putfield 231, 3) := by decide +kernel
theorem dr_cX17_spill_369 : decode cX17_spill 369 = .ok (.aload_n 1, 1) := by decide +kernel
theorem dr_cX17_spill_370 : decode cX17_spill 370 = .ok (.invokevirtual 177, 3) := by decide +kernel
theorem dr_cX17_spill_373 : decode cX17_spill 373 = .ok (.astore 9, 2) := by decide +kernel
theorem dr_cX17_spill_375 : decode cX17_spill 375 = .ok (.aload 9, 2) := by decide +kernel
theorem dr_cX17_spill_377 : decode cX17_spill 377 = .ok (.bipush 23, 2) := by decide +kernel
theorem dr_cX17_spill_379 : decode cX17_spill 379 = .ok (.putfield 39, 3) := by decide +kernel
theorem dr_cX17_spill_382 : decode cX17_spill 382 = .ok (.aload 9, 2) := by decide +kernel
theorem dr_cX17_spill_384 : decode cX17_spill 384 = .ok (.iload 8, 2) := by decide +kernel
theorem dr_cX17_spill_386 : decode cX17_spill 386 = .ok (.putfield 45, 3) := by decide +kernel
theorem dr_cX17_spill_389 : decode cX17_spill 389 = .ok (.aload 9, 2) := by decide +kernel
theorem dr_cX17_spill_391 : decode cX17_spill 391 = .ok (.aload 5, 2) := by decide +kernel
theorem dr_cX17_spill_393 : decode cX17_spill 393 = .ok (.getfield 52, 3) := by decide +kernel
theorem dr_cX17_spill_396 : decode cX17_spill 396 = .ok (.putfield 73, 3) := by decide +kernel
theorem dr_cX17_spill_399 : decode cX17_spill 399 = .ok (.aload 9, 2) := by decide +kernel
theorem dr_cX17_spill_401 : decode cX17_spill 401 = .ok (.iconst 1, 1) := by decide +kernel
theorem dr_cX17_spill_402 : decode cX17_spill 402 = .ok (.putfield 141, 3) := by decide +kernel
theorem dr_cX17_spill_405 : decode cX17_spill 405 = .ok (.iinc 4 1, 3) := by decide +kernel
theorem dr_cX17_spill_408 : decode cX17_spill 408 = .ok (.aload_n 3, 1) := by decide +kernel
theorem dr_cX17_spill_409 : decode cX17_spill 409 = .ok (.getfield 117, 3) := by decide +kernel
theorem dr_cX17_spill_412 : decode cX17_spill 412 = .ok (.iload 4, 2) := by decide +kernel
theorem dr_cX17_spill_414 : decode cX17_spill 414 = .ok (.aload 9, 2) := by decide +kernel
theorem dr_cX17_spill_416 : decode cX17_spill 416 = .ok (.invokevirtual 181, 3) := by decide +kernel
theorem dr_cX17_spill_348 : decode cX17_spill 348 = .ok (.iconst 0, 1) := by decide +kernel
theorem dr_cX17_spill_349 : decode cX17_spill 349 = .ok (.ireturn, 1) := by decide +kernel
theorem dr_cX17_spill_323 : decode cX17_spill 323 = .ok (.goto 96, 3) := by decide +kernel
theorem dr_cX17_spill_236 : decode cX17_spill 236 = .ok (.iload 7, 2) := by decide +kernel
theorem dr_cX17_spill_238 : decode cX17_spill 238 = .ok (.ifCond .lt 54, 3) := by decide +kernel
theorem dr_cX17_spill_241 : decode cX17_spill 241 = .ok (.iload 7, 2) := by decide +kernel
theorem dr_cX17_spill_243 : decode cX17_spill 243 = .ok (.iload 6, 2) := by decide +kernel
theorem dr_cX17_spill_245 : decode cX17_spill 245 = .ok (.if_icmp .eq 47, 3) := by decide +kernel
theorem dr_cX17_spill_248 : decode cX17_spill 248 = .ok (.aload_n 0, 1) := by decide +kernel
theorem dr_cX17_spill_249 : decode cX17_spill 249 = .ok (.getfield 221, 3) := by decide +kernel
theorem dr_cX17_spill_252 : decode cX17_spill 252 = .ok (.iload 7, 2) := by decide +kernel
theorem dr_cX17_spill_254 : decode cX17_spill 254 = .ok (.iaload, 1) := by decide +kernel
theorem dr_cX17_spill_255 : decode cX17_spill 255 = .ok (.ifCond .lt 37, 3) := by decide +kernel
theorem dr_cX17_spill_258 : decode cX17_spill 258 = .ok (.aload_n 0, 1) := by decide +kernel
theorem dr_cX17_spill_259 : decode cX17_spill 259 = .ok (.aload_n 1, 1) := by decide +kernel
theorem dr_cX17_spill_260 : decode cX17_spill 260 = .ok (.aload_n 3, 1) := by decide +kernel
theorem dr_cX17_spill_261 : decode cX17_spill 261 = .ok (.iload 4, 2) := by decide +kernel
theorem dr_cX17_spill_263 : decode cX17_spill 263 = .ok (.aload_n 0, 1) := by decide +kernel
theorem dr_cX17_spill_264 : decode cX17_spill 264 = .ok (.getfield 221, 3) := by decide +kernel
theorem dr_cX17_spill_267 : decode cX17_spill 267 = .ok (.iload 7, 2) := by decide +kernel
theorem dr_cX17_spill_269 : decode cX17_spill 269 = .ok (.iaload, 1) := by decide +kernel
theorem dr_cX17_spill_270 : decode cX17_spill 270 = .ok (.invokevirtual 227, 3) := by decide +kernel
theorem wr_11_67 : (Jvm.Cond.methodLink "SpillForgeModel" (227 : Nat) ({ cls := "SpillForgeModel", name := "load", desc := "(LSpillForgeModel$Code;LSpillForgeModel$Block;II)I" } : Jvm.MethodName)) ∈ gw := gw_11 67 rfl rfl
theorem wr_11_70 : (Jvm.Cond.code ({ cls := "SpillForgeModel", name := "load", desc := "(LSpillForgeModel$Code;LSpillForgeModel$Block;II)I" } : Jvm.MethodName) prog_14_method_23_code (6 : Nat) (Option.some Jvm.ClassFile.FieldType.int)) ∈ gw := gw_11 70 rfl rfl
theorem wr_11_69 : (Jvm.Cond.instanceMethod ({ cls := "SpillForgeModel", name := "load", desc := "(LSpillForgeModel$Code;LSpillForgeModel$Block;II)I" } : Jvm.MethodName)) ∈ gw := gw_11 69 rfl rfl
theorem wr_p_111 : Cond.selects "SpillForgeModel" ⟨"SpillForgeModel", "load", "(LSpillForgeModel$Code;LSpillForgeModel$Block;II)I"⟩ ⟨"SpillForgeModel", "load", "(LSpillForgeModel$Code;LSpillForgeModel$Block;II)I"⟩ ∈ gw := gw_p _ 111 rfl rfl rfl
theorem dr_cX17_spill_273 : decode cX17_spill 273 = .ok (.istore 8, 2) := by decide +kernel
theorem dr_cX17_spill_275 : decode cX17_spill 275 = .ok (.iload 8, 2) := by decide +kernel
theorem dr_cX17_spill_277 : decode cX17_spill 277 = .ok (.ifCond .ge 5, 3) := by decide +kernel
theorem dr_cX17_spill_282 : decode cX17_spill 282 = .ok (.iinc 4 1, 3) := by decide +kernel
theorem dr_cX17_spill_285 : decode cX17_spill 285 = .ok (.aload 5, 2) := by decide +kernel
theorem dr_cX17_spill_287 : decode cX17_spill 287 = .ok (.iload 8, 2) := by decide +kernel
theorem dr_cX17_spill_289 : decode cX17_spill 289 = .ok (.putfield 79, 3) := by decide +kernel
theorem dr_cX17_spill_280 : decode cX17_spill 280 = .ok (.iconst 0, 1) := by decide +kernel
theorem dr_cX17_spill_281 : decode cX17_spill 281 = .ok (.ireturn, 1) := by decide +kernel
theorem dr_cX17_spill_102 : decode cX17_spill 102 = .ok (.iload 4, 2) := by decide +kernel
theorem dr_cX17_spill_104 : decode cX17_spill 104 = .ok (.aload_n 3, 1) := by decide +kernel
theorem dr_cX17_spill_105 : decode cX17_spill 105 = .ok (.getfield 117, 3) := by decide +kernel
theorem dr_cX17_spill_108 : decode cX17_spill 108 = .ok (.invokevirtual 121, 3) := by decide +kernel
theorem dr_cX17_spill_111 : decode cX17_spill 111 = .ok (.if_icmp .ge 18, 3) := by decide +kernel
theorem dr_cX17_spill_129 : decode cX17_spill 129 = .ok (.aload_n 3, 1) := by decide +kernel
theorem dr_cX17_spill_130 : decode cX17_spill 130 = .ok (.getfield 109, 3) := by decide +kernel
theorem dr_cX17_spill_133 : decode cX17_spill 133 = .ok (.astore 5, 2) := by decide +kernel
theorem dr_cX17_spill_135 : decode cX17_spill 135 = .ok (.aload 5, 2) := by decide +kernel
theorem dr_cX17_spill_137 : decode cX17_spill 137 = .ok (.invokevirtual 70, 3) := by decide +kernel
theorem dr_cX17_spill_140 : decode cX17_spill 140 = .ok (.ifCond .eq 11, 3) := by decide +kernel
theorem dr_cX17_spill_151 : decode cX17_spill 151 = .ok (.iconst (-1), 1) := by decide +kernel
theorem dr_cX17_spill_152 : decode cX17_spill 152 = .ok (.istore 6, 2) := by decide +kernel
theorem dr_cX17_spill_154 : decode cX17_spill 154 = .ok (.aload 5, 2) := by decide +kernel
theorem dr_cX17_spill_156 : decode cX17_spill 156 = .ok (.invokevirtual 76, 3) := by decide +kernel
theorem dr_cX17_spill_159 : decode cX17_spill 159 = .ok (.ifCond .eq 11, 3) := by decide +kernel
theorem dr_cX17_spill_170 : decode cX17_spill 170 = .ok (.iconst (-1), 1) := by decide +kernel
theorem dr_cX17_spill_171 : decode cX17_spill 171 = .ok (.istore 7, 2) := by decide +kernel
theorem dr_cX17_spill_173 : decode cX17_spill 173 = .ok (.iload 6, 2) := by decide +kernel
theorem dr_cX17_spill_175 : decode cX17_spill 175 = .ok (.ifCond .lt 61, 3) := by decide +kernel
theorem dr_cX17_spill_162 : decode cX17_spill 162 = .ok (.aload 5, 2) := by decide +kernel
theorem dr_cX17_spill_164 : decode cX17_spill 164 = .ok (.getfield 79, 3) := by decide +kernel
theorem dr_cX17_spill_167 : decode cX17_spill 167 = .ok (.goto 4, 3) := by decide +kernel
theorem dr_cX17_spill_143 : decode cX17_spill 143 = .ok (.aload 5, 2) := by decide +kernel
theorem dr_cX17_spill_145 : decode cX17_spill 145 = .ok (.getfield 73, 3) := by decide +kernel
theorem dr_cX17_spill_148 : decode cX17_spill 148 = .ok (.goto 4, 3) := by decide +kernel
theorem dr_cX17_spill_178 : decode cX17_spill 178 = .ok (.aload_n 0, 1) := by decide +kernel
theorem dr_cX17_spill_179 : decode cX17_spill 179 = .ok (.getfield 221, 3) := by decide +kernel
theorem dr_cX17_spill_182 : decode cX17_spill 182 = .ok (.iload 6, 2) := by decide +kernel
theorem dr_cX17_spill_184 : decode cX17_spill 184 = .ok (.iaload, 1) := by decide +kernel
theorem dr_cX17_spill_185 : decode cX17_spill 185 = .ok (.ifCond .lt 51, 3) := by decide +kernel
theorem dr_cX17_spill_188 : decode cX17_spill 188 = .ok (.aload_n 0, 1) := by decide +kernel
theorem dr_cX17_spill_189 : decode cX17_spill 189 = .ok (.aload_n 1, 1) := by decide +kernel
theorem dr_cX17_spill_190 : decode cX17_spill 190 = .ok (.aload_n 3, 1) := by decide +kernel
theorem dr_cX17_spill_191 : decode cX17_spill 191 = .ok (.iload 4, 2) := by decide +kernel
theorem dr_cX17_spill_193 : decode cX17_spill 193 = .ok (.aload_n 0, 1) := by decide +kernel
theorem dr_cX17_spill_194 : decode cX17_spill 194 = .ok (.getfield 221, 3) := by decide +kernel
theorem dr_cX17_spill_197 : decode cX17_spill 197 = .ok (.iload 6, 2) := by decide +kernel
theorem dr_cX17_spill_199 : decode cX17_spill 199 = .ok (.iaload, 1) := by decide +kernel
theorem dr_cX17_spill_200 : decode cX17_spill 200 = .ok (.invokevirtual 227, 3) := by decide +kernel
theorem dr_cX17_spill_203 : decode cX17_spill 203 = .ok (.istore 8, 2) := by decide +kernel
theorem dr_cX17_spill_205 : decode cX17_spill 205 = .ok (.iload 8, 2) := by decide +kernel
theorem dr_cX17_spill_207 : decode cX17_spill 207 = .ok (.ifCond .ge 5, 3) := by decide +kernel
theorem dr_cX17_spill_212 : decode cX17_spill 212 = .ok (.iinc 4 1, 3) := by decide +kernel
theorem dr_cX17_spill_215 : decode cX17_spill 215 = .ok (.aload 5, 2) := by decide +kernel
theorem dr_cX17_spill_217 : decode cX17_spill 217 = .ok (.iload 8, 2) := by decide +kernel
theorem dr_cX17_spill_219 : decode cX17_spill 219 = .ok (.putfield 73, 3) := by decide +kernel
theorem dr_cX17_spill_222 : decode cX17_spill 222 = .ok (.iload 7, 2) := by decide +kernel
theorem dr_cX17_spill_224 : decode cX17_spill 224 = .ok (.iload 6, 2) := by decide +kernel
theorem dr_cX17_spill_226 : decode cX17_spill 226 = .ok (.if_icmp .ne 10, 3) := by decide +kernel
theorem dr_cX17_spill_210 : decode cX17_spill 210 = .ok (.iconst 0, 1) := by decide +kernel
theorem dr_cX17_spill_211 : decode cX17_spill 211 = .ok (.ireturn, 1) := by decide +kernel
theorem dr_cX17_spill_229 : decode cX17_spill 229 = .ok (.aload 5, 2) := by decide +kernel
theorem dr_cX17_spill_231 : decode cX17_spill 231 = .ok (.iload 8, 2) := by decide +kernel
theorem dr_cX17_spill_233 : decode cX17_spill 233 = .ok (.putfield 79, 3) := by decide +kernel
theorem dr_cX17_spill_114 : decode cX17_spill 114 = .ok (.aload_n 3, 1) := by decide +kernel
theorem dr_cX17_spill_115 : decode cX17_spill 115 = .ok (.getfield 117, 3) := by decide +kernel
theorem dr_cX17_spill_118 : decode cX17_spill 118 = .ok (.iload 4, 2) := by decide +kernel
theorem dr_cX17_spill_120 : decode cX17_spill 120 = .ok (.invokevirtual 124, 3) := by decide +kernel
theorem dr_cX17_spill_123 : decode cX17_spill 123 = .ok (.checkcast 40, 3) := by decide +kernel
theorem dr_cX17_spill_126 : decode cX17_spill 126 = .ok (.goto 7, 3) := by decide +kernel
theorem dr_cX17_spill_9 : decode cX17_spill 9 = .ok (.aload_n 0, 1) := by decide +kernel
theorem dr_cX17_spill_10 : decode cX17_spill 10 = .ok (.getfield 221, 3) := by decide +kernel
theorem dr_cX17_spill_13 : decode cX17_spill 13 = .ok (.iload_n 2, 1) := by decide +kernel
theorem dr_cX17_spill_14 : decode cX17_spill 14 = .ok (.iconst (-1), 1) := by decide +kernel
theorem dr_cX17_spill_15 : decode cX17_spill 15 = .ok (.iastore, 1) := by decide +kernel
theorem dr_cX17_spill_16 : decode cX17_spill 16 = .ok (.aload_n 0, 1) := by decide +kernel
theorem dr_cX17_spill_17 : decode cX17_spill 17 = .ok (.getfield 131, 3) := by decide +kernel
theorem dr_cX17_spill_20 : decode cX17_spill 20 = .ok (.iload_n 2, 1) := by decide +kernel
theorem dr_cX17_spill_21 : decode cX17_spill 21 = .ok (.baload, 1) := by decide +kernel
theorem dr_cX17_spill_22 : decode cX17_spill 22 = .ok (.ifCond .eq 43, 3) := by decide +kernel
theorem dr_cX17_spill_65 : decode cX17_spill 65 = .ok (.iinc 2 1, 3) := by decide +kernel
theorem dr_cX17_spill_68 : decode cX17_spill 68 = .ok (.goto (-66), 3) := by decide +kernel
theorem dr_cX17_spill_25 : decode cX17_spill 25 = .ok (.aload_n 0, 1) := by decide +kernel
theorem dr_cX17_spill_26 : decode cX17_spill 26 = .ok (.getfield 212, 3) := by decide +kernel
theorem dr_cX17_spill_29 : decode cX17_spill 29 = .ok (.iload_n 2, 1) := by decide +kernel
theorem dr_cX17_spill_30 : decode cX17_spill 30 = .ok (.iaload, 1) := by decide +kernel
theorem dr_cX17_spill_31 : decode cX17_spill 31 = .ok (.ifCond .lt 6, 3) := by decide +kernel
theorem dr_cX17_spill_37 : decode cX17_spill 37 = .ok (.iload_n 2, 1) := by decide +kernel
theorem dr_cX17_spill_38 : decode cX17_spill 38 = .ok (.bipush 100, 2) := by decide +kernel
theorem dr_cX17_spill_40 : decode cX17_spill 40 = .ok (.if_icmp .lt 5, 3) := by decide +kernel
theorem dr_cX17_spill_45 : decode cX17_spill 45 = .ok (.aload_n 0, 1) := by decide +kernel
theorem dr_cX17_spill_46 : decode cX17_spill 46 = .ok (.getfield 221, 3) := by decide +kernel
theorem dr_cX17_spill_49 : decode cX17_spill 49 = .ok (.iload_n 2, 1) := by decide +kernel
theorem dr_cX17_spill_50 : decode cX17_spill 50 = .ok (.aload_n 0, 1) := by decide +kernel
theorem dr_cX17_spill_51 : decode cX17_spill 51 = .ok (.getfield 224, 3) := by decide +kernel
theorem dr_cX17_spill_54 : decode cX17_spill 54 = .ok (.iastore, 1) := by decide +kernel
theorem dr_cX17_spill_55 : decode cX17_spill 55 = .ok (.aload_n 0, 1) := by decide +kernel
theorem dr_cX17_spill_56 : decode cX17_spill 56 = .ok (.dup, 1) := by decide +kernel
theorem dr_cX17_spill_57 : decode cX17_spill 57 = .ok (.getfield 224, 3) := by decide +kernel
theorem dr_cX17_spill_60 : decode cX17_spill 60 = .ok (.iconst 1, 1) := by decide +kernel
theorem dr_cX17_spill_61 : decode cX17_spill 61 = .ok (.iadd, 1) := by decide +kernel
theorem dr_cX17_spill_62 : decode cX17_spill 62 = .ok (.putfield 224, 3) := by decide +kernel
theorem dr_cX17_spill_43 : decode cX17_spill 43 = .ok (.iconst 0, 1) := by decide +kernel
theorem dr_cX17_spill_44 : decode cX17_spill 44 = .ok (.ireturn, 1) := by decide +kernel
theorem dr_cX17_spill_34 : decode cX17_spill 34 = .ok (.goto 31, 3) := by decide +kernel
abbrev ky_572548_SpillForgeModel_spill : gKey := (cX17_spill, 10, "SpillForgeModel", (some FieldType.boolean), [], "spill", fun _ _ => True)
def pg_572548_SpillForgeModel_spill (D : va_G) (I : FieldType → ClassId) (γ0 el0 : Nat → Nat → Nat) (f : Nat) (B : Nat) (P572538 : List Nat) (F572539 : Nat → va_E) (q572540 : Nat) (q572541 : Nat) : Option Value → va_W → Nat → Nat → Prop := fun r w dc ds => ∃ (P614138 : List Nat) (F614139 : Nat → va_E) (γ el : Nat → Nat → Nat) (o614137 : Int32), r = some (.int o614137) ∧ w = va_pl P614138 F614139 ∧ rSk f [101] ([1, 3, 5, 6, 8, 9, 101] ++ npk) D I P572538 F572539 γ0 el0 P614138 F614139 γ el ∧ (18 * dc + rPh γ0 el0 f ≤ rPh γ el f ∧ ds + rPh γ0 el0 f ≤ rPh γ el f) ∧ rBd γ el f B ∧ gB o614137 0 1 ∧ γ 6 f = γ0 6 f ∧ (o614137.toInt = 0 ∨ (γ 6 f = γ0 6 f ∧ γ 18 f = γ0 18 f ∧ ((γ 7 f : Nat) : Int) = (fI (F614139 q572540) 11).toInt ∧ ((γ 16 f : Nat) : Int) + 2001 ≤ (B : Int) + (fI (F614139 q572540) 14).toInt ∧ 100 ≤ (fI (F614139 q572540) 14).toInt ∧ rNI γ el F614139 q572541 (γ 6 f) (fI (F614139 q572540) 11).toInt)) ∧ (F614139 (γ0 9 3) = F572539 (γ0 9 3)) ∧ mKp (F572539 q572540) (F614139 q572540)
set_option maxRecDepth 100000 in
set_option maxHeartbeats 20000000 in
theorem cg_572548_SpillForgeModel_spill (l : Launch) (hl0 : l.stackTraces = false) (D : va_G) (I : FieldType → ClassId) (γ0 el0 : Nat → Nat → Nat) (f : Nat) (B : Nat) (P572538 : List Nat) (F572539 : Nat → va_E) (q572540 : Nat) (q572541 : Nat) (hT0 : RS D I P572538 F572539 γ0 el0) (hzq572540 : rKd γ0 q572540 10) (hzq572541 : rKd γ0 q572541 9) (hf0 : γ0 1 q572541 = f) (hB0 : rBd γ0 el0 f B) (hBk : B ≤ 100000) (x572542 : 0 < γ0 6 f) (x572543 : ((γ0 7 f : Nat) : Int) = (fI (F572539 q572540) 11).toInt) (x572544 : ((γ0 16 f : Nat) : Int) + 2001 ≤ (B : Int) + (fI (F572539 q572540) 14).toInt) (x572545 : (fI (F572539 q572540) 11).toInt + (rcn (cB (F572539 (γ0 9 3))) 100 : Nat) ≤ 100) (x572546 : rPl γ0 el0 F572539 q572541 (γ0 6 f) (fun _ _ => rNx (rSd (cB (F572539 (γ0 9 3)))))) (x572547 : 100 ≤ (fI (F572539 q572540) 14).toInt) : CtA (gV D I) l yX17_spill cX17_spill 10 (some FieldType.boolean) 9 195 (((387 * B + 6000) - rPh γ0 el0 f) / 18) ((387 * B + 6000) - rPh γ0 el0 f) [.ref q572540, .ref q572541] (va_pl P572538 F572539) (pg_572548_SpillForgeModel_spill D I γ0 el0 f B P572538 F572539 q572540 q572541) gNA := by
  refine CtA_of hl0 (by decide) (Nat.le_of_ble_eq_true rfl) ?_
  obtain ⟨γ, hγ0⟩ : ∃ z, z = γ0 := ⟨_, rfl⟩
  obtain ⟨el, hel0⟩ : ∃ z, z = el0 := ⟨_, rfl⟩
  have hT : RS D I P572538 F572539 γ el := by rw [hγ0, hel0]; exact hT0
  have hst : rSk f [101] ([1, 3, 5, 6, 8, 9, 101] ++ npk) D I P572538 F572539 γ0 el0 P572538 F572539 γ el := by rw [hγ0, hel0]; exact rSk_rf hT0
  have hph : rPh γ0 el0 f ≤ rPh γ el f := by rw [hγ0, hel0]; exact Nat.le_refl _
  have hB : rBd γ el f B := by rw [hγ0, hel0]; exact hB0
  have htq572540 : rKd γ q572540 10 := by rw [hγ0]; exact hzq572540
  have htq572541 : rKd γ q572541 9 := by rw [hγ0]; exact hzq572541
  have hf1 : γ 1 q572541 = f := by rw [hγ0]; exact hf0
  have x572542n : 0 < γ 6 f := by rw [hγ0]; exact x572542
  have x572543n : ((γ 7 f : Nat) : Int) = (fI (F572539 q572540) 11).toInt := by rw [hγ0]; exact x572543
  have x572544n : ((γ 16 f : Nat) : Int) + 2001 ≤ (B : Int) + (fI (F572539 q572540) 14).toInt := by rw [hγ0]; exact x572544
  have x572545n : (fI (F572539 q572540) 11).toInt + (rcn (cB (F572539 (γ 9 3))) 100 : Nat) ≤ 100 := by rw [hγ0]; exact x572545
  have x572546n : rPl γ el F572539 q572541 (γ 6 f) (fun _ _ => rNx (rSd (cB (F572539 (γ 9 3))))) := by rw [hγ0, hel0]; exact x572546
  have pk572549 : rPh γ el f ≤ 387 * B + 6000 := rm_pk (rM_ge hT htq572541 hf1).1 (rM_bd hB)
  refine G_widen (cs' := ((rPh γ el f - rPh γ0 el0 f) / 18)) (sl' := (rPh γ el f - rPh γ0 el0 f)) (Nat.zero_le _) (Nat.zero_le _) ?_
  have lz0 : Int32.toInt 0 = 0 := by decide
  have r572550 : γ 6 f = γ0 6 f := by rw [hγ0]
  have r572551 : γ 7 f = γ0 7 f := by rw [hγ0]
  have r572552 : γ 16 f = γ0 16 f := by rw [hγ0]
  have r572553 : γ 18 f = γ0 18 f := by rw [hγ0]
  have r572554 : γ 19 f = γ0 19 f := by rw [hγ0]
  have hm572555 : q572540 ∈ P572538 := RS_m hT htq572540 (by decide)
  refine rk10_e (show rk_10 γ (F572539 q572540) from RS_o hT htq572540) (fun q572557 q572558 p572559 p572560 p572561 p572562 p572563 p572564 p572565 p572566 p572567 p572568 p572569 p572570 p572571 p572572 p572573 he572556 hB572600 ht572574 ht572575 ht572576 ht572577 ht572578 ht572579 ht572580 ht572581 ht572582 ht572583 ht572584 ht572585 ht572586 ht572587 ht572588 ht572589 ht572590 ht572591 ht572592 ht572593 ht572594 ht572595 ht572596 ht572597 hB572601 => ?_)
  have ac0_11 : (fI (F572539 q572540) 11).toInt = p572561.toInt := by rw [he572556]; rfl
  have ac0_14 : (fI (F572539 q572540) 14).toInt = p572564.toInt := by rw [he572556]; rfl
  have bp572561 : gB p572561 0 100 := (hB572600.2.2.1)
  have bp572564 : gB p572564 0 2000 := (hB572600.2.2.2.1)
  have k0_3 : rKd γ0 (γ0 9 3) 14 := by rw [← hγ0]; exact ht572579
  have k0_17 : rKd γ0 (γ0 9 17) 20 := by rw [← hγ0]; exact ht572587
  have k0_19 : rKd γ0 (γ0 9 19) 21 := by rw [← hγ0]; exact ht572589
  refine G_iconst 0 dr_cX17_spill_0 (by decide +kernel) ?_
  refine G_istore_n (L' := [(2, .int 0), (0, .ref q572540), (1, .ref q572541)]) dr_cX17_spill_1 (Nat.le_of_ble_eq_true rfl) rfl ?_
  have hlp2_607421 : ∀ (n2_607421 : Nat) (P607407 : List Nat) (F607408 : Nat → va_E) (γ el : Nat → Nat → Nat) (g607406 : Int32), gB g607406 0 2000 → RS D I P607407 F607408 γ el → rSk f [101] ([1, 3, 5, 6, 8, 9, 101] ++ npk) D I P572538 F572539 γ0 el0 P607407 F607408 γ el → rPh γ0 el0 f ≤ rPh γ el f → rBd γ el f B → γ 6 f = γ0 6 f → γ 7 f = γ0 7 f → γ 16 f = γ0 16 f → γ 18 f = γ0 18 f → (fI (F607408 q572540) 14).toInt = (fI (F572539 q572540) 14).toInt → spI (cB (F572539 (γ0 9 3))) (cB (F607408 (γ0 9 19))) (g607406.toInt : Int).toNat (fI (F572539 q572540) 11).toInt (fI (F607408 q572540) 11).toInt → rPl γ el F607408 q572541 (γ 6 f) (fun _ _ => rNx (rSd (cB (F572539 (γ0 9 3))))) → (F607408 (γ0 9 3) = F572539 (γ0 9 3)) → mKp (F572539 q572540) (F607408 q572540) → ((2001 : Int) - g607406.toInt).toNat < n2_607421 → G (gV D I) l (gRm 9 195 (((387 * B + 6000) - rPh γ0 el0 f) / 18) ((387 * B + 6000) - rPh γ0 el0 f)) (gMA (gV D I) (pg_572548_SpillForgeModel_spill D I γ0 el0 f B P572538 F572539 q572540 q572541) gNA (((387 * B + 6000) - rPh γ0 el0 f) / 18) ((387 * B + 6000) - rPh γ0 el0 f)) ky_572548_SpillForgeModel_spill 2 [(2, .int g607406), (0, .ref q572540), (1, .ref q572541)] [] (va_pl P607407 F607408) ((rPh γ el f - rPh γ0 el0 f) / 18) (rPh γ el f - rPh γ0 el0 f) := by
    intro n2_607421
    induction n2_607421 with
    | zero => intro P607407 F607408 γ el g607406 bg607406 hT607409 hs607410 hph607411 hB607412 x607413 x607414 x607415 x607416 x607417 x607418 x607419 x607420 x607421 hm2_607421; exact absurd hm2_607421 (Nat.not_lt_zero _)
    | succ n2_607421 ih2_607421 =>
      intro P607407 F607408 γ el g607406 bg607406 hT607409 hs607410 hph607411 hB607412 x607413 x607414 x607415 x607416 x607417 x607418 x607419 x607420 x607421 hm2_607421
      clear r572550 r572551 r572552 r572553 r572554
      have ht607423 : rKd γ q572540 10 := rSk_k hs607410 hzq572540 (by decide) (by decide)
      have ht607424 : rKd γ q572541 9 := rSk_k hs607410 hzq572541 (by decide) (by decide)
      have hf607425 : γ 1 q572541 = f := rSk_1 hs607410 hzq572541 (by decide) hf0
      have pk607426 : rPh γ el f ≤ 387 * B + 6000 := rm_pk (rM_ge hT607409 ht607424 hf607425).1 (rM_bd hB607412)
      have hm607427 : q572540 ∈ P607407 := RS_m hT607409 ht607423 (by decide)
      refine rk10_e (show rk_10 γ (F607408 q572540) from RS_o hT607409 ht607423) (fun q607429 q607430 p607431 p607432 p607433 p607434 p607435 p607436 p607437 p607438 p607439 p607440 p607441 p607442 p607443 p607444 p607445 he607428 hB607472 ht607446 ht607447 ht607448 ht607449 ht607450 ht607451 ht607452 ht607453 ht607454 ht607455 ht607456 ht607457 ht607458 ht607459 ht607460 ht607461 ht607462 ht607463 ht607464 ht607465 ht607466 ht607467 ht607468 ht607469 hB607473 => ?_)
      have ac607474 : (fI (F607408 q572540) 11).toInt = p607433.toInt := by rw [he607428]; rfl
      have bp607433 : gB p607433 0 100 := (hB607472.2.2.1)
      have ac607475 : (fI (F607408 q572540) 14).toInt = p607436.toInt := by rw [he607428]; rfl
      have bp607436 : gB p607436 0 2000 := (hB607472.2.2.2.1)
      have r607476 : 0 < γ 6 (γ 1 q572541) := by rw [hf607425]; omega
      have hm607477 : (γ 9 3) ∈ P607407 := RS_m hT607409 ht607451 (by decide)
      obtain ⟨f607479, he607478, bf607479⟩ := show rk_14 I (F607408 (γ 9 3)) from RS_o hT607409 ht607451
      have c9_607480 : cB (F572539 (γ0 9 3)) = f607479 := by rw [← x607420, ← congrFun (rSk_9 hs607410) 3]; exact cB_of he607478
      have hm607481 : (γ 9 19) ∈ P607407 := RS_m hT607409 ht607461 (by decide)
      obtain ⟨f607483, he607482, bf607483⟩ := show rk_21 I (F607408 (γ 9 19)) from RS_o hT607409 ht607461
      have c9_607484 : cB (F607408 (γ0 9 19)) = f607483 := by rw [← congrFun (rSk_9 hs607410) 19]; exact cB_of he607482
      have hm607485 : (γ 9 17) ∈ P607407 := RS_m hT607409 ht607459 (by decide)
      obtain ⟨f607487, he607486, bf607487⟩ := show rk_20 I (F607408 (γ 9 17)) from RS_o hT607409 ht607459
      have cq607488 := x607418
      rw [c9_607480, c9_607484, ac607474] at cq607488
      refine G_iload_n 0 dr_cX17_spill_2 rfl ?_
      refine G_sipush 2000 dr_cX17_spill_3 (by decide +kernel) ?_
      refine G_icmp_ge 71 dr_cX17_spill_6 (by decide +kernel) (fun hc607489 => ?_) (fun hc607489 => ?_)
      · have r607490 : 2000 ≤ g607406.toInt := gj_leL hc607489 (show Int32.toInt 2000 = 2000 by decide)
        have bg607406' : gB g607406 2000 2000 := ⟨by omega, by omega⟩
        have ac607491 : (fI (F607408 q572540) 11).toInt = p607433.toInt := by rw [he607428]; rfl
        have ac607492 : (fI (F607408 q572540) 14).toInt = p607436.toInt := by rw [he607428]; rfl
        have spi607493 := x607418
        rw [show (g607406.toInt : Int).toNat = 2000 by omega] at spi607493
        have r607494 := cq607488.1
        have hv607495 := St_slots (f := f) (n := p607433.toInt.toNat) hT607409 ht607424 hf607425 (by omega)
        obtain ⟨γ, hg607496⟩ : ∃ z, z = gVal γ 7 f p607433.toInt.toNat := ⟨_, rfl⟩
        rw [← hg607496] at hv607495
        have hk607497 := rSk_of hv607495.1
        have r607498 := hv607495.2.1
        have hT607499 := hk607497.1
        have hs607500 := rSk_tr hs607410 hk607497 (by decide) (by decide) (by decide)
        have kp607501 : F607408 (γ0 9 3) = F572539 (γ0 9 3) := (rSk_F hk607497 (rSk_k hs607410 k0_3 (by decide) (by decide)) (by decide) (by decide)).trans x607420
        have kp607502 : F607408 (γ0 9 19) = F607408 (γ0 9 19) := rSk_F hk607497 (rSk_k hs607410 k0_19 (by decide) (by decide)) (by decide) (by decide)
        have r607503 := rSk_F hk607497 ht607423 (by decide) (by decide)
        have ht607504 : rKd γ q572540 10 := rSk_k hk607497 ht607423 (by decide) (by decide)
        have ht607505 : rKd γ q572541 9 := rSk_k hk607497 ht607424 (by decide) (by decide)
        have hf607506 : γ 1 q572541 = f := rSk_1 hk607497 ht607424 (by decide) hf607425
        have mk607507 : mKp (F572539 q572540) (F607408 q572540) := mKp_tr x607421 (mKp_eq (rSk_F hk607497 ht607423 (by decide) (by decide)))
        have hm607508 : q572540 ∈ P607407 := RS_m hT607499 ht607504 (by decide)
        refine rk10_e (show rk_10 γ (F607408 q572540) from RS_o hT607499 ht607504) (fun q607510 q607511 p607512 p607513 p607514 p607515 p607516 p607517 p607518 p607519 p607520 p607521 p607522 p607523 p607524 p607525 p607526 he607509 hB607553 ht607527 ht607528 ht607529 ht607530 ht607531 ht607532 ht607533 ht607534 ht607535 ht607536 ht607537 ht607538 ht607539 ht607540 ht607541 ht607542 ht607543 ht607544 ht607545 ht607546 ht607547 ht607548 ht607549 ht607550 hB607554 => ?_)
        have r607555 : p607514.toInt = p607433.toInt := by have z : p607514 = p607433 := congrArg (fun e => fI e 11) (he607509.symm.trans (r607503.trans he607428)); rw [z]
        have bp607514 : gB p607514 0 100 := (hB607553.2.2.1)
        have r607556 : p607517.toInt = p607436.toInt := by have z : p607517 = p607436 := congrArg (fun e => fI e 14) (he607509.symm.trans (r607503.trans he607428)); rw [z]
        have bp607517 : gB p607517 0 2000 := (hB607553.2.2.2.1)
        have hB607557 : rBd γ el f B := hv607495.2.2.2 B hB607412
        have hph607558 : rPh γ0 el0 f ≤ rPh γ el f := by rw [r607498]; exact hph607411
        have pk607559 : rPh γ el f ≤ 387 * B + 6000 := rm_pk (rM_ge hT607499 ht607505 hf607506).1 (rM_bd hB607557)
        refine G_widen (cs' := ((rPh γ el f - rPh γ0 el0 f) / 18)) (sl' := (rPh γ el f - rPh γ0 el0 f)) (rm_ec r607498) (rm_es r607498) ?_
        have r607560 := gVal_7 hg607496
        have pl607561 := sp_0 (h := cB (F607408 (γ0 9 19))) (rPl_val hT607409 ht607424 hf607425 hk607497 hg607496 x607419)
        have r607562 : 0 < γ 6 (γ 1 q572541) := by rw [hf607506]; omega
        have ac607563 : (fI (F607408 q572540) 11).toInt = p607514.toInt := by rw [he607509]; rfl
        have ac607564 : (fI (F607408 q572540) 14).toInt = p607517.toInt := by rw [he607509]; rfl
        refine G_iconst 0 dr_cX17_spill_71 (by decide +kernel) ?_
        refine G_istore_n (L' := [(2, .int 0), (0, .ref q572540), (1, .ref q572541)]) dr_cX17_spill_72 (Nat.le_of_ble_eq_true rfl) rfl ?_
        have hlp73_610675 : ∀ (n73_610675 : Nat) (P610660 : List Nat) (F610661 : Nat → va_E) (γ el : Nat → Nat → Nat) (g610659 : Int32), gB g610659 0 1000000 → RS D I P610660 F610661 γ el → rSk f [101] ([1, 3, 5, 6, 8, 9, 101] ++ npk) D I P572538 F572539 γ0 el0 P610660 F610661 γ el → rPh γ0 el0 f ≤ rPh γ el f → rBd γ el f B → γ 6 f = γ0 6 f → γ 18 f = γ0 18 f → ((γ 7 f : Nat) : Int) = (fI (F610661 q572540) 11).toInt → (fI (F610661 q572540) 11).toInt = (fI (F607408 q572540) 11).toInt → ((γ 16 f : Nat) : Int) + 2001 ≤ (B : Int) + (fI (F610661 q572540) 14).toInt → 100 ≤ (fI (F610661 q572540) 14).toInt → (F610661 (γ0 9 19) = F607408 (γ0 9 19)) → rPl γ el F610661 q572541 (γ 6 f) (spQ (cB (F572539 (γ0 9 3))) (cB (F607408 (γ0 9 19))) (g610659.toInt : Int).toNat 0) → (F610661 (γ0 9 3) = F572539 (γ0 9 3)) → mKp (F572539 q572540) (F610661 q572540) → ((1000001 : Int) - g610659.toInt).toNat < n73_610675 → G (gV D I) l (gRm 9 195 (((387 * B + 6000) - rPh γ0 el0 f) / 18) ((387 * B + 6000) - rPh γ0 el0 f)) (gMA (gV D I) (pg_572548_SpillForgeModel_spill D I γ0 el0 f B P572538 F572539 q572540 q572541) gNA (((387 * B + 6000) - rPh γ0 el0 f) / 18) ((387 * B + 6000) - rPh γ0 el0 f)) ky_572548_SpillForgeModel_spill 73 [(2, .int g610659), (0, .ref q572540), (1, .ref q572541)] [] (va_pl P610660 F610661) ((rPh γ el f - rPh γ0 el0 f) / 18) (rPh γ el f - rPh γ0 el0 f) := by
          intro n73_610675
          induction n73_610675 with
          | zero => intro P610660 F610661 γ el g610659 bg610659 hT610662 hs610663 hph610664 hB610665 x610666 x610667 x610668 x610669 x610670 x610671 x610672 x610673 x610674 x610675 hm73_610675; exact absurd hm73_610675 (Nat.not_lt_zero _)
          | succ n73_610675 ih73_610675 =>
            intro P610660 F610661 γ el g610659 bg610659 hT610662 hs610663 hph610664 hB610665 x610666 x610667 x610668 x610669 x610670 x610671 x610672 x610673 x610674 x610675 hm73_610675
            clear r607494 r607498 r607503 r607555 r607556 hph607558 pk607559 r607560 r607562
            have ht610677 : rKd γ q572540 10 := rSk_k hs610663 hzq572540 (by decide) (by decide)
            have ht610678 : rKd γ q572541 9 := rSk_k hs610663 hzq572541 (by decide) (by decide)
            have hf610679 : γ 1 q572541 = f := rSk_1 hs610663 hzq572541 (by decide) hf0
            have pk610680 : rPh γ el f ≤ 387 * B + 6000 := rm_pk (rM_ge hT610662 ht610678 hf610679).1 (rM_bd hB610665)
            have r610681 : 0 < γ 6 (γ 1 q572541) := by rw [hf610679]; omega
            have hm610682 : q572540 ∈ P610660 := RS_m hT610662 ht610677 (by decide)
            refine rk10_e (show rk_10 γ (F610661 q572540) from RS_o hT610662 ht610677) (fun q610684 q610685 p610686 p610687 p610688 p610689 p610690 p610691 p610692 p610693 p610694 p610695 p610696 p610697 p610698 p610699 p610700 he610683 hB610727 ht610701 ht610702 ht610703 ht610704 ht610705 ht610706 ht610707 ht610708 ht610709 ht610710 ht610711 ht610712 ht610713 ht610714 ht610715 ht610716 ht610717 ht610718 ht610719 ht610720 ht610721 ht610722 ht610723 ht610724 hB610728 => ?_)
            have ac610729 : (fI (F610661 q572540) 11).toInt = p610688.toInt := by rw [he610683]; rfl
            have bp610688 : gB p610688 0 100 := (hB610727.2.2.1)
            have ac610730 : (fI (F610661 q572540) 14).toInt = p610691.toInt := by rw [he610683]; rfl
            have bp610691 : gB p610691 0 2000 := (hB610727.2.2.2.1)
            refine G_iload_n 0 dr_cX17_spill_73 rfl ?_
            refine G_aload_n 2 dr_cX17_spill_74 rfl ?_
            have hm610731 : q572541 ∈ P610660 := RS_m hT610662 ht610678 (by decide)
            obtain ⟨q610733, q610734, p610735, p610736, he610732, ht610752, ht610737, ht610738, ht610739, ht610740, r610741, r610742, r610743, r610744, r610745, r610746, r610747, r610748, r610749, r610750, r610751⟩ := show rk_9 γ el q572541 (F610661 q572541) from RS_o hT610662 ht610678
            have bp610735 : gB p610735 0 1000000 := ⟨by omega, by omega⟩
            have bp610736 : gB p610736 0 1000000 := ⟨by omega, by omega⟩
            have hf610753 : γ 1 q610733 = f := (show γ 1 q610733 = γ 1 q572541 from ht610738).trans hf610679
            have hf610754 : γ 1 q610734 = f := (show γ 1 q610734 = γ 1 q572541 from ht610740).trans hf610679
            have r610755 : γ 6 (γ 1 q572541) = γ 6 f := by rw [hf610679]
            have r610756 : γ 16 (γ 1 q572541) = γ 16 f := by rw [hf610679]
            have r610757 : p610736.toInt = γ 6 f ∧ p610736.toInt ≤ 40 := by omega
            clear r610747
            refine Gw_callV (As := []) (gV_ok D I) (cp_12496_Code_size l hl0 D I P610660 F610661 q572541 q610733 q610734 p610735 p610736 hm610731 he610732) dr_cX17_spill_75 ⟨wr_10_160, wr_1_15, wr_9_131, by decide, rfl, (Nat.le_of_ble_eq_true rfl), (Nat.le_of_ble_eq_true rfl)⟩ wr_9_129 wr_9_130 hm610731 he610732 rfl (rm_zc pk610680) (rm_zs pk610680) (Nat.le_of_ble_eq_true rfl) (fun r610761 w610762 dc610758 ds610759 hp610760 => ?_) (fun _ _ _ _ _ z => z.elim)
            obtain ⟨rfl, rfl, hdc, hds⟩ := hp610760
            change G _ _ _ _ _ _ _ (.int p610736 :: _) _ _ _
            refine G_widen (cs' := ((rPh γ el f - rPh γ0 el0 f) / 18)) (sl' := (rPh γ el f - rPh γ0 el0 f)) (rm_d0 hdc) (rm_d0 hds) ?_
            refine G_icmp_ge 431 dr_cX17_spill_78 (by decide +kernel) (fun hc610763 => ?_) (fun hc610763 => ?_)
            · have r610764 : p610736.toInt ≤ g610659.toInt := gC_le hc610763
              have ac610765 : (fI (F610661 q572540) 11).toInt = p610688.toInt := by rw [he610683]; rfl
              have ac610766 : (fI (F610661 q572540) 14).toInt = p610691.toInt := by rw [he610683]; rfl
              have ni610767 : rNI γ el F610661 q572541 (γ 6 f) (fI (F610661 q572540) 11).toInt := by rw [show (fI (F610661 q572540) 11).toInt = (fI (F607408 q572540) 11).toInt by omega]; exact spI_e rfl spi607493 x572545 (sp_end x610673 (by omega))
              refine G_aload_n 2 dr_cX17_spill_431 rfl ?_
              refine Gw_callV (As := []) (gV_ok D I) (ct_7646_Code_countRows l hl0 D I γ el P610660 F610661 q572541 hT610662 ht610678 (by omega)) dr_cX17_spill_432 ⟨wr_10_229, wr_1_15, wr_10_232, by decide, rfl, (Nat.le_of_ble_eq_true rfl), (Nat.le_of_ble_eq_true rfl)⟩ wr_10_230 wr_10_231 hm610731 he610732 rfl (rm_zc pk610680) (rm_zs pk610680) (Nat.le_of_ble_eq_true rfl) (fun r610771 w610772 dc610768 ds610769 hp610770 => ?_) (fun _ _ _ _ _ z => z.elim)
              obtain ⟨o610773, rfl, rfl, hdc, hds⟩ := hp610770
              have bo610773 := gB_any o610773
              change G _ _ _ _ _ _ _ (.int o610773 :: _) _ _ _
              refine G_widen (cs' := ((rPh γ el f - rPh γ0 el0 f) / 18)) (sl' := (rPh γ el f - rPh γ0 el0 f)) (rm_d0 hdc) (rm_d0 hds) ?_
              refine G_sipush 4000 dr_cX17_spill_435 (by decide +kernel) ?_
              refine G_icmp_gt 445 dr_cX17_spill_438 (by decide +kernel) (fun hc610774 => ?_) (fun hc610774 => ?_)
              · have r610775 : 4000 < o610773.toInt := gj_ltL hc610774 (show Int32.toInt 4000 = 4000 by decide)
                have bo610773' : gB o610773 4001 2147483647 := ⟨by omega, by omega⟩
                refine G_iconst 0 dr_cX17_spill_445 (by decide +kernel) ?_
                exact G_zretA FieldType.boolean dr_cX17_spill_446 rfl rfl (rm_zc pk610680) (rm_zs pk610680) ⟨P610660, F610661, γ, el, 0, rfl, rfl, hs610663, (rm_pp hph610664), hB610665, (gB_w (gBl (show Int32.toInt 0 = 0 by decide)) (by decide) (by decide)), (by have qa0 : Int32.toInt 0 = 0 := (by decide); omega), (Or.inl (by decide)), x610674, x610675⟩
              · have r610776 : o610773.toInt ≤ 4000 := gj_nltL hc610774 (show Int32.toInt 4000 = 4000 by decide)
                have bo610773' : gB o610773 (-2147483648) 4000 := ⟨by omega, by omega⟩
                refine G_iconst 1 dr_cX17_spill_441 (by decide +kernel) ?_
                refine G_goto 446 dr_cX17_spill_442 (by decide +kernel) ?_
                exact G_zretA FieldType.boolean dr_cX17_spill_446 rfl rfl (rm_zc pk610680) (rm_zs pk610680) ⟨P610660, F610661, γ, el, 1, rfl, rfl, hs610663, (rm_pp hph610664), hB610665, (gB_w (gBl (show Int32.toInt 1 = 1 by decide)) (by decide) (by decide)), (by have qa0 : Int32.toInt 1 = 1 := (by decide); omega), (Or.inr ⟨by omega, by omega, by omega, by omega, by omega, ni610767⟩), x610674, x610675⟩
            · have r610777 : g610659.toInt < p610736.toInt := gC_nle hc610763
              have bg610659' : gB g610659 0 999999 := ⟨by omega, by omega⟩
              have bp610736' : gB p610736 1 1000000 := ⟨by omega, by omega⟩
              refine G_aload_n 2 dr_cX17_spill_81 rfl ?_
              refine G_iload_n 0 dr_cX17_spill_82 rfl ?_
              have hm610778 : q610733 ∈ P610660 := RS_m hT610662 ht610737 (by decide)
              obtain ⟨⟨p610780, p610781, q610782, he610779, r610783, r610784, r610785, r610787⟩, r610786⟩ := show rk_4 D I γ el F610661 q610733 from RS_o hT610662 ht610737
              have bp610780 := gB_any p610780
              have bp610781 : gB p610781 0 1000000 := ⟨by omega, by omega⟩
              obtain ⟨r610788, r610789, n610796, f610797, r610790, r610791, r610792, r610793, r610794, r610795⟩ := rLC_n r610785 (by omega)
              have hm610798 : q610782 ∈ P610660 := RS_m hT610662 r610788 (by decide)
              obtain ⟨q610799, hx610800⟩ : ∃ x, x = el q610733 g610659.toInt.toNat := ⟨_, rfl⟩
              have hx610801 : f610797 g610659.toNatClampNeg = some q610799 := (r610794 _ (show g610659.toInt.toNat < γ 2 q610733 by first | assumption | omega)).trans (by rw [hx610800])
              have ht610804 : rKd γ q610799 2 := by rw [hx610800]; exact (r610748 _ (by omega)).resolve_right (fun z => absurd z.1 (by omega))
              have ht610805 : rFm γ q610799 q610733 := by rw [hx610800]; exact (r610786 _ (show g610659.toInt.toNat < γ 2 q610733 by omega)).2.1
              have hm610806 : q610799 ∈ P610660 := RS_m hT610662 ht610804 (by decide)
              obtain ⟨q610808, q610809, p610810, p610811, he610807, ht610818, ht610812, ht610813, ht610814, ht610815, ht610816, bp610810, bp610811, r610817, r610819, r610820⟩ := show rk_2 γ q610799 (F610661 q610799) from RS_o hT610662 ht610804
              refine Gw_callV (As := [.int g610659]) (gV_ok D I) (cp_7737_Code_get l hl0 D I P610660 F610661 q572541 q610733 q610782 g610659 q610734 p610735 p610736 p610780 p610781 f610797 n610796 q610799 q610808 q610809 p610810 p610811 hm610731 hm610778 hm610798 hm610806 he610732 he610779 r610790 he610807 (gB_w bg610659' (by decide) (by decide)) (gB_w bp610781 (by decide) (by decide)) (by omega) (by omega) (by assumption) (by omega)) dr_cX17_spill_83 ⟨wr_10_161, wr_1_15, wr_10_141, by decide, rfl, (Nat.le_of_ble_eq_true rfl), (Nat.le_of_ble_eq_true rfl)⟩ wr_10_139 wr_10_140 hm610731 he610732 rfl (rm_zc pk610680) (rm_zs pk610680) (Nat.le_of_ble_eq_true rfl) (fun r610824 w610825 dc610821 ds610822 hp610823 => ?_) (fun _ _ _ _ _ z => z.elim)
              obtain ⟨rfl, rfl, hdc, hds⟩ := hp610823
              change G _ _ _ _ _ _ _ (.ref q610799 :: _) _ _ _
              refine G_widen (cs' := ((rPh γ el f - rPh γ0 el0 f) / 18)) (sl' := (rPh γ el f - rPh γ0 el0 f)) (rm_d0 hdc) (rm_d0 hds) ?_
              have hf610826 : γ 1 q610799 = f := (show γ 1 q610799 = γ 1 q610733 from ht610805).trans ((show γ 1 q610733 = γ 1 q572541 from ht610738).trans hf610679)
              have hf610827 : γ 1 q610808 = f := (show γ 1 q610808 = γ 1 q610799 from ht610813).trans hf610826
              have hf610828 : γ 1 q610809 = f := (show γ 1 q610809 = γ 1 q610799 from ht610815).trans hf610826
              have r610829 : γ 6 (γ 1 q610799) = γ 6 f := by rw [hf610826]
              have r610830 : γ 7 (γ 1 q610799) = γ 7 f := by rw [hf610826]
              have r610831 : γ 19 (γ 1 q610799) = γ 19 f := by rw [hf610826]
              have r610832 := r610817.resolve_left (by omega)
              clear r610817
              have r610833 : γ 2 (γ 14 q610799) = γ 2 q610808 := by rw [ht610818.1]
              have r610834 : g610659.toInt.toNat < γ 2 (γ 14 q572541) := by rw [ht610752.1]; omega
              have r610835 : el (γ 14 q572541) g610659.toInt.toNat = q610799 := by rw [ht610752.1, hx610800]
              refine G_astore_n (L' := [(3, .ref q610799), (2, .int g610659), (0, .ref q572540), (1, .ref q572541)]) dr_cX17_spill_86 (Nat.le_of_ble_eq_true rfl) rfl ?_
              refine G_iconst 0 dr_cX17_spill_87 (by decide +kernel) ?_
              refine G_istore (L' := [(4, .int 0), (3, .ref q610799), (2, .int g610659), (0, .ref q572540), (1, .ref q572541)]) dr_cX17_spill_88 (Nat.le_of_ble_eq_true rfl) rfl ?_
              have hlp90_612316 : ∀ (n90_612316 : Nat) (P612295 : List Nat) (F612296 : Nat → va_E) (γ el : Nat → Nat → Nat) (g612294 : Int32), gB g612294 0 1000003 → RS D I P612295 F612296 γ el → rSk f [101] ([1, 3, 5, 6, 8, 9, 101] ++ npk) D I P572538 F572539 γ0 el0 P612295 F612296 γ el → rPh γ0 el0 f ≤ rPh γ el f → rBd γ el f B → rKd γ q610799 2 → γ 1 q610799 = f → g610659.toInt.toNat < γ 2 (γ 14 q572541) → el (γ 14 q572541) g610659.toInt.toNat = q610799 → γ 6 f = γ0 6 f → γ 18 f = γ0 18 f → ((γ 7 f : Nat) : Int) = (fI (F612296 q572540) 11).toInt → (fI (F612296 q572540) 11).toInt = (fI (F607408 q572540) 11).toInt → ((γ 16 f : Nat) : Int) + 2001 ≤ (B : Int) + (fI (F612296 q572540) 14).toInt → 100 ≤ (fI (F612296 q572540) 14).toInt → (F612296 (γ0 9 19) = F607408 (γ0 9 19)) → rPl γ el F612296 q572541 (γ 6 f) (spQ (cB (F572539 (γ0 9 3))) (cB (F607408 (γ0 9 19))) (g610659.toInt : Int).toNat (g612294.toInt : Int).toNat) → (g612294.toInt : Int) ≤ γ 2 (γ 14 q610799) + 1 → (g610659.toInt : Int) < γ 6 f → (F612296 (γ0 9 3) = F572539 (γ0 9 3)) → mKp (F572539 q572540) (F612296 q572540) → (γ 2 (γ 14 q610799) + 1 - (g612294.toInt : Int).toNat) < n90_612316 → G (gV D I) l (gRm 9 195 (((387 * B + 6000) - rPh γ0 el0 f) / 18) ((387 * B + 6000) - rPh γ0 el0 f)) (gMA (gV D I) (pg_572548_SpillForgeModel_spill D I γ0 el0 f B P572538 F572539 q572540 q572541) gNA (((387 * B + 6000) - rPh γ0 el0 f) / 18) ((387 * B + 6000) - rPh γ0 el0 f)) ky_572548_SpillForgeModel_spill 90 [(4, .int g612294), (3, .ref q610799), (2, .int g610659), (0, .ref q572540), (1, .ref q572541)] [] (va_pl P612295 F612296) ((rPh γ el f - rPh γ0 el0 f) / 18) (rPh γ el f - rPh γ0 el0 f) := by
                intro n90_612316
                induction n90_612316 with
                | zero => intro P612295 F612296 γ el g612294 bg612294 hT612297 hs612298 hph612299 hB612300 ht612301 hf612302 r612303 r612304 x612305 x612306 x612307 x612308 x612309 x612310 x612311 x612312 x612313 x612314 x612315 x612316 hm90_612316; exact absurd hm90_612316 (Nat.not_lt_zero _)
                | succ n90_612316 ih90_612316 =>
                  intro P612295 F612296 γ el g612294 bg612294 hT612297 hs612298 hph612299 hB612300 ht612301 hf612302 r612303 r612304 x612305 x612306 x612307 x612308 x612309 x612310 x612311 x612312 x612313 x612314 x612315 x612316 hm90_612316
                  clear r610741 r610742 r610743 r610744 r610745 r610746 r610748 r610749 r610750 r610751 bp610735 bp610736 bp610810 bp610811 r610819 r610820 r610755 r610756 r610757 r610783 r610784 r610785 r610787 r610786 r610788 r610789 r610790 r610791 r610792 r610793 r610794 r610795 r610829 r610830 r610831 r610832 r610833 r610834 r610835
                  have ht612318 : rKd γ q572540 10 := rSk_k hs612298 hzq572540 (by decide) (by decide)
                  have ht612319 : rKd γ q572541 9 := rSk_k hs612298 hzq572541 (by decide) (by decide)
                  have hf612320 : γ 1 q572541 = f := rSk_1 hs612298 hzq572541 (by decide) hf0
                  have pk612321 : rPh γ el f ≤ 387 * B + 6000 := rm_pk (rM_ge hT612297 ht612319 hf612320).1 (rM_bd hB612300)
                  have r612322 : 0 < γ 6 (γ 1 q572541) := by rw [hf612320]; omega
                  have hm612323 : q572540 ∈ P612295 := RS_m hT612297 ht612318 (by decide)
                  refine rk10_e (show rk_10 γ (F612296 q572540) from RS_o hT612297 ht612318) (fun q612325 q612326 p612327 p612328 p612329 p612330 p612331 p612332 p612333 p612334 p612335 p612336 p612337 p612338 p612339 p612340 p612341 he612324 hB612368 ht612342 ht612343 ht612344 ht612345 ht612346 ht612347 ht612348 ht612349 ht612350 ht612351 ht612352 ht612353 ht612354 ht612355 ht612356 ht612357 ht612358 ht612359 ht612360 ht612361 ht612362 ht612363 ht612364 ht612365 hB612369 => ?_)
                  have ac612370 : (fI (F612296 q572540) 11).toInt = p612329.toInt := by rw [he612324]; rfl
                  have bp612329 : gB p612329 0 100 := (hB612368.2.2.1)
                  have ac612371 : (fI (F612296 q572540) 14).toInt = p612332.toInt := by rw [he612324]; rfl
                  have bp612332 : gB p612332 0 2000 := (hB612368.2.2.2.1)
                  refine G_iload 0 dr_cX17_spill_90 rfl ?_
                  refine G_aload_n 1 dr_cX17_spill_92 rfl ?_
                  have hm612372 : q610799 ∈ P612295 := RS_m hT612297 ht612301 (by decide)
                  obtain ⟨q612374, q612375, p612376, p612377, he612373, ht612384, ht612378, ht612379, ht612380, ht612381, ht612382, bp612376, bp612377, r612383, r612385, r612386⟩ := show rk_2 γ q610799 (F612296 q610799) from RS_o hT612297 ht612301
                  have hf612387 : γ 1 q612374 = f := (show γ 1 q612374 = γ 1 q610799 from ht612379).trans hf612302
                  have hf612388 : γ 1 q612375 = f := (show γ 1 q612375 = γ 1 q610799 from ht612381).trans hf612302
                  have r612389 : γ 6 (γ 1 q610799) = γ 6 f := by rw [hf612302]
                  have r612390 : γ 7 (γ 1 q610799) = γ 7 f := by rw [hf612302]
                  have r612391 : γ 19 (γ 1 q610799) = γ 19 f := by rw [hf612302]
                  have r612392 := r612383.resolve_left (by omega)
                  clear r612383
                  have r612393 : γ 2 (γ 14 q610799) = γ 2 q612374 := by rw [ht612384.1]
                  refine Gp_get 0 hm612372 he612373 dr_cX17_spill_93 (gk_X12 D I) (Nat.le_of_ble_eq_true rfl) wr_9_220 rfl ?_
                  have hm612394 : q612374 ∈ P612295 := RS_m hT612297 ht612378 (by decide)
                  obtain ⟨⟨p612396, p612397, q612398, he612395, r612399, r612400, r612401, r612403⟩, r612402⟩ := show rk_3 D I γ el F612296 q612374 from RS_o hT612297 ht612378
                  have bp612396 := gB_any p612396
                  have bp612397 : gB p612397 0 1000000 := ⟨by omega, by omega⟩
                  refine Gw_callV (As := []) (gV_ok D I) (cp_7_ArrayList_size l hl0 D I P612295 F612296 q612374 p612396 q612398 p612397 hm612394 he612395 (gB_w bp612397 (by decide) (by decide))) dr_cX17_spill_96 ⟨wr_10_200, wr_1_18, wr_9_160, by decide, rfl, (Nat.le_of_ble_eq_true rfl), (Nat.le_of_ble_eq_true rfl)⟩ wr_9_158 wr_9_159 hm612394 he612395 rfl (rm_zc pk612321) (rm_zs pk612321) (Nat.le_of_ble_eq_true rfl) (fun r612407 w612408 dc612404 ds612405 hp612406 => ?_) (fun _ _ _ _ _ z => z.elim)
                  obtain ⟨rfl, rfl, hdc, hds⟩ := hp612406
                  change G _ _ _ _ _ _ _ (.int p612397 :: _) _ _ _
                  refine G_widen (cs' := ((rPh γ el f - rPh γ0 el0 f) / 18)) (sl' := (rPh γ el f - rPh γ0 el0 f)) (rm_d0 hdc) (rm_d0 hds) ?_
                  refine G_icmp_gt 425 dr_cX17_spill_99 (by decide +kernel) (fun hc612409 => ?_) (fun hc612409 => ?_)
                  · have r612410 : p612397.toInt < g612294.toInt := gC_lt hc612409
                    have bg612294' : gB g612294 1 1000003 := ⟨by omega, by omega⟩
                    obtain ⟨z612411, hz612411⟩ : ∃ z : Int32, z = g610659 + Int32.ofInt 1 := ⟨_, rfl⟩
                    have ez612411 : z612411.toInt = g610659.toInt + 1 := gI_inc hz612411 (by decide) bg610659' (by decide) (by decide)
                    have bz612411 : gB z612411 1 1000000 := ⟨by omega, by omega⟩
                    refine G_iinc (L' := [(2, .int z612411), (4, .int g612294), (3, .ref q610799), (0, .ref q572540), (1, .ref q572541)]) z612411 2 dr_cX17_spill_425 rfl hz612411.symm (Nat.le_of_ble_eq_true rfl) rfl ?_
                    refine G_goto 73 dr_cX17_spill_428 (by decide +kernel) ?_
                    refine G_lv (L' := [(2, .int z612411), (0, .ref q572540), (1, .ref q572541)]) [0, 3, 4] rfl ?_
                    have ac612412 : (fI (F612296 q572540) 11).toInt = p612329.toInt := by rw [he612324]; rfl
                    have ac612413 : (fI (F612296 q572540) 14).toInt = p612332.toInt := by rw [he612324]; rfl
                    exact ih73_610675 P612295 F612296 γ el z612411 (gB_w bz612411 (by decide) (by decide)) hT612297 hs612298 hph612299 hB612300 (by omega) (by omega) (by omega) (by omega) (by omega) (by omega) x612311 (sp_nx x612312 (by unfold rwL; rw [r612304]; omega) (by omega)) x612315 x612316 (by omega)
                  · have r612414 : g612294.toInt ≤ p612397.toInt := gC_nlt hc612409
                    have bg612294' : gB g612294 0 1000000 := ⟨by omega, by omega⟩
                    have jn292_612444 : ∀ (P612417 : List Nat) (F612418 : Nat → va_E) (γ el : Nat → Nat → Nat) (g612415 : Int32) (q612416 : Nat), gB g612415 0 1000001 → RS D I P612417 F612418 γ el → rSk f [101] ([1, 3, 5, 6, 8, 9, 101] ++ npk) D I P572538 F572539 γ0 el0 P612417 F612418 γ el → rPh γ0 el0 f ≤ rPh γ el f → rBd γ el f B → rKd γ q610799 2 → γ 1 q610799 = f → g610659.toInt.toNat < γ 2 (γ 14 q572541) → el (γ 14 q572541) g610659.toInt.toNat = q610799 → rKd γ q612416 1 → γ 1 q612416 = f → γ 6 f = γ0 6 f → γ 18 f = γ0 18 f → ((γ 7 f : Nat) : Int) = (fI (F612418 q572540) 11).toInt → (fI (F612418 q572540) 11).toInt = (fI (F607408 q572540) 11).toInt → ((γ 16 f : Nat) : Int) + 2001 ≤ (B : Int) + (fI (F612418 q572540) 14).toInt → 100 ≤ (fI (F612418 q572540) 14).toInt → (F612418 (γ0 9 19) = F607408 (γ0 9 19)) → rPl γ el F612418 q572541 (γ 6 f) (spX (cB (F572539 (γ0 9 3))) (cB (F607408 (γ0 9 19))) (g610659.toInt : Int).toNat (g612415.toInt : Int).toNat) → rAt γ el q572541 (g610659.toInt : Int).toNat (g612415.toInt : Int).toNat = q612416 → rS2 (cB (F572539 (γ0 9 3))) (cB (F607408 (γ0 9 19))) (F612418 q612416) → (g612415.toInt : Int) ≤ γ 2 (γ 14 q610799) → (g610659.toInt : Int) < γ 6 f → (γ 2 (γ 14 q610799) + 1 - (g612415.toInt : Int).toNat) < n90_612316 + 1 → eO g612415.toInt (γ 2 (γ 14 q610799) : Nat) (fI (F612418 q612416) 0).toInt → (F612418 (γ0 9 3) = F572539 (γ0 9 3)) → mKp (F572539 q572540) (F612418 q572540) → G (gV D I) l (gRm 9 195 (((387 * B + 6000) - rPh γ0 el0 f) / 18) ((387 * B + 6000) - rPh γ0 el0 f)) (gMA (gV D I) (pg_572548_SpillForgeModel_spill D I γ0 el0 f B P572538 F572539 q572540 q572541) gNA (((387 * B + 6000) - rPh γ0 el0 f) / 18) ((387 * B + 6000) - rPh γ0 el0 f)) ky_572548_SpillForgeModel_spill 292 [(0, .ref q572540), (1, .ref q572541), (2, .int g610659), (3, .ref q610799), (4, .int g612415), (5, .ref q612416)] [] (va_pl P612417 F612418) ((rPh γ el f - rPh γ0 el0 f) / 18) (rPh γ el f - rPh γ0 el0 f) := by
                      intro P612417 F612418 γ el g612415 q612416 bg612415 hT612419 hs612420 hph612421 hB612422 ht612423 hf612424 r612425 r612426 ht612427 hf612428 x612429 x612430 x612431 x612432 x612433 x612434 x612435 x612436 x612437 x612438 x612439 x612440 x612441 x612442 x612443 x612444
                      clear bp612376 bp612377 r612385 r612386 r612389 r612390 r612391 r612392 r612393 r612399 r612400 r612401 r612403 r612402
                      have ht612446 : rKd γ q572540 10 := rSk_k hs612420 hzq572540 (by decide) (by decide)
                      have ht612447 : rKd γ q572541 9 := rSk_k hs612420 hzq572541 (by decide) (by decide)
                      have hf612448 : γ 1 q572541 = f := rSk_1 hs612420 hzq572541 (by decide) hf0
                      have pk612449 : rPh γ el f ≤ 387 * B + 6000 := rm_pk (rM_ge hT612419 ht612447 hf612448).1 (rM_bd hB612422)
                      have r612450 : 0 < γ 6 (γ 1 q572541) := by rw [hf612448]; omega
                      have hm612451 : q572540 ∈ P612417 := RS_m hT612419 ht612446 (by decide)
                      refine rk10_e (show rk_10 γ (F612418 q572540) from RS_o hT612419 ht612446) (fun q612453 q612454 p612455 p612456 p612457 p612458 p612459 p612460 p612461 p612462 p612463 p612464 p612465 p612466 p612467 p612468 p612469 he612452 hB612496 ht612470 ht612471 ht612472 ht612473 ht612474 ht612475 ht612476 ht612477 ht612478 ht612479 ht612480 ht612481 ht612482 ht612483 ht612484 ht612485 ht612486 ht612487 ht612488 ht612489 ht612490 ht612491 ht612492 ht612493 hB612497 => ?_)
                      have ac612498 : (fI (F612418 q572540) 11).toInt = p612457.toInt := by rw [he612452]; rfl
                      have bp612457 : gB p612457 0 100 := (hB612496.2.2.1)
                      have ac612499 : (fI (F612418 q572540) 14).toInt = p612460.toInt := by rw [he612452]; rfl
                      have bp612460 : gB p612460 0 2000 := (hB612496.2.2.2.1)
                      have hm612500 : q612416 ∈ P612417 := RS_m hT612419 ht612427 (by decide)
                      obtain ⟨p612502, p612503, p612504, p612505, p612506, p612507, p612508, he612501, bp612502, bp612503, bp612506, bp612507, bp612508, r612509, r612510, r612511, r612512, r612513⟩ := show rk_1 γ q612416 (F612418 q612416) from RS_o hT612419 ht612427
                      have bp612504 := gB_any p612504
                      have bp612505 := gB_any p612505
                      replace r612509 : gH _ := r612509
                      replace r612510 : gH _ := r612510
                      replace r612511 : gH _ := r612511
                      replace r612512 : gH _ := r612512
                      replace r612513 : gH _ := r612513
                      have r612514 : γ 7 (γ 1 q612416) = γ 7 f := by rw [hf612428]
                      refine G_aload 5 dr_cX17_spill_292 rfl ?_
                      refine Gw_callV (As := []) (gV_ok D I) (cp_398616_Row_sets l hl0 D I P612417 F612418 q612416 p612502 p612503 p612504 p612505 p612506 p612507 p612508 hm612500 he612501 bp612502 bp612503 bp612506 bp612507 bp612508) dr_cX17_spill_294 ⟨wr_10_181, wr_1_39, wr_10_184, by decide, rfl, (Nat.le_of_ble_eq_true rfl), (Nat.le_of_ble_eq_true rfl)⟩ wr_10_182 wr_10_183 hm612500 he612501 rfl (rm_zc pk612449) (rm_zs pk612449) (Nat.le_of_ble_eq_true rfl) (fun r612518 w612519 dc612515 ds612516 hp612517 => ?_) (fun _ _ _ _ _ z => z.elim)
                      obtain ⟨o612520, rfl, rfl, hdc, hds, bo612520, x612521⟩ := hp612517
                      change G _ _ _ _ _ _ _ (.int o612520 :: _) _ _ _
                      refine G_widen (cs' := ((rPh γ el f - rPh γ0 el0 f) / 18)) (sl' := (rPh γ el f - rPh γ0 el0 f)) (rm_d0 hdc) (rm_d0 hds) ?_
                      refine G_if_eq 419 dr_cX17_spill_297 (by decide +kernel) (fun hc612522 => ?_) (fun hc612522 => ?_)
                      · have r612523 : o612520.toInt = 0 := gj_eq hc612522 (show Int32.toInt 0 = 0 by decide)
                        have bo612520' : gB o612520 0 0 := gB_t0 r612523
                        have rn612525 : rNx (nSp (cB (F572539 (γ0 9 3))) (cB (F607408 (γ0 9 19)))) (F612418 q612416) := rS2_n he612501 he612501 x612438 (fun h => (uS_0 x612521 (by omega) h).elim)
                        have pl612524 := sp_fin x612436 x612437 rn612525 (rfl : (g612415.toInt : Int).toNat + 1 = (g612415.toInt : Int).toNat + 1)
                        obtain ⟨z612526, hz612526⟩ : ∃ z : Int32, z = g612415 + Int32.ofInt 1 := ⟨_, rfl⟩
                        have ez612526 : z612526.toInt = g612415.toInt + 1 := gI_inc hz612526 (by decide) bg612415 (by decide) (by decide)
                        have bz612526 : gB z612526 1 1000002 := ⟨by omega, by omega⟩
                        refine G_iinc (L' := [(4, .int z612526), (0, .ref q572540), (1, .ref q572541), (2, .int g610659), (3, .ref q610799), (5, .ref q612416)]) z612526 4 dr_cX17_spill_419 rfl hz612526.symm (Nat.le_of_ble_eq_true rfl) rfl ?_
                        refine G_goto 90 dr_cX17_spill_422 (by decide +kernel) ?_
                        refine G_lv (L' := [(4, .int z612526), (3, .ref q610799), (2, .int g610659), (0, .ref q572540), (1, .ref q572541)]) [0, 4, 3, 1, 2] rfl ?_
                        have ac612527 : (fI (F612418 q572540) 11).toInt = p612457.toInt := by rw [he612452]; rfl
                        have ac612528 : (fI (F612418 q572540) 14).toInt = p612460.toInt := by rw [he612452]; rfl
                        exact ih90_612316 P612417 F612418 γ el z612526 (gB_w bz612526 (by decide) (by decide)) hT612419 hs612420 hph612421 hB612422 ht612423 hf612424 r612425 r612426 (by omega) (by omega) (by omega) (by omega) (by omega) (by omega) x612435 (by rw [(show (z612526.toInt : Int).toNat = ((g612415.toInt : Int).toNat + 1) from tn_eq1 (by omega) (by omega))]; exact pl612524) (by omega) (by omega) x612443 x612444 (ms_g x612441 (by omega) (by omega) (by omega))
                      · have r612529 : o612520.toInt ≠ 0 := gj_neq hc612522 (show Int32.toInt 0 = 0 by decide)
                        have bo612520' : gB o612520 1 1 := gB_t1 bo612520 r612529
                        refine G_aload 5 dr_cX17_spill_300 rfl ?_
                        refine Gp_get 0 hm612500 he612501 dr_cX17_spill_302 (gk_X15 D I) (Nat.le_of_ble_eq_true rfl) wr_9_177 rfl ?_
                        refine G_bipush 21 dr_cX17_spill_305 (by decide +kernel) ?_
                        refine G_icmp_eq 419 dr_cX17_spill_307 (by decide +kernel) (fun hc612530 => ?_) (fun hc612530 => ?_)
                        · have r612531 : p612502.toInt = 21 := gj_eq hc612530 (show Int32.toInt 21 = 21 by decide)
                          have bp612502' : gB p612502 21 21 := ⟨by omega, by omega⟩
                          have rn612533 : rNx (nSp (cB (F572539 (γ0 9 3))) (cB (F607408 (γ0 9 19)))) (F612418 q612416) := rS2_n he612501 he612501 x612438 (fun _ => Or.inr ⟨rfl, Or.inl (by omega)⟩)
                          have pl612532 := sp_fin x612436 x612437 rn612533 (rfl : (g612415.toInt : Int).toNat + 1 = (g612415.toInt : Int).toNat + 1)
                          obtain ⟨z612534, hz612534⟩ : ∃ z : Int32, z = g612415 + Int32.ofInt 1 := ⟨_, rfl⟩
                          have ez612534 : z612534.toInt = g612415.toInt + 1 := gI_inc hz612534 (by decide) bg612415 (by decide) (by decide)
                          have bz612534 : gB z612534 1 1000002 := ⟨by omega, by omega⟩
                          refine G_iinc (L' := [(4, .int z612534), (0, .ref q572540), (1, .ref q572541), (2, .int g610659), (3, .ref q610799), (5, .ref q612416)]) z612534 4 dr_cX17_spill_419 rfl hz612534.symm (Nat.le_of_ble_eq_true rfl) rfl ?_
                          refine G_goto 90 dr_cX17_spill_422 (by decide +kernel) ?_
                          refine G_lv (L' := [(4, .int z612534), (3, .ref q610799), (2, .int g610659), (0, .ref q572540), (1, .ref q572541)]) [0, 4, 3, 1, 2] rfl ?_
                          have ac612535 : (fI (F612418 q572540) 11).toInt = p612457.toInt := by rw [he612452]; rfl
                          have ac612536 : (fI (F612418 q572540) 14).toInt = p612460.toInt := by rw [he612452]; rfl
                          exact ih90_612316 P612417 F612418 γ el z612534 (gB_w bz612534 (by decide) (by decide)) hT612419 hs612420 hph612421 hB612422 ht612423 hf612424 r612425 r612426 (by omega) (by omega) (by omega) (by omega) (by omega) (by omega) x612435 (by rw [(show (z612534.toInt : Int).toNat = ((g612415.toInt : Int).toNat + 1) from tn_eq1 (by omega) (by omega))]; exact pl612532) (by omega) (by omega) x612443 x612444 (ms_g x612441 (by omega) (by omega) (by omega))
                        · have r612537 : p612502.toInt ≠ 21 := gj_neq hc612530 (show Int32.toInt 21 = 21 by decide)
                          refine G_aload_n 0 dr_cX17_spill_310 rfl ?_
                          refine Gp_get 19 hm612451 he612452 dr_cX17_spill_311 (gk_X17 D I) (Nat.le_of_ble_eq_true rfl) wr_7_93 rfl ?_
                          refine G_aload 5 dr_cX17_spill_314 rfl ?_
                          refine Gp_get 1 hm612500 he612501 dr_cX17_spill_316 (gk_X15 D I) (Nat.le_of_ble_eq_true rfl) wr_9_182 rfl ?_
                          have hm612538 : (γ 9 19) ∈ P612417 := RS_m hT612419 ht612485 (by decide)
                          obtain ⟨f612540, he612539, bf612540⟩ := show rk_21 I (F612418 (γ 9 19)) from RS_o hT612419 ht612485
                          refine Gp_iald 0 hm612538 he612539 dr_cX17_spill_319 rfl (gB_in bp612503 (by decide) (by decide)) (G_nam fun z612541 hz612541 => ?_)
                          have bz612541 : gB z612541 (-1) 1999 := by rw [hz612541]; exact bf612540 _
                          have c9_612542 : cB (F607408 (γ0 9 19)) = f612540 := by rw [← x612435, ← congrFun (rSk_9 hs612420) 19]; exact cB_of he612539
                          have hs612543 : (cB (F607408 (γ0 9 19)) p612503.toInt.toNat).toInt = z612541.toInt := by rw [c9_612542, hz612541]; rfl
                          refine G_if_ge 326 dr_cX17_spill_320 (by decide +kernel) (fun hc612545 => ?_) (fun hc612545 => ?_)
                          · have r612546 : 0 ≤ z612541.toInt := gj_leL hc612545 (show Int32.toInt 0 = 0 by decide)
                            have bz612541' : gB z612541 0 1999 := ⟨by omega, by omega⟩
                            refine G_aload_n 0 dr_cX17_spill_326 rfl ?_
                            refine Gp_get 19 hm612451 he612452 dr_cX17_spill_327 (gk_X17 D I) (Nat.le_of_ble_eq_true rfl) wr_7_93 rfl ?_
                            refine G_aload 5 dr_cX17_spill_330 rfl ?_
                            refine Gp_get 1 hm612500 he612501 dr_cX17_spill_332 (gk_X15 D I) (Nat.le_of_ble_eq_true rfl) wr_9_182 rfl ?_
                            refine Gp_iald 0 hm612538 he612539 dr_cX17_spill_335 rfl (gB_in bp612503 (by decide) (by decide)) (G_eqi (y := z612541) hz612541.symm ?_)
                            have r612547 := (spi607493.2.2.2 p612503.toInt.toNat (tn_lt (by omega) (by omega)) (by omega)).2.2
                            refine G_istore (L' := [(8, .int z612541), (0, .ref q572540), (1, .ref q572541), (2, .int g610659), (3, .ref q610799), (4, .int g612415), (5, .ref q612416)]) dr_cX17_spill_336 (Nat.le_of_ble_eq_true rfl) rfl ?_
                            refine G_aload_n 1 dr_cX17_spill_338 rfl ?_
                            refine Gp_get 14 hm612451 he612452 dr_cX17_spill_339 (gk_X17 D I) (Nat.le_of_ble_eq_true rfl) wr_7_88 rfl ?_
                            refine G_sipush 2000 dr_cX17_spill_342 (by decide +kernel) ?_
                            refine G_icmp_ne 350 dr_cX17_spill_345 (by decide +kernel) (fun hc612548 => ?_) (fun hc612548 => ?_)
                            · have r612549 : p612460.toInt ≠ 2000 := gj_neq hc612548 (show Int32.toInt 2000 = 2000 by decide)
                              have bp612460' : gB p612460 0 1999 := ⟨by omega, by omega⟩
                              have r612550 := eO_r x612442 (by rw [he612501]; rfl) (uS_1 x612521 (by omega))
                              refine G_aload 6 dr_cX17_spill_350 rfl ?_
                              refine G_aload_n 1 dr_cX17_spill_352 rfl ?_
                              refine Gp_get 14 hm612451 he612452 dr_cX17_spill_353 (gk_X17 D I) (Nat.le_of_ble_eq_true rfl) wr_7_88 rfl ?_
                              refine Gp_put 1 hm612500 he612501 dr_cX17_spill_356 (gk_X15 D I) (Nat.le_of_ble_eq_true rfl) wr_9_182 rfl rfl rfl (Nat.le_of_ble_eq_true rfl) (fun F612551 e612552 n612553 => ?_)
                              have r612554 := rk1_at hT612419 ht612427 he612501
                              have he612555 : F612551 q572540 = .inr (22, [.ref (γ 9 0), .ref (γ 9 1), .ref (γ 9 2), .ref (γ 9 3), .ref (γ 9 4), .ref (γ 9 5), .ref (γ 9 6), .ref (γ 9 7), .ref (γ 9 8), .int p612455, .int p612456, .int p612457, .int p612458, .int p612459, .int p612460, .ref (γ 9 15), .ref (γ 9 16), .ref (γ 9 17), .ref (γ 9 18), .ref (γ 9 19), .ref (γ 9 20), .ref (γ 9 21), .ref (γ 9 22), .int p612461, .int p612462, .int p612463, .int p612464, .int p612465, .ref q612453, .ref (γ 9 29), .int p612466, .ref (γ 9 31), .int p612467, .int p612468, .int p612469, .ref q612454]) := (n612553 q572540 (rn_oo he612452 he612501 (by decide))).trans he612452
                              have he612556 : F612551 (γ 9 19) = .inl (I .int, 2000, .inl f612540) := (n612553 (γ 9 19) (rn_ao he612539 he612501)).trans he612539
                              have he612557 : F612551 q612416 = .inr (20, [.int p612502, .int p612460, .int p612504, .int p612505, .int p612506, .int p612507, .int p612508]) := e612552
                              have mk612558 : mKp (F572539 q572540) (F612551 q572540) := mKp_tr x612444 (mKp_eq (n612553 q572540 (rn_ty ht612446 ht612427 (by decide))))
                              have kp612559 : F612551 (γ0 9 3) = F572539 (γ0 9 3) := (n612553 (γ0 9 3) (rn_ty (rSk_k hs612420 k0_3 (by decide) (by decide)) ht612427 (by decide))).trans x612443
                              have kp612560 : F612551 (γ0 9 19) = F607408 (γ0 9 19) := (n612553 (γ0 9 19) (rn_ty (rSk_k hs612420 k0_19 (by decide) (by decide)) ht612427 (by decide))).trans x612435
                              have hT612561 : RS D I P612417 F612551 γ el := RS_set hT612419 n612553 ht612427 (by decide) ⟨p612502, p612460, p612504, p612505, p612506, p612507, p612508, he612557, bp612502, bp612460', bp612506, bp612507, bp612508, (gHe r612509), (gHe r612510), (gHe r612511), r612554.1, r612554.2⟩
                              have hs612563 := rSk_put hs612420 hT612561 n612553 ht612427 (by decide) (by decide)
                              have hm612565 : q610799 ∈ P612417 := RS_m hT612561 ht612423 (by decide)
                              obtain ⟨q612567, q612568, p612569, p612570, he612566, ht612577, ht612571, ht612572, ht612573, ht612574, ht612575, bp612569, bp612570, r612576, r612578, r612579⟩ := show rk_2 γ q610799 (F612551 q610799) from RS_o hT612561 ht612423
                              have hf612580 : γ 1 q612567 = f := (show γ 1 q612567 = γ 1 q610799 from ht612572).trans hf612424
                              have hf612581 : γ 1 q612568 = f := (show γ 1 q612568 = γ 1 q610799 from ht612574).trans hf612424
                              have r612582 : γ 6 (γ 1 q610799) = γ 6 f := by rw [hf612424]
                              have r612583 : γ 7 (γ 1 q610799) = γ 7 f := by rw [hf612424]
                              have r612584 : γ 19 (γ 1 q610799) = γ 19 f := by rw [hf612424]
                              have r612585 := r612576.resolve_left (by omega)
                              clear r612576
                              have r612586 : γ 2 (γ 14 q610799) = γ 2 q612567 := by rw [ht612577.1]
                              have pl612564 := sp_put hT612419 ht612447 hf612448 x612436 n612553 x612437 (show (g610659.toInt : Int).toNat < γ 6 f from tn_lt (by omega) (by omega)) (by unfold rwL; rw [r612426]; exact tn_le0 (by omega) (by omega))
                              have rn612588 : rNx (nSp (cB (F572539 (γ0 9 3))) (cB (F607408 (γ0 9 19)))) (F612551 q612416) := rS2_n he612501 he612557 x612438 (fun _ => Or.inl (by omega))
                              have pl612587 := sp_fin pl612564 x612437 rn612588 (rfl : (g612415.toInt : Int).toNat + 1 = (g612415.toInt : Int).toNat + 1)
                              refine G_aload_n 1 dr_cX17_spill_359 rfl ?_
                              refine G_dup dr_cX17_spill_360 rfl ?_
                              refine Gp_get 14 hm612451 he612555 dr_cX17_spill_361 (gk_X17 D I) (Nat.le_of_ble_eq_true rfl) wr_7_88 rfl ?_
                              refine G_iconst 1 dr_cX17_spill_364 (by decide +kernel) ?_
                              refine G_iadd dr_cX17_spill_365 (G_nam fun z612589 hz612589 => ?_)
                              have ez612589 : z612589.toInt = p612460.toInt + 1 := by rw [gI_add hz612589 bp612460' (gBl (show Int32.toInt 1 = 1 by decide)) (by decide) (by decide), show Int32.toInt 1 = 1 from by decide]
                              have bz612589 : gB z612589 1 2000 := gB_add (gI_add hz612589 bp612460' (gBl (show Int32.toInt 1 = 1 by decide)) (by decide) (by decide)) bp612460' (gBl (show Int32.toInt 1 = 1 by decide)) (by decide) (by decide)
                              refine Gp_put 14 hm612451 he612555 dr_cX17_spill_366 (gk_X17 D I) (Nat.le_of_ble_eq_true rfl) wr_7_88 rfl rfl rfl (Nat.le_of_ble_eq_true rfl) (fun F612590 e612591 n612592 => ?_)
                              have he612593 : F612590 q612416 = .inr (20, [.int p612502, .int p612460, .int p612504, .int p612505, .int p612506, .int p612507, .int p612508]) := (n612592 q612416 (rn_oo he612557 he612555 (by decide))).trans he612557
                              have he612594 : F612590 (γ 9 19) = .inl (I .int, 2000, .inl f612540) := (n612592 (γ 9 19) (rn_ao he612556 he612555)).trans he612556
                              have he612595 : F612590 q610799 = .inr (17, [.ref q612567, .ref q612568, .int p612569, .int p612570]) := (n612592 q610799 (rn_oo he612566 he612555 (by decide))).trans he612566
                              have he612596 : F612590 q572540 = .inr (22, [.ref (γ 9 0), .ref (γ 9 1), .ref (γ 9 2), .ref (γ 9 3), .ref (γ 9 4), .ref (γ 9 5), .ref (γ 9 6), .ref (γ 9 7), .ref (γ 9 8), .int p612455, .int p612456, .int p612457, .int p612458, .int p612459, .int z612589, .ref (γ 9 15), .ref (γ 9 16), .ref (γ 9 17), .ref (γ 9 18), .ref (γ 9 19), .ref (γ 9 20), .ref (γ 9 21), .ref (γ 9 22), .int p612461, .int p612462, .int p612463, .int p612464, .int p612465, .ref q612453, .ref (γ 9 29), .int p612466, .ref (γ 9 31), .int p612467, .int p612468, .int p612469, .ref q612454]) := e612591
                              have mk612597 : mKp (F572539 q572540) (F612590 q572540) := mKp_tr mk612558 (by rw [he612555, he612596]; exact ⟨rfl, rfl⟩)
                              have kp612598 : F612590 (γ0 9 3) = F572539 (γ0 9 3) := (n612592 (γ0 9 3) (rn_ty (rSk_k hs612563 k0_3 (by decide) (by decide)) ht612446 (by decide))).trans kp612559
                              have kp612599 : F612590 (γ0 9 19) = F607408 (γ0 9 19) := (n612592 (γ0 9 19) (rn_ty (rSk_k hs612563 k0_19 (by decide) (by decide)) ht612446 (by decide))).trans kp612560
                              have hT612600 : RS D I P612417 F612590 γ el := RS_set hT612561 n612592 ht612446 (by decide) ⟨q612453, q612454, p612455, p612456, p612457, p612458, p612459, z612589, p612461, p612462, p612463, p612464, p612465, p612466, p612467, p612468, p612469, he612596, ⟨(hB612496.1), (hB612496.2.1), bp612457, (gB_w bz612589 (by decide) (by decide)), (hB612496.2.2.2.2.1), (hB612496.2.2.2.2.2.1), (hB612496.2.2.2.2.2.2.1), (hB612496.2.2.2.2.2.2.2.1), (hB612496.2.2.2.2.2.2.2.2)⟩, ht612470, ht612471, ht612472, ht612473, ht612474, ht612475, ht612476, ht612477, ht612478, ht612479, ht612480, ht612481, ht612482, ht612483, ht612484, ht612485, ht612486, ht612487, ht612488, ht612489, ht612490, ht612491, ht612492, ht612493, hB612497⟩
                              have hs612602 := rSk_put hs612563 hT612600 n612592 ht612446 (by decide) (by decide)
                              have pl612603 := rPl_fr hT612561 ht612447 hf612448 pl612587 (fun b hb _ => n612592 b (rn_ty (show rKd γ b 1 from hb) ht612446 (by decide)))
                              have ac612604 : (fI (F612590 q572540) 11).toInt = p612457.toInt := by rw [he612596]; rfl
                              have ac612605 : (fI (F612590 q572540) 14).toInt = z612589.toInt := by rw [he612596]; rfl
                              refine G_aload_n 2 dr_cX17_spill_369 rfl ?_
                              have rg612606 := rM_ge hT612600 ht612447 hf612448
                              have rm612607 := rM_bd hB612422
                              have bd612608 := rBd_c hT612600 ht612447 hf612448 hB612422
                              have rc612609 := rc_at hT612600 ht612447 hf612448
                              obtain ⟨q612616, hl612617⟩ : ∃ z, z = γ 14 q610799 := ⟨_, rfl⟩
                              have hl612618 : γ 0 q612616 = 3 ∨ γ 0 q612616 = 103 := by rw [hl612617, ← r612426]; exact (RS_lst hT612600 rc612609.2.1 r612425).1
                              refine Gt_row (c := q572541) (f := f) hl0 dr_cX17_spill_370 ⟨wr_10_206, wr_1_15, wr_10_82, by decide, rfl, (Nat.le_of_ble_eq_true rfl), (Nat.le_of_ble_eq_true rfl)⟩ wr_10_80 wr_10_81 hT612600 ht612447 hf612448 (Nat.le_trans bd612608.2.2.1 (Nat.le_trans hBk (by decide))) (rm_cs hph612421 rg612606.2.1 rm612607 (by decide)) (rm_sl hph612421 rg612606.2.1 rm612607 rm_s18) (Nat.le_of_ble_eq_true rfl) (fun P612610 F612611 γ el q612612 dc612613 ds612614 hq612615 => ?_)
                              have pl612619 := rPl_row hT612600 ht612447 hf612448 hq612615 pl612603
                              obtain ⟨hk612620, x0612621, x1612622, x22612623, x8612624, h16612625, h18612626, hnu612627, hot612628, h45612629, hf0612630, ⟨hr1612631, hr2612632⟩, hM612633, hBB612634⟩ := hq612615
                              have hk612635 := rSk_of hk612620
                              obtain ⟨nu612636, nu612637, nu612638, nu612639⟩ := hnu612627
                              have hT612640 := hk612635.1
                              have hs612641 := rSk_tr hs612602 hk612635 (by decide) (by decide) (by decide)
                              have kp612642 : F612611 (γ0 9 3) = F572539 (γ0 9 3) := (rSk_F hk612635 (rSk_k hs612602 k0_3 (by decide) (by decide)) (by decide) (by decide)).trans kp612598
                              have kp612643 : F612611 (γ0 9 19) = F607408 (γ0 9 19) := (rSk_F hk612635 (rSk_k hs612602 k0_19 (by decide) (by decide)) (by decide) (by decide)).trans kp612599
                              have r612644 := rSk_F hk612635 ht612446 (by decide) (by decide)
                              have ht612645 : rKd γ q572540 10 := rSk_k hk612635 ht612446 (by decide) (by decide)
                              have ht612646 : rKd γ q572541 9 := rSk_k hk612635 ht612447 (by decide) (by decide)
                              have hf612647 : γ 1 q572541 = f := rSk_1 hk612635 ht612447 (by decide) hf612448
                              have ht612648 : rKd γ q610799 2 := rSk_k hk612635 ht612423 (by decide) (by decide)
                              have hf612649 : γ 1 q610799 = f := rSk_1 hk612635 ht612423 (by decide) hf612424
                              have ht612650 : rKd γ q612416 1 := rSk_k hk612635 ht612427 (by decide) (by decide)
                              have hf612651 : γ 1 q612416 = f := rSk_1 hk612635 ht612427 (by decide) hf612428
                              have ht612652 : rKd γ q612567 3 := rSk_k hk612635 ht612571 (by decide) (by decide)
                              have hf612653 : γ 1 q612567 = f := rSk_1 hk612635 ht612571 (by decide) hf612580
                              have mk612654 : mKp (F572539 q572540) (F612611 q572540) := mKp_tr mk612597 (mKp_eq (rSk_F hk612635 ht612446 (by decide) (by decide)))
                              have r612655 := (rSk_s hk612635 ht612447 (by decide)).2.1
                              have r612656 := hot612628 _ (by rw [rc612609.2.1]; decide) (by rw [rc612609.2.1]; decide)
                              have r612657 : g610659.toInt.toNat < γ 2 (γ 14 q572541) := by rw [r612655, r612656.1]; exact r612425
                              have r612658 : el (γ 14 q572541) g610659.toInt.toNat = q610799 := by rw [r612655, r612656.2]; exact r612426
                              have he612659 : F612611 q612416 = .inr (20, [.int p612502, .int p612460, .int p612504, .int p612505, .int p612506, .int p612507, .int p612508]) := (rSk_F hk612635 ht612427 (by decide) (by decide)).trans he612593
                              have hm612660 : q612416 ∈ P612610 := RS_m hT612640 ht612650 (by decide)
                              clear bp612569 bp612570 r612578 r612579 rg612606 rm612607 bd612608 rc612609
                              have hm612661 : q572540 ∈ P612610 := RS_m hT612640 ht612645 (by decide)
                              refine rk10_e (show rk_10 γ (F612611 q572540) from RS_o hT612640 ht612645) (fun q612663 q612664 p612665 p612666 p612667 p612668 p612669 p612670 p612671 p612672 p612673 p612674 p612675 p612676 p612677 p612678 p612679 he612662 hB612706 ht612680 ht612681 ht612682 ht612683 ht612684 ht612685 ht612686 ht612687 ht612688 ht612689 ht612690 ht612691 ht612692 ht612693 ht612694 ht612695 ht612696 ht612697 ht612698 ht612699 ht612700 ht612701 ht612702 ht612703 hB612707 => ?_)
                              have r612708 : p612667.toInt = p612457.toInt := by have z : p612667 = p612457 := congrArg (fun e => fI e 11) (he612662.symm.trans (r612644.trans he612596)); rw [z]
                              have bp612667 : gB p612667 0 100 := (hB612706.2.2.1)
                              have r612709 : p612670.toInt = z612589.toInt := by have z : p612670 = z612589 := congrArg (fun e => fI e 14) (he612662.symm.trans (r612644.trans he612596)); rw [z]
                              have bp612670 : gB p612670 0 2000 := (hB612706.2.2.2.1)
                              have bp612670' : gB p612670 1 2000 := ⟨by omega, by omega⟩
                              have sz612710 := (rSk_s hk612635 ht612423 (by decide)).2.1
                              have sz612711 := congrArg (γ 2) sz612710
                              have sz612712 := (hot612628 q612616 (by omega) (by omega)).1
                              rw [hl612617] at sz612712
                              clear hl612618
                              have sz612713 := (hot612628 q612567 (rT0 ht612571 (by decide)) (by rw [show _ = 3 from ht612571]; decide)).1
                              have r612714 := hf0612630.2.2
                              have hB612715 : rBd γ el f B := hBB612634 B (by omega) hB612422
                              have ht612716 : rKd γ q612612 101 := x0612621
                              have r612717 : γ 8 q612612 < γ 16 f := rm_x8 x8612624 h16612625 rfl
                              have hph612718 : rPh γ0 el0 f ≤ rPh γ el f := rm_ph hph612421 hr2612632
                              have pk612719 : rPh γ el f ≤ 387 * B + 6000 := rm_pk (rM_ge hT612640 ht612646 hf612647).1 (rM_bd hB612715)
                              have hm612720 : q612612 ∈ P612610 := RS_m hT612640 ht612716 (by decide)
                              obtain ⟨p612722, p612723, p612724, p612725, p612726, p612727, p612728, he612721, bp612722, bp612723, bp612726, bp612727, bp612728, r612729, r612730, r612731⟩ := show rkR (F612611 q612612) from RS_o hT612640 ht612716
                              have bp612724 := gB_any p612724
                              have bp612725 := gB_any p612725
                              replace r612729 : gH _ := r612729
                              replace r612730 : gH _ := r612730
                              replace r612731 : gH _ := r612731
                              have r612732 : γ 7 (γ 1 q612612) = γ 7 f := by rw [x1612622]
                              have r612733 : p612727.toInt = 0 := by have z := hf0612630.1; rw [he612721] at z; exact z
                              have bp612727' : gB p612727 0 0 := gB_t0 r612733
                              have r612734 : p612728.toInt = 0 := by have z := hf0612630.2.1; rw [he612721] at z; exact z
                              have bp612728' : gB p612728 0 0 := gB_t0 r612734
                              refine G_widen (cs' := ((rPh γ el f - rPh γ0 el0 f) / 18)) (sl' := (rPh γ el f - rPh γ0 el0 f)) (rm_wc hph612421 hr1612631) (rm_ws hph612421 hr2612632) ?_
                              refine G_astore (L' := [(9, .ref q612612), (8, .int z612541), (0, .ref q572540), (1, .ref q572541), (2, .int g610659), (3, .ref q610799), (4, .int g612415), (5, .ref q612416)]) dr_cX17_spill_373 (Nat.le_of_ble_eq_true rfl) rfl ?_
                              refine G_aload 0 dr_cX17_spill_375 rfl ?_
                              refine G_bipush 23 dr_cX17_spill_377 (by decide +kernel) ?_
                              refine Gp_put 0 hm612720 he612721 dr_cX17_spill_379 (gk_X15 D I) (Nat.le_of_ble_eq_true rfl) wr_9_177 rfl rfl rfl (Nat.le_of_ble_eq_true rfl) (fun F612735 e612736 n612737 => ?_)
                              have he612738 : F612735 q612416 = .inr (20, [.int p612502, .int p612460, .int p612504, .int p612505, .int p612506, .int p612507, .int p612508]) := (n612737 q612416 (rn_ty ht612650 ht612716 (by decide))).trans he612659
                              have he612739 : F612735 q572540 = .inr (22, [.ref (γ 9 0), .ref (γ 9 1), .ref (γ 9 2), .ref (γ 9 3), .ref (γ 9 4), .ref (γ 9 5), .ref (γ 9 6), .ref (γ 9 7), .ref (γ 9 8), .int p612665, .int p612666, .int p612667, .int p612668, .int p612669, .int p612670, .ref (γ 9 15), .ref (γ 9 16), .ref (γ 9 17), .ref (γ 9 18), .ref (γ 9 19), .ref (γ 9 20), .ref (γ 9 21), .ref (γ 9 22), .int p612671, .int p612672, .int p612673, .int p612674, .int p612675, .ref q612663, .ref (γ 9 29), .int p612676, .ref (γ 9 31), .int p612677, .int p612678, .int p612679, .ref q612664]) := (n612737 q572540 (rn_oo he612662 he612721 (by decide))).trans he612662
                              have he612740 : F612735 q612612 = .inr (20, [.int 23, .int p612723, .int p612724, .int p612725, .int p612726, .int p612727, .int p612728]) := e612736
                              have mk612741 : mKp (F572539 q572540) (F612735 q572540) := mKp_tr mk612654 (mKp_eq (n612737 q572540 (rn_ty ht612645 ht612716 (by decide))))
                              have kp612742 : F612735 (γ0 9 3) = F572539 (γ0 9 3) := (n612737 (γ0 9 3) (rn_ty (rSk_k hs612641 k0_3 (by decide) (by decide)) ht612716 (by decide))).trans kp612642
                              have kp612743 : F612735 (γ0 9 19) = F607408 (γ0 9 19) := (n612737 (γ0 9 19) (rn_ty (rSk_k hs612641 k0_19 (by decide) (by decide)) ht612716 (by decide))).trans kp612643
                              refine G_aload 0 dr_cX17_spill_382 rfl ?_
                              refine G_iload 1 dr_cX17_spill_384 rfl ?_
                              refine Gp_put 4 hm612720 he612740 dr_cX17_spill_386 (gk_X15 D I) (Nat.le_of_ble_eq_true rfl) wr_9_193 rfl rfl rfl (Nat.le_of_ble_eq_true rfl) (fun F612744 e612745 n612746 => ?_)
                              have he612747 : F612744 q612416 = .inr (20, [.int p612502, .int p612460, .int p612504, .int p612505, .int p612506, .int p612507, .int p612508]) := (n612746 q612416 (rn_ty ht612650 ht612716 (by decide))).trans he612738
                              have he612748 : F612744 q572540 = .inr (22, [.ref (γ 9 0), .ref (γ 9 1), .ref (γ 9 2), .ref (γ 9 3), .ref (γ 9 4), .ref (γ 9 5), .ref (γ 9 6), .ref (γ 9 7), .ref (γ 9 8), .int p612665, .int p612666, .int p612667, .int p612668, .int p612669, .int p612670, .ref (γ 9 15), .ref (γ 9 16), .ref (γ 9 17), .ref (γ 9 18), .ref (γ 9 19), .ref (γ 9 20), .ref (γ 9 21), .ref (γ 9 22), .int p612671, .int p612672, .int p612673, .int p612674, .int p612675, .ref q612663, .ref (γ 9 29), .int p612676, .ref (γ 9 31), .int p612677, .int p612678, .int p612679, .ref q612664]) := (n612746 q572540 (rn_oo he612739 he612740 (by decide))).trans he612739
                              have he612749 : F612744 q612612 = .inr (20, [.int 23, .int p612723, .int p612724, .int p612725, .int z612541, .int p612727, .int p612728]) := e612745
                              have mk612750 : mKp (F572539 q572540) (F612744 q572540) := mKp_tr mk612741 (mKp_eq (n612746 q572540 (rn_ty ht612645 ht612716 (by decide))))
                              have n612751 : ∀ b, b ≠ q612612 → F612744 b = F612611 b := fun b hb => (n612746 b hb).trans (n612737 b hb)
                              have kp612752 : F612744 (γ0 9 3) = F572539 (γ0 9 3) := (n612746 (γ0 9 3) (rn_ty (rSk_k hs612641 k0_3 (by decide) (by decide)) ht612716 (by decide))).trans kp612742
                              have kp612753 : F612744 (γ0 9 19) = F607408 (γ0 9 19) := (n612746 (γ0 9 19) (rn_ty (rSk_k hs612641 k0_19 (by decide) (by decide)) ht612716 (by decide))).trans kp612743
                              refine G_aload 0 dr_cX17_spill_389 rfl ?_
                              refine G_aload 7 dr_cX17_spill_391 rfl ?_
                              refine Gp_get 1 hm612660 he612747 dr_cX17_spill_393 (gk_X15 D I) (Nat.le_of_ble_eq_true rfl) wr_9_182 rfl ?_
                              refine Gp_put 2 hm612720 he612749 dr_cX17_spill_396 (gk_X15 D I) (Nat.le_of_ble_eq_true rfl) wr_9_186 rfl rfl rfl (Nat.le_of_ble_eq_true rfl) (fun F612754 e612755 n612756 => ?_)
                              have he612757 : F612754 q612416 = .inr (20, [.int p612502, .int p612460, .int p612504, .int p612505, .int p612506, .int p612507, .int p612508]) := (n612756 q612416 (rn_ty ht612650 ht612716 (by decide))).trans he612747
                              have he612758 : F612754 q572540 = .inr (22, [.ref (γ 9 0), .ref (γ 9 1), .ref (γ 9 2), .ref (γ 9 3), .ref (γ 9 4), .ref (γ 9 5), .ref (γ 9 6), .ref (γ 9 7), .ref (γ 9 8), .int p612665, .int p612666, .int p612667, .int p612668, .int p612669, .int p612670, .ref (γ 9 15), .ref (γ 9 16), .ref (γ 9 17), .ref (γ 9 18), .ref (γ 9 19), .ref (γ 9 20), .ref (γ 9 21), .ref (γ 9 22), .int p612671, .int p612672, .int p612673, .int p612674, .int p612675, .ref q612663, .ref (γ 9 29), .int p612676, .ref (γ 9 31), .int p612677, .int p612678, .int p612679, .ref q612664]) := (n612756 q572540 (rn_oo he612748 he612749 (by decide))).trans he612748
                              have he612759 : F612754 q612612 = .inr (20, [.int 23, .int p612723, .int p612460, .int p612725, .int z612541, .int p612727, .int p612728]) := e612755
                              have mk612760 : mKp (F572539 q572540) (F612754 q572540) := mKp_tr mk612750 (mKp_eq (n612756 q572540 (rn_ty ht612645 ht612716 (by decide))))
                              have n612761 : ∀ b, b ≠ q612612 → F612754 b = F612611 b := fun b hb => (n612756 b hb).trans (n612751 b hb)
                              have kp612762 : F612754 (γ0 9 3) = F572539 (γ0 9 3) := (n612756 (γ0 9 3) (rn_ty (rSk_k hs612641 k0_3 (by decide) (by decide)) ht612716 (by decide))).trans kp612752
                              have kp612763 : F612754 (γ0 9 19) = F607408 (γ0 9 19) := (n612756 (γ0 9 19) (rn_ty (rSk_k hs612641 k0_19 (by decide) (by decide)) ht612716 (by decide))).trans kp612753
                              refine G_aload 0 dr_cX17_spill_399 rfl ?_
                              refine G_iconst 1 dr_cX17_spill_401 (by decide +kernel) ?_
                              refine Gp_put 5 hm612720 he612759 dr_cX17_spill_402 (gk_X15 D I) (Nat.le_of_ble_eq_true rfl) wr_9_197 rfl rfl rfl (Nat.le_of_ble_eq_true rfl) (fun F612764 e612765 n612766 => ?_)
                              have he612767 : F612764 q612416 = .inr (20, [.int p612502, .int p612460, .int p612504, .int p612505, .int p612506, .int p612507, .int p612508]) := (n612766 q612416 (rn_ty ht612650 ht612716 (by decide))).trans he612757
                              have he612768 : F612764 q572540 = .inr (22, [.ref (γ 9 0), .ref (γ 9 1), .ref (γ 9 2), .ref (γ 9 3), .ref (γ 9 4), .ref (γ 9 5), .ref (γ 9 6), .ref (γ 9 7), .ref (γ 9 8), .int p612665, .int p612666, .int p612667, .int p612668, .int p612669, .int p612670, .ref (γ 9 15), .ref (γ 9 16), .ref (γ 9 17), .ref (γ 9 18), .ref (γ 9 19), .ref (γ 9 20), .ref (γ 9 21), .ref (γ 9 22), .int p612671, .int p612672, .int p612673, .int p612674, .int p612675, .ref q612663, .ref (γ 9 29), .int p612676, .ref (γ 9 31), .int p612677, .int p612678, .int p612679, .ref q612664]) := (n612766 q572540 (rn_oo he612758 he612759 (by decide))).trans he612758
                              have he612769 : F612764 q612612 = .inr (20, [.int 23, .int p612723, .int p612460, .int p612725, .int z612541, .int 1, .int p612728]) := e612765
                              have mk612770 : mKp (F572539 q572540) (F612764 q572540) := mKp_tr mk612760 (mKp_eq (n612766 q572540 (rn_ty ht612645 ht612716 (by decide))))
                              have n612771 : ∀ b, b ≠ q612612 → F612764 b = F612611 b := fun b hb => (n612766 b hb).trans (n612761 b hb)
                              have kp612772 : F612764 (γ0 9 3) = F572539 (γ0 9 3) := (n612766 (γ0 9 3) (rn_ty (rSk_k hs612641 k0_3 (by decide) (by decide)) ht612716 (by decide))).trans kp612762
                              have kp612773 : F612764 (γ0 9 19) = F607408 (γ0 9 19) := (n612766 (γ0 9 19) (rn_ty (rSk_k hs612641 k0_19 (by decide) (by decide)) ht612716 (by decide))).trans kp612763
                              obtain ⟨z612774, hz612774⟩ : ∃ z : Int32, z = g612415 + Int32.ofInt 1 := ⟨_, rfl⟩
                              have ez612774 : z612774.toInt = g612415.toInt + 1 := gI_inc hz612774 (by decide) bg612415 (by decide) (by decide)
                              have bz612774 : gB z612774 1 1000002 := ⟨by omega, by omega⟩
                              refine G_iinc (L' := [(4, .int z612774), (9, .ref q612612), (8, .int z612541), (0, .ref q572540), (1, .ref q572541), (2, .int g610659), (3, .ref q610799), (5, .ref q612416)]) z612774 6 dr_cX17_spill_405 rfl hz612774.symm (Nat.le_of_ble_eq_true rfl) rfl ?_
                              refine G_aload_n 6 dr_cX17_spill_408 rfl ?_
                              have hT612775 : RS D I P612610 F612764 γ el := RS_set hT612640 n612771 ht612716 (by decide) ⟨23, p612723, p612460, p612725, z612541, 1, p612728, he612769, (gB_w (gBl (show Int32.toInt 23 = 23 by decide)) (by decide) (by decide)), bp612723, bz612541', (gB_w (gBl (show Int32.toInt 1 = 1 by decide)) (by decide) (by decide)), (gB_w bp612728' (by decide) (by decide)), (Or.inr (by decide)), (Or.inr bp612460'), (gHe r612731)⟩
                              have hs612777 := rSk_put hs612641 hT612775 n612771 ht612716 (by decide) (by decide)
                              have hm612778 : q610799 ∈ P612610 := RS_m hT612775 ht612648 (by decide)
                              obtain ⟨q612780, q612781, p612782, p612783, he612779, ht612790, ht612784, ht612785, ht612786, ht612787, ht612788, bp612782, bp612783, r612789, r612791, r612792⟩ := show rk_2 γ q610799 (F612764 q610799) from RS_o hT612775 ht612648
                              have hf612793 : γ 1 q612780 = f := (show γ 1 q612780 = γ 1 q610799 from ht612785).trans hf612649
                              have hf612794 : γ 1 q612781 = f := (show γ 1 q612781 = γ 1 q610799 from ht612787).trans hf612649
                              have r612795 : γ 6 (γ 1 q610799) = γ 6 f := by rw [hf612649]
                              have r612796 : γ 7 (γ 1 q610799) = γ 7 f := by rw [hf612649]
                              have r612797 : γ 19 (γ 1 q610799) = γ 19 f := by rw [hf612649]
                              have r612798 := r612789.resolve_left (by omega)
                              clear r612789
                              have r612799 : γ 2 (γ 14 q610799) = γ 2 q612780 := by rw [ht612790.1]
                              refine Gp_get 0 hm612778 he612779 dr_cX17_spill_409 (gk_X12 D I) (Nat.le_of_ble_eq_true rfl) wr_9_220 rfl ?_
                              refine G_iload 0 dr_cX17_spill_412 rfl ?_
                              refine G_aload 1 dr_cX17_spill_414 rfl ?_
                              have pl612800 := rPl_fr hT612640 ht612646 hf612647 pl612619 (fun b hb _ => n612771 b (rn_ty (show rKd γ b 1 from hb) ht612716 (by decide)))
                              have rg612801 := rM_ge hT612775 ht612646 hf612647
                              have rm612802 := rM_bd hB612715
                              have bd612803 := rBd_c hT612775 ht612646 hf612647 hB612715
                              have rc612804 := rc_at hT612775 ht612646 hf612647
                              have r612806 : γ 14 (el (γ 14 q572541) g610659.toInt.toNat) = q612780 := by rw [r612658]; exact ht612790.1
                              have r612807 := rg612801.2.2 _ r612657
                              rw [r612806] at r612807
                              have r612808 := bd612803.2.2.2 _ r612657
                              rw [r612806] at r612808
                              have r612809 : γ 7 (γ 1 q612612) = γ 7 f := by rw [x1612622]
                              have hx612810 : rk_1 γ q612612 (F612764 q612612) := ⟨23, p612723, p612460, p612725, z612541, 1, p612728, he612769, (gB_w (gBl (show Int32.toInt 23 = 23 by decide)) (by decide) (by decide)), bp612723, bz612541', (gB_w (gBl (show Int32.toInt 1 = 1 by decide)) (by decide) (by decide)), (gB_w bp612728' (by decide) (by decide)), (Or.inr (by decide)), (Or.inr bp612460'), (gHe r612731), (Or.inr (by omega)), (Or.inl x22612623)⟩
                              refine Gt_ins (c := q572541) (f := f) hl0 dr_cX17_spill_416 ⟨wr_10_207, wr_1_18, wr_10_210, by decide, rfl, (Nat.le_of_ble_eq_true rfl), (Nat.le_of_ble_eq_true rfl)⟩ wr_10_208 wr_10_209 hT612775 ht612784 hf612793 ht612716 x1612622 x22612623 r612717 (by omega) ht612646 hf612647 r612657 r612806 hx612810 (by omega) (by omega) (Nat.le_trans r612808 (Nat.le_trans hBk (by decide))) (rm_cs hph612718 r612807 rm612802 (by decide)) (rm_sl hph612718 r612807 rm612802 rm_s11) (Nat.le_of_ble_eq_true rfl) (fun P612811 F612805 γ el dc612812 ds612813 hq612814 => ?_)
                              have pl612815 := sp_ins (j1 := ((g612415.toInt : Int).toNat + 1) + 1) hT612775 ht612646 hf612647 hq612814 r612806 (tn_lt (by omega) (by omega)) (tn_le0 (by omega) (by omega)) (by rw [(show z612774.toInt.toNat = ((g612415.toInt : Int).toNat + 1) from tn_eq1 (by omega) (by omega))]; exact pl612800) (nm_sto he612769 (by decide)).1 (nm_sto he612769 (by decide)).2 (tn_ge (show 100 ≤ p612460.toInt by omega)) (congrArg (fun k => k + 1) (show z612774.toInt.toNat = ((g612415.toInt : Int).toNat + 1) from tn_eq1 (by omega) (by omega)).symm)
                              obtain ⟨hk612816, x0612817, h2612818, hel612819, hot612820, h16612821, h18612822, hnu612823, hFx612824, hr612825, hM612826, hBB612827⟩ := hq612814
                              have hk612828 := rSk_of hk612816
                              have r612829 : (fI (F612805 q572541) 3).toInt = (fI (F612764 q572541) 3).toInt := by rw [rSk_F hk612828 ht612646 (by decide) (by decide)]
                              obtain ⟨nu612830, nu612831, nu612832, nu612833⟩ := hnu612823
                              have hT612834 := hk612828.1
                              have hs612835 := rSk_tr hs612777 hk612828 (by decide) (by decide) (by decide)
                              have kp612836 : F612805 (γ0 9 3) = F572539 (γ0 9 3) := (rSk_F hk612828 (rSk_k hs612777 k0_3 (by decide) (by decide)) (by decide) (by decide)).trans kp612772
                              have kp612837 : F612805 (γ0 9 19) = F607408 (γ0 9 19) := (rSk_F hk612828 (rSk_k hs612777 k0_19 (by decide) (by decide)) (by decide) (by decide)).trans kp612773
                              have r612838 := rSk_F hk612828 ht612645 (by decide) (by decide)
                              have ht612839 : rKd γ q572540 10 := rSk_k hk612828 ht612645 (by decide) (by decide)
                              have ht612840 : rKd γ q572541 9 := rSk_k hk612828 ht612646 (by decide) (by decide)
                              have hf612841 : γ 1 q572541 = f := rSk_1 hk612828 ht612646 (by decide) hf612647
                              have ht612842 : rKd γ q610799 2 := rSk_k hk612828 ht612648 (by decide) (by decide)
                              have hf612843 : γ 1 q610799 = f := rSk_1 hk612828 ht612648 (by decide) hf612649
                              have ht612844 : rKd γ q612416 1 := rSk_k hk612828 ht612650 (by decide) (by decide)
                              have hf612845 : γ 1 q612416 = f := rSk_1 hk612828 ht612650 (by decide) hf612651
                              have ht612846 : rKd γ q612567 3 := rSk_k hk612828 ht612652 (by decide) (by decide)
                              have hf612847 : γ 1 q612567 = f := rSk_1 hk612828 ht612652 (by decide) hf612653
                              have ht612848 : rKd γ q612780 3 := rSk_k hk612828 ht612784 (by decide) (by decide)
                              have hf612849 : γ 1 q612780 = f := rSk_1 hk612828 ht612784 (by decide) hf612793
                              have mk612850 : mKp (F572539 q572540) (F612805 q572540) := mKp_tr mk612770 (mKp_eq (rSk_F hk612828 ht612645 (by decide) (by decide)))
                              have r612851 := (rSk_s hk612828 ht612646 (by decide)).2.1
                              have r612852 := hot612820 _ (by rw [rc612804.2.1]; decide) (fun q => by rw [q, show _ = 3 from ht612784] at rc612804; exact absurd rc612804.2.1 (by decide))
                              have r612853 : g610659.toInt.toNat < γ 2 (γ 14 q572541) := by rw [r612851, r612852.1]; exact r612657
                              have r612854 : el (γ 14 q572541) g610659.toInt.toNat = q610799 := by rw [r612851, r612852.2]; exact r612658
                              have he612855 : F612805 q612416 = .inr (20, [.int p612502, .int p612460, .int p612504, .int p612505, .int p612506, .int p612507, .int p612508]) := (rSk_F hk612828 ht612650 (by decide) (by decide)).trans he612767
                              have hm612856 : q612416 ∈ P612811 := RS_m hT612834 ht612844 (by decide)
                              clear bp612722 bp612723 bp612726 bp612727 bp612728 bp612724 bp612725 bp612782 bp612783 r612791 r612792 rg612801 rm612802 bd612803 rc612804 r612807 r612808
                              clear r612729 r612730 r612731
                              have hm612857 : q572540 ∈ P612811 := RS_m hT612834 ht612839 (by decide)
                              refine rk10_e (show rk_10 γ (F612805 q572540) from RS_o hT612834 ht612839) (fun q612859 q612860 p612861 p612862 p612863 p612864 p612865 p612866 p612867 p612868 p612869 p612870 p612871 p612872 p612873 p612874 p612875 he612858 hB612902 ht612876 ht612877 ht612878 ht612879 ht612880 ht612881 ht612882 ht612883 ht612884 ht612885 ht612886 ht612887 ht612888 ht612889 ht612890 ht612891 ht612892 ht612893 ht612894 ht612895 ht612896 ht612897 ht612898 ht612899 hB612903 => ?_)
                              have r612904 : p612863.toInt = p612667.toInt := by have z : p612863 = p612667 := congrArg (fun e => fI e 11) (he612858.symm.trans (r612838.trans he612768)); rw [z]
                              have bp612863 : gB p612863 0 100 := (hB612902.2.2.1)
                              have r612905 : p612866.toInt = p612670.toInt := by have z : p612866 = p612670 := congrArg (fun e => fI e 14) (he612858.symm.trans (r612838.trans he612768)); rw [z]
                              have bp612866 : gB p612866 0 2000 := (hB612902.2.2.2.1)
                              have bp612866' : gB p612866 1 2000 := ⟨by omega, by omega⟩
                              first | have sz612906 := (hot612820 q612567 (rT0 ht612652 (by decide)) (by assumption)).1 | skip
                              have ht612907 : rKd γ q612612 1 := x0612817
                              have hB612908 : rBd γ el f B := hBB612827 B hB612715
                              have hph612909 : rPh γ0 el0 f ≤ rPh γ el f := rm_ph hph612718 hr612825.2
                              have pk612910 : rPh γ el f ≤ 387 * B + 6000 := rm_pk (rM_ge hT612834 ht612840 hf612841).1 (rM_bd hB612908)
                              refine G_widen (cs' := ((rPh γ el f - rPh γ0 el0 f) / 18)) (sl' := (rPh γ el f - rPh γ0 el0 f)) (rm_wc hph612718 hr612825.1) (rm_ws hph612718 hr612825.2) ?_
                              have r612911 : γ 14 q610799 = q612780 := ((rSk_s (rSk_of hk612816) ht612648 (by decide)).2.1).trans ht612790.1
                              have sz612912 : γ 2 (γ 14 q610799) = γ 2 q612780 := by rw [r612911]
                              obtain ⟨z612913, hz612913⟩ : ∃ z : Int32, z = z612774 + Int32.ofInt 1 := ⟨_, rfl⟩
                              have ez612913 : z612913.toInt = z612774.toInt + 1 := gI_inc hz612913 (by decide) bz612774 (by decide) (by decide)
                              have bz612913 : gB z612913 2 1000003 := ⟨by omega, by omega⟩
                              refine G_iinc (L' := [(4, .int z612913), (9, .ref q612612), (8, .int z612541), (0, .ref q572540), (1, .ref q572541), (2, .int g610659), (3, .ref q610799), (5, .ref q612416)]) z612913 0 dr_cX17_spill_419 rfl hz612913.symm (Nat.le_of_ble_eq_true rfl) rfl ?_
                              refine G_goto 90 dr_cX17_spill_422 (by decide +kernel) ?_
                              refine G_lv (L' := [(4, .int z612913), (3, .ref q610799), (2, .int g610659), (0, .ref q572540), (1, .ref q572541)]) [0, 6, 5, 3, 4] rfl ?_
                              have ac612914 : (fI (F612805 q572540) 11).toInt = p612863.toInt := by rw [he612858]; rfl
                              have ac612915 : (fI (F612805 q572540) 14).toInt = p612866.toInt := by rw [he612858]; rfl
                              exact ih90_612316 P612811 F612805 γ el z612913 (gB_w bz612913 (by decide) (by decide)) hT612834 hs612835 hph612909 hB612908 ht612842 hf612843 r612853 r612854 (by omega) (by omega) (by omega) (by omega) (by omega) (by omega) kp612837 (by rw [(show (z612913.toInt : Int).toNat = (((g612415.toInt : Int).toNat + 1) + 1) from tn_eq2 (by omega) (by omega))]; exact pl612815) (by omega) (by omega) kp612836 mk612850 (ms_g x612441 (by omega) (by omega) (by omega))
                            · have r612916 : p612460.toInt = 2000 := gj_eq hc612548 (show Int32.toInt 2000 = 2000 by decide)
                              have bp612460' : gB p612460 2000 2000 := ⟨by omega, by omega⟩
                              refine G_iconst 0 dr_cX17_spill_348 (by decide +kernel) ?_
                              exact G_zretA FieldType.boolean dr_cX17_spill_349 rfl rfl (rm_zc pk612449) (rm_zs pk612449) ⟨P612417, F612418, γ, el, 0, rfl, rfl, hs612420, (rm_pp hph612421), hB612422, (gB_w (gBl (show Int32.toInt 0 = 0 by decide)) (by decide) (by decide)), (by have qa0 : Int32.toInt 0 = 0 := (by decide); omega), (Or.inl (by decide)), x612443, x612444⟩
                          · have r612917 : z612541.toInt < 0 := gj_nleL hc612545 (show Int32.toInt 0 = 0 by decide)
                            have bz612541' : gB z612541 (-1) (-1) := ⟨by omega, by omega⟩
                            refine G_goto 419 dr_cX17_spill_323 (by decide +kernel) ?_
                            have rn612919 : rNx (nSp (cB (F572539 (γ0 9 3))) (cB (F607408 (γ0 9 19)))) (F612418 q612416) := rS2_n he612501 he612501 x612438 (fun _ => Or.inr ⟨rfl, Or.inr (by omega)⟩)
                            have pl612918 := sp_fin x612436 x612437 rn612919 (rfl : (g612415.toInt : Int).toNat + 1 = (g612415.toInt : Int).toNat + 1)
                            obtain ⟨z612920, hz612920⟩ : ∃ z : Int32, z = g612415 + Int32.ofInt 1 := ⟨_, rfl⟩
                            have ez612920 : z612920.toInt = g612415.toInt + 1 := gI_inc hz612920 (by decide) bg612415 (by decide) (by decide)
                            have bz612920 : gB z612920 1 1000002 := ⟨by omega, by omega⟩
                            refine G_iinc (L' := [(4, .int z612920), (0, .ref q572540), (1, .ref q572541), (2, .int g610659), (3, .ref q610799), (5, .ref q612416)]) z612920 4 dr_cX17_spill_419 rfl hz612920.symm (Nat.le_of_ble_eq_true rfl) rfl ?_
                            refine G_goto 90 dr_cX17_spill_422 (by decide +kernel) ?_
                            refine G_lv (L' := [(4, .int z612920), (3, .ref q610799), (2, .int g610659), (0, .ref q572540), (1, .ref q572541)]) [0, 4, 3, 1, 2] rfl ?_
                            have ac612921 : (fI (F612418 q572540) 11).toInt = p612457.toInt := by rw [he612452]; rfl
                            have ac612922 : (fI (F612418 q572540) 14).toInt = p612460.toInt := by rw [he612452]; rfl
                            exact ih90_612316 P612417 F612418 γ el z612920 (gB_w bz612920 (by decide) (by decide)) hT612419 hs612420 hph612421 hB612422 ht612423 hf612424 r612425 r612426 (by omega) (by omega) (by omega) (by omega) (by omega) (by omega) x612435 (by rw [(show (z612920.toInt : Int).toNat = ((g612415.toInt : Int).toNat + 1) from tn_eq1 (by omega) (by omega))]; exact pl612918) (by omega) (by omega) x612443 x612444 (ms_g x612441 (by omega) (by omega) (by omega))
                    have jn236_612954 : ∀ (P612927 : List Nat) (F612928 : Nat → va_E) (γ el : Nat → Nat → Nat) (g612923 : Int32) (q612924 : Nat) (g612925 : Int32) (g612926 : Int32), gB g612923 0 1000001 → gB g612925 (-1) 1999 → gB g612926 (-1) 1999 → RS D I P612927 F612928 γ el → rSk f [101] ([1, 3, 5, 6, 8, 9, 101] ++ npk) D I P572538 F572539 γ0 el0 P612927 F612928 γ el → rPh γ0 el0 f ≤ rPh γ el f → rBd γ el f B → rKd γ q610799 2 → γ 1 q610799 = f → g610659.toInt.toNat < γ 2 (γ 14 q572541) → el (γ 14 q572541) g610659.toInt.toNat = q610799 → rKd γ q612924 1 → γ 1 q612924 = f → γ 6 f = γ0 6 f → γ 18 f = γ0 18 f → ((γ 7 f : Nat) : Int) = (fI (F612928 q572540) 11).toInt → (fI (F612928 q572540) 11).toInt = (fI (F607408 q572540) 11).toInt → ((γ 16 f : Nat) : Int) + 2001 ≤ (B : Int) + (fI (F612928 q572540) 14).toInt → 100 ≤ (fI (F612928 q572540) 14).toInt → (F612928 (γ0 9 19) = F607408 (γ0 9 19)) → rPl γ el F612928 q572541 (γ 6 f) (spX (cB (F572539 (γ0 9 3))) (cB (F607408 (γ0 9 19))) (g610659.toInt : Int).toNat (g612923.toInt : Int).toNat) → rAt γ el q572541 (g610659.toInt : Int).toNat (g612923.toInt : Int).toNat = q612924 → rS1 (cB (F572539 (γ0 9 3))) (cB (F607408 (γ0 9 19))) (F612928 q612924) g612925.toInt g612926.toInt → (g612923.toInt : Int) ≤ γ 2 (γ 14 q610799) → (g610659.toInt : Int) < γ 6 f → (γ 2 (γ 14 q610799) + 1 - (g612923.toInt : Int).toNat) < n90_612316 + 1 → eO g612923.toInt (γ 2 (γ 14 q610799) : Nat) (fI (F612928 q612924) 0).toInt → (F612928 (γ0 9 3) = F572539 (γ0 9 3)) → mKp (F572539 q572540) (F612928 q572540) → G (gV D I) l (gRm 9 195 (((387 * B + 6000) - rPh γ0 el0 f) / 18) ((387 * B + 6000) - rPh γ0 el0 f)) (gMA (gV D I) (pg_572548_SpillForgeModel_spill D I γ0 el0 f B P572538 F572539 q572540 q572541) gNA (((387 * B + 6000) - rPh γ0 el0 f) / 18) ((387 * B + 6000) - rPh γ0 el0 f)) ky_572548_SpillForgeModel_spill 236 [(0, .ref q572540), (1, .ref q572541), (2, .int g610659), (3, .ref q610799), (4, .int g612923), (5, .ref q612924), (6, .int g612925), (7, .int g612926)] [] (va_pl P612927 F612928) ((rPh γ el f - rPh γ0 el0 f) / 18) (rPh γ el f - rPh γ0 el0 f) := by
                      intro P612927 F612928 γ el g612923 q612924 g612925 g612926 bg612923 bg612925 bg612926 hT612929 hs612930 hph612931 hB612932 ht612933 hf612934 r612935 r612936 ht612937 hf612938 x612939 x612940 x612941 x612942 x612943 x612944 x612945 x612946 x612947 x612948 x612949 x612950 x612951 x612952 x612953 x612954
                      clear bp612376 bp612377 r612385 r612386 r612389 r612390 r612391 r612392 r612393 r612399 r612400 r612401 r612403 r612402
                      have ht612956 : rKd γ q572540 10 := rSk_k hs612930 hzq572540 (by decide) (by decide)
                      have ht612957 : rKd γ q572541 9 := rSk_k hs612930 hzq572541 (by decide) (by decide)
                      have hf612958 : γ 1 q572541 = f := rSk_1 hs612930 hzq572541 (by decide) hf0
                      have pk612959 : rPh γ el f ≤ 387 * B + 6000 := rm_pk (rM_ge hT612929 ht612957 hf612958).1 (rM_bd hB612932)
                      have r612960 : 0 < γ 6 (γ 1 q572541) := by rw [hf612958]; omega
                      have hm612961 : q572540 ∈ P612927 := RS_m hT612929 ht612956 (by decide)
                      refine rk10_e (show rk_10 γ (F612928 q572540) from RS_o hT612929 ht612956) (fun q612963 q612964 p612965 p612966 p612967 p612968 p612969 p612970 p612971 p612972 p612973 p612974 p612975 p612976 p612977 p612978 p612979 he612962 hB613006 ht612980 ht612981 ht612982 ht612983 ht612984 ht612985 ht612986 ht612987 ht612988 ht612989 ht612990 ht612991 ht612992 ht612993 ht612994 ht612995 ht612996 ht612997 ht612998 ht612999 ht613000 ht613001 ht613002 ht613003 hB613007 => ?_)
                      have ac613008 : (fI (F612928 q572540) 11).toInt = p612967.toInt := by rw [he612962]; rfl
                      have bp612967 : gB p612967 0 100 := (hB613006.2.2.1)
                      have ac613009 : (fI (F612928 q572540) 14).toInt = p612970.toInt := by rw [he612962]; rfl
                      have bp612970 : gB p612970 0 2000 := (hB613006.2.2.2.1)
                      have hm613010 : q612924 ∈ P612927 := RS_m hT612929 ht612937 (by decide)
                      obtain ⟨p613012, p613013, p613014, p613015, p613016, p613017, p613018, he613011, bp613012, bp613013, bp613016, bp613017, bp613018, r613019, r613020, r613021, r613022, r613023⟩ := show rk_1 γ q612924 (F612928 q612924) from RS_o hT612929 ht612937
                      have bp613014 := gB_any p613014
                      have bp613015 := gB_any p613015
                      replace r613019 : gH _ := r613019
                      replace r613020 : gH _ := r613020
                      replace r613021 : gH _ := r613021
                      replace r613022 : gH _ := r613022
                      replace r613023 : gH _ := r613023
                      have r613024 : γ 7 (γ 1 q612924) = γ 7 f := by rw [hf612938]
                      refine G_iload 7 dr_cX17_spill_236 rfl ?_
                      refine G_if_lt 292 dr_cX17_spill_238 (by decide +kernel) (fun hc613025 => ?_) (fun hc613025 => ?_)
                      · have r613026 : g612926.toInt < 0 := gj_lt hc613025 (show Int32.toInt 0 = 0 by decide)
                        have bg612926' : gB g612926 (-1) (-1) := ⟨by omega, by omega⟩
                        have ac613027 : (fI (F612928 q572540) 11).toInt = p612967.toInt := by rw [he612962]; rfl
                        have ac613028 : (fI (F612928 q572540) 14).toInt = p612970.toInt := by rw [he612962]; rfl
                        refine G_lv (L' := [(0, .ref q572540), (1, .ref q572541), (2, .int g610659), (3, .ref q610799), (4, .int g612923), (5, .ref q612924)]) [0, 1, 2, 3, 4, 5] rfl ?_
                        exact jn292_612444 P612927 F612928 γ el g612923 q612924 bg612923 hT612929 hs612930 hph612931 hB612932 ht612933 hf612934 r612935 r612936 ht612937 hf612938 (by omega) (by omega) (by omega) (by omega) (by omega) (by omega) x612945 (by exact x612946) (by exact x612947) (rS1_2 x612948 (Or.inl (by omega))) (by omega) (by omega) (ms_j x612951 (by omega) (by omega) (by omega)) (eO_j x612952 (by rw [he613011] <;> rfl) (by rw [he613011] <;> rfl) (by omega)) x612953 x612954
                      · have r613029 : 0 ≤ g612926.toInt := gj_nlt hc613025 (show Int32.toInt 0 = 0 by decide)
                        have bg612926' : gB g612926 0 1999 := ⟨by omega, by omega⟩
                        refine G_iload 7 dr_cX17_spill_241 rfl ?_
                        refine G_iload 6 dr_cX17_spill_243 rfl ?_
                        refine G_icmp_eq 292 dr_cX17_spill_245 (by decide +kernel) (fun hc613030 => ?_) (fun hc613030 => ?_)
                        · have r613031 : g612926.toInt = g612925.toInt := gC_eq hc613030
                          have bg612925' : gB g612925 0 1999 := ⟨by omega, by omega⟩
                          have ac613032 : (fI (F612928 q572540) 11).toInt = p612967.toInt := by rw [he612962]; rfl
                          have ac613033 : (fI (F612928 q572540) 14).toInt = p612970.toInt := by rw [he612962]; rfl
                          refine G_lv (L' := [(0, .ref q572540), (1, .ref q572541), (2, .int g610659), (3, .ref q610799), (4, .int g612923), (5, .ref q612924)]) [0, 1, 2, 3, 4, 5] rfl ?_
                          exact jn292_612444 P612927 F612928 γ el g612923 q612924 bg612923 hT612929 hs612930 hph612931 hB612932 ht612933 hf612934 r612935 r612936 ht612937 hf612938 (by omega) (by omega) (by omega) (by omega) (by omega) (by omega) x612945 (by exact x612946) (by exact x612947) (rS1_2 x612948 (Or.inr (Or.inl (by omega)))) (by omega) (by omega) (ms_j x612951 (by omega) (by omega) (by omega)) (eO_j x612952 (by rw [he613011] <;> rfl) (by rw [he613011] <;> rfl) (by omega)) x612953 x612954
                        · have r613034 : g612926.toInt ≠ g612925.toInt := gC_ne hc613030
                          refine G_aload_n 0 dr_cX17_spill_248 rfl ?_
                          refine Gp_get 19 hm612961 he612962 dr_cX17_spill_249 (gk_X17 D I) (Nat.le_of_ble_eq_true rfl) wr_7_93 rfl ?_
                          refine G_iload 7 dr_cX17_spill_252 rfl ?_
                          have hm613035 : (γ 9 19) ∈ P612927 := RS_m hT612929 ht612995 (by decide)
                          obtain ⟨f613037, he613036, bf613037⟩ := show rk_21 I (F612928 (γ 9 19)) from RS_o hT612929 ht612995
                          refine Gp_iald 0 hm613035 he613036 dr_cX17_spill_254 rfl (gB_in bg612926' (by decide) (by decide)) (G_nam fun z613038 hz613038 => ?_)
                          have bz613038 : gB z613038 (-1) 1999 := by rw [hz613038]; exact bf613037 _
                          have c9_613039 : cB (F607408 (γ0 9 19)) = f613037 := by rw [← x612945, ← congrFun (rSk_9 hs612930) 19]; exact cB_of he613036
                          have hs613040 : (cB (F607408 (γ0 9 19)) g612926.toInt.toNat).toInt = z613038.toInt := by rw [c9_613039, hz613038]; rfl
                          refine G_if_lt 292 dr_cX17_spill_255 (by decide +kernel) (fun hc613042 => ?_) (fun hc613042 => ?_)
                          · have r613043 : z613038.toInt < 0 := gj_lt hc613042 (show Int32.toInt 0 = 0 by decide)
                            have bz613038' : gB z613038 (-1) (-1) := ⟨by omega, by omega⟩
                            have ac613044 : (fI (F612928 q572540) 11).toInt = p612967.toInt := by rw [he612962]; rfl
                            have ac613045 : (fI (F612928 q572540) 14).toInt = p612970.toInt := by rw [he612962]; rfl
                            refine G_lv (L' := [(0, .ref q572540), (1, .ref q572541), (2, .int g610659), (3, .ref q610799), (4, .int g612923), (5, .ref q612924)]) [0, 1, 2, 3, 4, 5] rfl ?_
                            exact jn292_612444 P612927 F612928 γ el g612923 q612924 bg612923 hT612929 hs612930 hph612931 hB612932 ht612933 hf612934 r612935 r612936 ht612937 hf612938 (by omega) (by omega) (by omega) (by omega) (by omega) (by omega) x612945 (by exact x612946) (by exact x612947) (rS1_2 x612948 (Or.inr (Or.inr (by omega)))) (by omega) (by omega) (ms_j x612951 (by omega) (by omega) (by omega)) (eO_j x612952 (by rw [he613011] <;> rfl) (by rw [he613011] <;> rfl) (by omega)) x612953 x612954
                          · have r613046 : 0 ≤ z613038.toInt := gj_nlt hc613042 (show Int32.toInt 0 = 0 by decide)
                            have bz613038' : gB z613038 0 1999 := ⟨by omega, by omega⟩
                            refine G_aload_n 0 dr_cX17_spill_258 rfl ?_
                            refine G_aload_n 1 dr_cX17_spill_259 rfl ?_
                            refine G_aload_n 3 dr_cX17_spill_260 rfl ?_
                            refine G_iload 4 dr_cX17_spill_261 rfl ?_
                            refine G_aload_n 0 dr_cX17_spill_263 rfl ?_
                            refine Gp_get 19 hm612961 he612962 dr_cX17_spill_264 (gk_X17 D I) (Nat.le_of_ble_eq_true rfl) wr_7_93 rfl ?_
                            refine G_iload 7 dr_cX17_spill_267 rfl ?_
                            refine Gp_iald 0 hm613035 he613036 dr_cX17_spill_269 rfl (gB_in bg612926' (by decide) (by decide)) (G_eqi (y := z613038) hz613038.symm ?_)
                            have hm613047 : q610799 ∈ P612927 := RS_m hT612929 ht612933 (by decide)
                            obtain ⟨q613049, q613050, p613051, p613052, he613048, ht613059, ht613053, ht613054, ht613055, ht613056, ht613057, bp613051, bp613052, r613058, r613060, r613061⟩ := show rk_2 γ q610799 (F612928 q610799) from RS_o hT612929 ht612933
                            have hf613062 : γ 1 q613049 = f := (show γ 1 q613049 = γ 1 q610799 from ht613054).trans hf612934
                            have hf613063 : γ 1 q613050 = f := (show γ 1 q613050 = γ 1 q610799 from ht613056).trans hf612934
                            have r613064 : γ 6 (γ 1 q610799) = γ 6 f := by rw [hf612934]
                            have r613065 : γ 7 (γ 1 q610799) = γ 7 f := by rw [hf612934]
                            have r613066 : γ 19 (γ 1 q610799) = γ 19 f := by rw [hf612934]
                            have r613067 := r613058.resolve_left (by omega)
                            clear r613058
                            have r613068 : γ 2 (γ 14 q610799) = γ 2 q613049 := by rw [ht613059.1]
                            have hm613069 : q613049 ∈ P612927 := RS_m hT612929 ht613053 (by decide)
                            obtain ⟨⟨p613071, p613072, q613073, he613070, r613074, r613075, r613076, r613078⟩, r613077⟩ := show rk_3 D I γ el F612928 q613049 from RS_o hT612929 ht613053
                            have bp613071 := gB_any p613071
                            have bp613072 : gB p613072 0 1000000 := ⟨by omega, by omega⟩
                            have r613079 := (spi607493.2.2.2 g612926.toInt.toNat (tn_lt (by omega) (by omega)) (by omega)).2.2
                            have ac613080 : (fI (F612928 q572540) 11).toInt = p612967.toInt := by rw [he612962]; rfl
                            have ac613081 : (fI (F612928 q572540) 14).toInt = p612970.toInt := by rw [he612962]; rfl
                            have rg613082 := rM_ge hT612929 ht612957 hf612958
                            have rm613083 := rM_bd hB612932
                            have bd613084 := rBd_c hT612929 ht612957 hf612958 hB612932
                            have rc613085 := rc_at hT612929 ht612957 hf612958
                            refine Gw_callV (As := [.ref q572541, .ref q610799, .int g612923, .int z613038]) (gV_ok D I) (cg_398209_SpillForgeModel_load l hl0 D I γ el f B P612927 F612928 q572540 q572541 q610799 g612923 z613038 g610659.toInt.toNat hT612929 ht612956 ht612957 ht612933 hf612958 hB612932 hBk r612935 r612936 hf612934 ⟨by omega, by omega⟩ bz613038' (by omega) (by omega) (by omega) (by omega) (by omega)) dr_cX17_spill_270 ⟨wr_11_67, wr_1_14, wr_11_70, by decide, rfl, (Nat.le_of_ble_eq_true rfl), (Nat.le_of_ble_eq_true rfl)⟩ wr_11_69 wr_p_111 hm612961 he612962 rfl (rm_gc hph612931 pk612959) (rm_gs hph612931 pk612959) (Nat.le_of_ble_eq_true rfl) (fun r613089 w613090 dc613086 ds613087 hp613088 => ?_) (fun _ _ _ _ _ z => z.elim)
                            obtain ⟨P613101, F613102, γ, el, o613091, rfl, rfl, hk613103, ⟨hr613104, hr613105⟩, hB613106, bo613091, x613092, x613093, x613094, x613095, x613096, x613097, x613098, x613099, x613100⟩ := hp613088
                            have hT613107 := hk613103.1
                            have hs613108 := rSk_tr hs612930 hk613103 (by decide) (by decide) (by decide)
                            have kp613109 : F613102 (γ0 9 3) = F572539 (γ0 9 3) := (rSk_F hk613103 (rSk_k hs612930 k0_3 (by decide) (by decide)) (by decide) (by decide)).trans x612953
                            have kp613110 : F613102 (γ0 9 19) = F607408 (γ0 9 19) := (rSk_F hk613103 (rSk_k hs612930 k0_19 (by decide) (by decide)) (by decide) (by decide)).trans x612945
                            have ht613111 : rKd γ q572540 10 := rSk_k hk613103 ht612956 (by decide) (by decide)
                            have ht613112 : rKd γ q572541 9 := rSk_k hk613103 ht612957 (by decide) (by decide)
                            have hf613113 : γ 1 q572541 = f := rSk_1 hk613103 ht612957 (by decide) hf612958
                            have ht613114 : rKd γ q610799 2 := rSk_k hk613103 ht612933 (by decide) (by decide)
                            have hf613115 : γ 1 q610799 = f := rSk_1 hk613103 ht612933 (by decide) hf612934
                            have ht613116 : rKd γ q612924 1 := rSk_k hk613103 ht612937 (by decide) (by decide)
                            have hf613117 : γ 1 q612924 = f := rSk_1 hk613103 ht612937 (by decide) hf612938
                            have ht613118 : rKd γ q613049 3 := rSk_k hk613103 ht613053 (by decide) (by decide)
                            have hf613119 : γ 1 q613049 = f := rSk_1 hk613103 ht613053 (by decide) hf613062
                            have he613120 : F613102 q612924 = .inr (20, [.int p613012, .int p613013, .int p613014, .int p613015, .int p613016, .int p613017, .int p613018]) := (rSk_F hk613103 ht612937 (by decide) (by decide)).trans he613011
                            have hm613121 : q612924 ∈ P613101 := RS_m hT613107 ht613116 (by decide)
                            clear bp613051 bp613052 r613060 r613061 rg613082 rm613083 bd613084 rc613085
                            have mk613122 : mKp (F572539 q572540) (F613102 q572540) := mKp_tr x612954 x613100
                            have hph613123 : rPh γ0 el0 f ≤ rPh γ el f := rm_ph hph612931 hr613105
                            have pk613124 : rPh γ el f ≤ 387 * B + 6000 := rm_pk (rM_ge hT613107 ht613112 hf613113).1 (rM_bd hB613106)
                            change G _ _ _ _ _ _ _ (.int o613091 :: _) _ _ _
                            refine G_widen (cs' := ((rPh γ el f - rPh γ0 el0 f) / 18)) (sl' := (rPh γ el f - rPh γ0 el0 f)) (rm_wc hph612931 hr613104) (rm_ws hph612931 hr613105) ?_
                            have sz613125 := x613092
                            have r613126 : 0 < γ 6 (γ 1 q572541) := by rw [hf613113]; omega
                            have hm613127 : q572540 ∈ P613101 := RS_m hT613107 ht613111 (by decide)
                            refine rk10_e (show rk_10 γ (F613102 q572540) from RS_o hT613107 ht613111) (fun q613129 q613130 p613131 p613132 p613133 p613134 p613135 p613136 p613137 p613138 p613139 p613140 p613141 p613142 p613143 p613144 p613145 he613128 hB613172 ht613146 ht613147 ht613148 ht613149 ht613150 ht613151 ht613152 ht613153 ht613154 ht613155 ht613156 ht613157 ht613158 ht613159 ht613160 ht613161 ht613162 ht613163 ht613164 ht613165 ht613166 ht613167 ht613168 ht613169 hB613173 => ?_)
                            have ac613174 : (fI (F613102 q572540) 11).toInt = p613133.toInt := by rw [he613128]; rfl
                            have bp613133 : gB p613133 0 100 := (hB613172.2.2.1)
                            have ac613175 : (fI (F613102 q572540) 14).toInt = p613136.toInt := by rw [he613128]; rfl
                            have bp613136 : gB p613136 0 2000 := (hB613172.2.2.2.1)
                            refine G_istore (L' := [(8, .int o613091), (0, .ref q572540), (1, .ref q572541), (2, .int g610659), (3, .ref q610799), (4, .int g612923), (5, .ref q612924), (6, .int g612925), (7, .int g612926)]) dr_cX17_spill_273 (Nat.le_of_ble_eq_true rfl) rfl ?_
                            refine G_iload 0 dr_cX17_spill_275 rfl ?_
                            refine G_if_ge 282 dr_cX17_spill_277 (by decide +kernel) (fun hc613176 => ?_) (fun hc613176 => ?_)
                            · have r613177 : 0 ≤ o613091.toInt := gj_leL hc613176 (show Int32.toInt 0 = 0 by decide)
                              have bo613091' : gB o613091 0 1999 := ⟨by omega, by omega⟩
                              have pl613179 := sp_ld (x613098.resolve_left (by omega)) x612946 (tn_ge (by omega)) (rfl : ((g612923.toInt : Int).toNat + 1) = (g612923.toInt : Int).toNat + 1)
                              have hp613180 : rAt γ el q572541 (g610659.toInt : Int).toNat ((g612923.toInt : Int).toNat + 1) = q612924 := ((x613099.resolve_left (by omega)) (g612923.toInt : Int).toNat (Nat.le_refl _)).trans x612947
                              have r613181 := x613096.resolve_left (by omega)
                              clear x613096 x613098 x613099
                              obtain ⟨z613182, hz613182⟩ : ∃ z : Int32, z = g612923 + Int32.ofInt 1 := ⟨_, rfl⟩
                              have ez613182 : z613182.toInt = g612923.toInt + 1 := gI_inc hz613182 (by decide) bg612923 (by decide) (by decide)
                              have bz613182 : gB z613182 1 1000002 := ⟨by omega, by omega⟩
                              refine G_iinc (L' := [(4, .int z613182), (8, .int o613091), (0, .ref q572540), (1, .ref q572541), (2, .int g610659), (3, .ref q610799), (5, .ref q612924), (6, .int g612925), (7, .int g612926)]) z613182 5 dr_cX17_spill_282 rfl hz613182.symm (Nat.le_of_ble_eq_true rfl) rfl ?_
                              refine G_aload 6 dr_cX17_spill_285 rfl ?_
                              refine G_iload 1 dr_cX17_spill_287 rfl ?_
                              refine Gp_put 3 hm613121 he613120 dr_cX17_spill_289 (gk_X15 D I) (Nat.le_of_ble_eq_true rfl) wr_9_190 rfl rfl rfl (Nat.le_of_ble_eq_true rfl) (fun F613183 e613184 n613185 => ?_)
                              have r613186 := rk1_at hT613107 ht613116 he613120
                              have he613187 : F613183 q572540 = .inr (22, [.ref (γ 9 0), .ref (γ 9 1), .ref (γ 9 2), .ref (γ 9 3), .ref (γ 9 4), .ref (γ 9 5), .ref (γ 9 6), .ref (γ 9 7), .ref (γ 9 8), .int p613131, .int p613132, .int p613133, .int p613134, .int p613135, .int p613136, .ref (γ 9 15), .ref (γ 9 16), .ref (γ 9 17), .ref (γ 9 18), .ref (γ 9 19), .ref (γ 9 20), .ref (γ 9 21), .ref (γ 9 22), .int p613137, .int p613138, .int p613139, .int p613140, .int p613141, .ref q613129, .ref (γ 9 29), .int p613142, .ref (γ 9 31), .int p613143, .int p613144, .int p613145, .ref q613130]) := (n613185 q572540 (rn_oo he613128 he613120 (by decide))).trans he613128
                              have he613188 : F613183 q612924 = .inr (20, [.int p613012, .int p613013, .int p613014, .int o613091, .int p613016, .int p613017, .int p613018]) := e613184
                              have mk613189 : mKp (F572539 q572540) (F613183 q572540) := mKp_tr mk613122 (mKp_eq (n613185 q572540 (rn_ty ht613111 ht613116 (by decide))))
                              have kp613190 : F613183 (γ0 9 3) = F572539 (γ0 9 3) := (n613185 (γ0 9 3) (rn_ty (rSk_k hs613108 k0_3 (by decide) (by decide)) ht613116 (by decide))).trans kp613109
                              have kp613191 : F613183 (γ0 9 19) = F607408 (γ0 9 19) := (n613185 (γ0 9 19) (rn_ty (rSk_k hs613108 k0_19 (by decide) (by decide)) ht613116 (by decide))).trans kp613110
                              have hT613192 : RS D I P613101 F613183 γ el := RS_set hT613107 n613185 ht613116 (by decide) ⟨p613012, p613013, p613014, o613091, p613016, p613017, p613018, he613188, bp613012, bp613013, bp613016, bp613017, bp613018, (gHe r613019), (gHe r613020), (Or.inr bo613091'), r613186.1, r613186.2⟩
                              have hs613194 := rSk_put hs613108 hT613192 n613185 ht613116 (by decide) (by decide)
                              have hm613196 : q610799 ∈ P613101 := RS_m hT613192 ht613114 (by decide)
                              obtain ⟨q613198, q613199, p613200, p613201, he613197, ht613208, ht613202, ht613203, ht613204, ht613205, ht613206, bp613200, bp613201, r613207, r613209, r613210⟩ := show rk_2 γ q610799 (F613183 q610799) from RS_o hT613192 ht613114
                              have hf613211 : γ 1 q613198 = f := (show γ 1 q613198 = γ 1 q610799 from ht613203).trans hf613115
                              have hf613212 : γ 1 q613199 = f := (show γ 1 q613199 = γ 1 q610799 from ht613205).trans hf613115
                              have r613213 : γ 6 (γ 1 q610799) = γ 6 f := by rw [hf613115]
                              have r613214 : γ 7 (γ 1 q610799) = γ 7 f := by rw [hf613115]
                              have r613215 : γ 19 (γ 1 q610799) = γ 19 f := by rw [hf613115]
                              have r613216 := r613207.resolve_left (by omega)
                              clear r613207
                              have r613217 : γ 2 (γ 14 q610799) = γ 2 q613198 := by rw [ht613208.1]
                              have pl613195 := sp_put hT613107 ht613112 hf613113 pl613179 n613185 hp613180 (show (g610659.toInt : Int).toNat < γ 6 f from tn_lt (by omega) (by omega)) (by unfold rwL; rw [x613095.2.2]; exact tn_le1 (by omega) (by omega))
                              have ac613218 : (fI (F613183 q572540) 11).toInt = p613133.toInt := by rw [he613187]; rfl
                              have ac613219 : (fI (F613183 q572540) 14).toInt = p613136.toInt := by rw [he613187]; rfl
                              refine G_lv (L' := [(0, .ref q572540), (1, .ref q572541), (2, .int g610659), (3, .ref q610799), (4, .int z613182), (5, .ref q612924)]) [2, 3, 4, 5, 0, 6] rfl ?_
                              exact jn292_612444 P613101 F613183 γ el z613182 q612924 ⟨by omega, by omega⟩ hT613192 hs613194 hph613123 hB613106 ht613114 hf613115 x613095.2.1 x613095.2.2 ht613116 hf613117 (by omega) (by omega) (by omega) (by omega) (by omega) (by omega) kp613191 (by rw [(show (z613182.toInt : Int).toNat = ((g612923.toInt : Int).toNat + 1) from tn_eq1 (by omega) (by omega))]; exact pl613195) (by rw [(show (z613182.toInt : Int).toNat = ((g612923.toInt : Int).toNat + 1) from tn_eq1 (by omega) (by omega))]; exact hp613180) (rS1_b he613011 he613188 (by omega) x612948) (by omega) (by omega) (ms_j x612951 (by omega) (by omega) (by omega)) (eO_j x612952 (by rw [he613188] <;> rfl) (by rw [he613011] <;> rfl) (by omega)) kp613190 mk613189
                            · have r613220 : o613091.toInt < 0 := gj_nleL hc613176 (show Int32.toInt 0 = 0 by decide)
                              have bo613091' : gB o613091 (-1) (-1) := ⟨by omega, by omega⟩
                              refine G_iconst 0 dr_cX17_spill_280 (by decide +kernel) ?_
                              exact G_zretA FieldType.boolean dr_cX17_spill_281 rfl rfl (rm_zc pk613124) (rm_zs pk613124) ⟨P613101, F613102, γ, el, 0, rfl, rfl, hs613108, (rm_pp hph613123), hB613106, (gB_w (gBl (show Int32.toInt 0 = 0 by decide)) (by decide) (by decide)), (by have qa0 : Int32.toInt 0 = 0 := (by decide); omega), (Or.inl (by decide)), kp613109, mk613122⟩
                    refine G_iload 0 dr_cX17_spill_102 rfl ?_
                    refine G_aload_n 1 dr_cX17_spill_104 rfl ?_
                    refine Gp_get 0 hm612372 he612373 dr_cX17_spill_105 (gk_X12 D I) (Nat.le_of_ble_eq_true rfl) wr_9_220 rfl ?_
                    refine Gw_callV (As := []) (gV_ok D I) (cp_7_ArrayList_size l hl0 D I P612295 F612296 q612374 p612396 q612398 p612397 hm612394 he612395 (gB_w bp612397 (by decide) (by decide))) dr_cX17_spill_108 ⟨wr_10_200, wr_1_18, wr_9_160, by decide, rfl, (Nat.le_of_ble_eq_true rfl), (Nat.le_of_ble_eq_true rfl)⟩ wr_9_158 wr_9_159 hm612394 he612395 rfl (rm_zc pk612321) (rm_zs pk612321) (Nat.le_of_ble_eq_true rfl) (fun r613224 w613225 dc613221 ds613222 hp613223 => ?_) (fun _ _ _ _ _ z => z.elim)
                    obtain ⟨rfl, rfl, hdc, hds⟩ := hp613223
                    change G _ _ _ _ _ _ _ (.int p612397 :: _) _ _ _
                    refine G_widen (cs' := ((rPh γ el f - rPh γ0 el0 f) / 18)) (sl' := (rPh γ el f - rPh γ0 el0 f)) (rm_d0 hdc) (rm_d0 hds) ?_
                    refine G_icmp_ge 129 dr_cX17_spill_111 (by decide +kernel) (fun hc613226 => ?_) (fun hc613226 => ?_)
                    · have r613227 : p612397.toInt ≤ g612294.toInt := gC_le hc613226
                      refine G_aload_n 1 dr_cX17_spill_129 rfl ?_
                      refine Gp_get 1 hm612372 he612373 dr_cX17_spill_130 (gk_X12 D I) (Nat.le_of_ble_eq_true rfl) wr_9_223 rfl ?_
                      have fl613230 : p612397.toInt = γ 2 q612374 := r612399
                      have hp613228 : rAt γ el q572541 (g610659.toInt : Int).toNat (g612294.toInt : Int).toNat = q612375 := (rAt_e r612304 ht612384.1 (by omega)).trans ht612384.2.1
                      have hL613229 : (g612294.toInt : Int).toNat ≤ γ 2 (rwL γ el q572541 (g610659.toInt : Int).toNat) := by unfold rwL; rw [r612304, ht612384.1]; exact tn_le0 (by omega) (by omega)
                      have hm613231 : q612375 ∈ P612295 := RS_m hT612297 ht612380 (by decide)
                      obtain ⟨p613233, p613234, p613235, p613236, p613237, p613238, p613239, he613232, bp613233, bp613234, bp613237, bp613238, bp613239, r613240, r613241, r613242, r613243, r613244⟩ := show rk_1 γ q612375 (F612296 q612375) from RS_o hT612297 ht612380
                      have bp613235 := gB_any p613235
                      have bp613236 := gB_any p613236
                      replace r613240 : gH _ := r613240
                      replace r613241 : gH _ := r613241
                      replace r613242 : gH _ := r613242
                      replace r613243 : gH _ := r613243
                      replace r613244 : gH _ := r613244
                      have r613245 : γ 7 (γ 1 q612375) = γ 7 f := by rw [hf612388]
                      have pl613246 := sp_hd x612312 hp613228 (show (g610659.toInt : Int).toNat < γ 6 f from tn_lt (by omega) (by omega)) hL613229
                      refine G_astore (L' := [(5, .ref q612375), (4, .int g612294), (3, .ref q610799), (2, .int g610659), (0, .ref q572540), (1, .ref q572541)]) dr_cX17_spill_133 (Nat.le_of_ble_eq_true rfl) rfl ?_
                      refine G_aload 0 dr_cX17_spill_135 rfl ?_
                      refine Gw_callV (As := []) (gV_ok D I) (cp_398571_Row_usesA l hl0 D I P612295 F612296 q612375 p613233 p613234 p613235 p613236 p613237 p613238 p613239 hm613231 he613232 bp613233 bp613234 bp613237 bp613238 bp613239) dr_cX17_spill_137 ⟨wr_10_192, wr_1_39, wr_10_195, by decide, rfl, (Nat.le_of_ble_eq_true rfl), (Nat.le_of_ble_eq_true rfl)⟩ wr_10_193 wr_10_194 hm613231 he613232 rfl (rm_zc pk612321) (rm_zs pk612321) (Nat.le_of_ble_eq_true rfl) (fun r613250 w613251 dc613247 ds613248 hp613249 => ?_) (fun _ _ _ _ _ z => z.elim)
                      obtain ⟨o613252, rfl, rfl, hdc, hds, bo613252, x613253⟩ := hp613249
                      change G _ _ _ _ _ _ _ (.int o613252 :: _) _ _ _
                      refine G_widen (cs' := ((rPh γ el f - rPh γ0 el0 f) / 18)) (sl' := (rPh γ el f - rPh γ0 el0 f)) (rm_d0 hdc) (rm_d0 hds) ?_
                      refine G_if_eq 151 dr_cX17_spill_140 (by decide +kernel) (fun hc613254 => ?_) (fun hc613254 => ?_)
                      · have r613255 : o613252.toInt = 0 := gj_eq hc613254 (show Int32.toInt 0 = 0 by decide)
                        have bo613252' : gB o613252 0 0 := gB_t0 r613255
                        refine G_iconst (-1) dr_cX17_spill_151 (by decide +kernel) ?_
                        refine G_istore (L' := [(6, .int (-1)), (5, .ref q612375), (4, .int g612294), (3, .ref q610799), (2, .int g610659), (0, .ref q572540), (1, .ref q572541)]) dr_cX17_spill_152 (Nat.le_of_ble_eq_true rfl) rfl ?_
                        refine G_aload 1 dr_cX17_spill_154 rfl ?_
                        refine Gw_callV (As := []) (gV_ok D I) (cp_398595_Row_usesB l hl0 D I P612295 F612296 q612375 p613233 p613234 p613235 p613236 p613237 p613238 p613239 hm613231 he613232 bp613233 bp613234 bp613237 bp613238 bp613239) dr_cX17_spill_156 ⟨wr_10_196, wr_1_39, wr_10_199, by decide, rfl, (Nat.le_of_ble_eq_true rfl), (Nat.le_of_ble_eq_true rfl)⟩ wr_10_197 wr_10_198 hm613231 he613232 rfl (rm_zc pk612321) (rm_zs pk612321) (Nat.le_of_ble_eq_true rfl) (fun r613259 w613260 dc613256 ds613257 hp613258 => ?_) (fun _ _ _ _ _ z => z.elim)
                        obtain ⟨o613261, rfl, rfl, hdc, hds, bo613261, x613262⟩ := hp613258
                        change G _ _ _ _ _ _ _ (.int o613261 :: _) _ _ _
                        refine G_widen (cs' := ((rPh γ el f - rPh γ0 el0 f) / 18)) (sl' := (rPh γ el f - rPh γ0 el0 f)) (rm_d0 hdc) (rm_d0 hds) ?_
                        refine G_if_eq 170 dr_cX17_spill_159 (by decide +kernel) (fun hc613263 => ?_) (fun hc613263 => ?_)
                        · have r613264 : o613261.toInt = 0 := gj_eq hc613263 (show Int32.toInt 0 = 0 by decide)
                          have bo613261' : gB o613261 0 0 := gB_t0 r613264
                          refine G_iconst (-1) dr_cX17_spill_170 (by decide +kernel) ?_
                          refine G_istore (L' := [(7, .int (-1)), (6, .int (-1)), (5, .ref q612375), (4, .int g612294), (3, .ref q610799), (2, .int g610659), (0, .ref q572540), (1, .ref q572541)]) dr_cX17_spill_171 (Nat.le_of_ble_eq_true rfl) rfl ?_
                          refine G_iload 1 dr_cX17_spill_173 rfl ?_
                          refine G_if_lt 236 dr_cX17_spill_175 (by decide +kernel) (fun _ => ?_) (fun hc => absurd hc (by decide))
                          have ac613265 : (fI (F612296 q572540) 11).toInt = p612329.toInt := by rw [he612324]; rfl
                          have ac613266 : (fI (F612296 q572540) 14).toInt = p612332.toInt := by rw [he612324]; rfl
                          refine G_lv (L' := [(0, .ref q572540), (1, .ref q572541), (2, .int g610659), (3, .ref q610799), (4, .int g612294), (5, .ref q612375), (6, .int (-1)), (7, .int (-1))]) [6, 7, 5, 4, 3, 2, 1, 0] rfl ?_
                          exact jn236_612954 P612295 F612296 γ el g612294 q612375 (-1) (-1) (gB_w bg612294' (by decide) (by decide)) (gB_w (gBl (show Int32.toInt (-1) = (-1) by decide)) (by decide) (by decide)) (gB_w (gBl (show Int32.toInt (-1) = (-1) by decide)) (by decide) (by decide)) hT612297 hs612298 hph612299 hB612300 ht612301 hf612302 r612303 r612304 ht612380 hf612388 (by have qa0 : Int32.toInt (-1) = (-1) := (by decide); omega) (by have qa0 : Int32.toInt (-1) = (-1) := (by decide); omega) (by have qa0 : Int32.toInt (-1) = (-1) := (by decide); omega) (by have qa0 : Int32.toInt (-1) = (-1) := (by decide); omega) (by have qa0 : Int32.toInt (-1) = (-1) := (by decide); omega) (by have qa0 : Int32.toInt (-1) = (-1) := (by decide); omega) x612311 (by exact pl613246.1) (by exact hp613228) (rS1_of he613232 he613232 pl613246.2 (fun h1 h2 h3 h4 => (uA_0 x613253 (by omega) h1 h2 h3 h4).elim) (fun h1 h2 h3 => (uB_0 x613262 (by omega) h1 h2 h3).elim)) (by have qa0 : Int32.toInt (-1) = (-1) := (by decide); omega) (by have qa0 : Int32.toInt (-1) = (-1) := (by decide); omega) (ms_j hm90_612316 (by omega) (by omega) (by omega)) (eO_c (op := p613233.toInt) (by rw [he613232] <;> rfl) (Or.inr ((gHe r613244).resolve_left (fun z => absurd (ht612382.2.symm.trans z) (by decide))))) x612315 x612316
                        · have r613267 : o613261.toInt ≠ 0 := gj_neq hc613263 (show Int32.toInt 0 = 0 by decide)
                          have bo613261' : gB o613261 1 1 := gB_t1 bo613261 r613267
                          refine G_aload 1 dr_cX17_spill_162 rfl ?_
                          refine Gp_get 3 hm613231 he613232 dr_cX17_spill_164 (gk_X15 D I) (Nat.le_of_ble_eq_true rfl) wr_9_190 rfl ?_
                          have rb613268 : gB p613236 0 1999 := (gHe r613242).resolve_left (by have z := (uB_1 x613262 (by omega)).2.2; omega)
                          refine G_goto 171 dr_cX17_spill_167 (by decide +kernel) ?_
                          refine G_istore (L' := [(7, .int p613236), (6, .int (-1)), (5, .ref q612375), (4, .int g612294), (3, .ref q610799), (2, .int g610659), (0, .ref q572540), (1, .ref q572541)]) dr_cX17_spill_171 (Nat.le_of_ble_eq_true rfl) rfl ?_
                          refine G_iload 1 dr_cX17_spill_173 rfl ?_
                          refine G_if_lt 236 dr_cX17_spill_175 (by decide +kernel) (fun _ => ?_) (fun hc => absurd hc (by decide))
                          have ac613269 : (fI (F612296 q572540) 11).toInt = p612329.toInt := by rw [he612324]; rfl
                          have ac613270 : (fI (F612296 q572540) 14).toInt = p612332.toInt := by rw [he612324]; rfl
                          refine G_lv (L' := [(0, .ref q572540), (1, .ref q572541), (2, .int g610659), (3, .ref q610799), (4, .int g612294), (5, .ref q612375), (6, .int (-1)), (7, .int p613236)]) [6, 7, 5, 4, 3, 2, 1, 0] rfl ?_
                          exact jn236_612954 P612295 F612296 γ el g612294 q612375 (-1) p613236 (gB_w bg612294' (by decide) (by decide)) (gB_w (gBl (show Int32.toInt (-1) = (-1) by decide)) (by decide) (by decide)) (gB_w rb613268 (by decide) (by decide)) hT612297 hs612298 hph612299 hB612300 ht612301 hf612302 r612303 r612304 ht612380 hf612388 (by have qa0 : Int32.toInt (-1) = (-1) := (by decide); omega) (by have qa0 : Int32.toInt (-1) = (-1) := (by decide); omega) (by have qa0 : Int32.toInt (-1) = (-1) := (by decide); omega) (by have qa0 : Int32.toInt (-1) = (-1) := (by decide); omega) (by have qa0 : Int32.toInt (-1) = (-1) := (by decide); omega) (by have qa0 : Int32.toInt (-1) = (-1) := (by decide); omega) x612311 (by exact pl613246.1) (by exact hp613228) (rS1_of he613232 he613232 pl613246.2 (fun h1 h2 h3 h4 => (uA_0 x613253 (by omega) h1 h2 h3 h4).elim) (fun _ _ _ => Or.inr ⟨rfl, rfl, by omega, Or.inl (by have qa : Int32.toInt (-1) = -1 := (by decide); omega)⟩)) (by have qa0 : Int32.toInt (-1) = (-1) := (by decide); omega) (by have qa0 : Int32.toInt (-1) = (-1) := (by decide); omega) (ms_j hm90_612316 (by omega) (by omega) (by omega)) (eO_c (op := p613233.toInt) (by rw [he613232] <;> rfl) (Or.inr ((gHe r613244).resolve_left (fun z => absurd (ht612382.2.symm.trans z) (by decide))))) x612315 x612316
                      · have r613271 : o613252.toInt ≠ 0 := gj_neq hc613254 (show Int32.toInt 0 = 0 by decide)
                        have bo613252' : gB o613252 1 1 := gB_t1 bo613252 r613271
                        refine G_aload 0 dr_cX17_spill_143 rfl ?_
                        refine Gp_get 2 hm613231 he613232 dr_cX17_spill_145 (gk_X15 D I) (Nat.le_of_ble_eq_true rfl) wr_9_186 rfl ?_
                        have rb613272 : gB p613235 0 1999 := (gHe r613241).resolve_left (by have z := (uA_1 x613253 (by omega)).2.2.2; omega)
                        refine G_goto 152 dr_cX17_spill_148 (by decide +kernel) ?_
                        refine G_istore (L' := [(6, .int p613235), (5, .ref q612375), (4, .int g612294), (3, .ref q610799), (2, .int g610659), (0, .ref q572540), (1, .ref q572541)]) dr_cX17_spill_152 (Nat.le_of_ble_eq_true rfl) rfl ?_
                        refine G_aload 1 dr_cX17_spill_154 rfl ?_
                        refine Gw_callV (As := []) (gV_ok D I) (cp_398595_Row_usesB l hl0 D I P612295 F612296 q612375 p613233 p613234 p613235 p613236 p613237 p613238 p613239 hm613231 he613232 bp613233 bp613234 bp613237 bp613238 bp613239) dr_cX17_spill_156 ⟨wr_10_196, wr_1_39, wr_10_199, by decide, rfl, (Nat.le_of_ble_eq_true rfl), (Nat.le_of_ble_eq_true rfl)⟩ wr_10_197 wr_10_198 hm613231 he613232 rfl (rm_zc pk612321) (rm_zs pk612321) (Nat.le_of_ble_eq_true rfl) (fun r613276 w613277 dc613273 ds613274 hp613275 => ?_) (fun _ _ _ _ _ z => z.elim)
                        obtain ⟨o613278, rfl, rfl, hdc, hds, bo613278, x613279⟩ := hp613275
                        change G _ _ _ _ _ _ _ (.int o613278 :: _) _ _ _
                        refine G_widen (cs' := ((rPh γ el f - rPh γ0 el0 f) / 18)) (sl' := (rPh γ el f - rPh γ0 el0 f)) (rm_d0 hdc) (rm_d0 hds) ?_
                        refine G_if_eq 170 dr_cX17_spill_159 (by decide +kernel) (fun hc613280 => ?_) (fun hc613280 => ?_)
                        · have r613281 : o613278.toInt = 0 := gj_eq hc613280 (show Int32.toInt 0 = 0 by decide)
                          have bo613278' : gB o613278 0 0 := gB_t0 r613281
                          refine G_iconst (-1) dr_cX17_spill_170 (by decide +kernel) ?_
                          refine G_istore (L' := [(7, .int (-1)), (6, .int p613235), (5, .ref q612375), (4, .int g612294), (3, .ref q610799), (2, .int g610659), (0, .ref q572540), (1, .ref q572541)]) dr_cX17_spill_171 (Nat.le_of_ble_eq_true rfl) rfl ?_
                          refine G_iload 1 dr_cX17_spill_173 rfl ?_
                          refine G_if_lt 236 dr_cX17_spill_175 (by decide +kernel) (fun hc => absurd (show False by have := gj_lt hc (show Int32.toInt 0 = 0 by decide); omega) not_false) (fun _ => ?_)
                          refine G_aload_n 6 dr_cX17_spill_178 rfl ?_
                          refine Gp_get 19 hm612323 he612324 dr_cX17_spill_179 (gk_X17 D I) (Nat.le_of_ble_eq_true rfl) wr_7_93 rfl ?_
                          refine G_iload 1 dr_cX17_spill_182 rfl ?_
                          have hm613282 : (γ 9 19) ∈ P612295 := RS_m hT612297 ht612357 (by decide)
                          obtain ⟨f613284, he613283, bf613284⟩ := show rk_21 I (F612296 (γ 9 19)) from RS_o hT612297 ht612357
                          refine Gp_iald 0 hm613282 he613283 dr_cX17_spill_184 rfl (gB_in rb613272 (by decide) (by decide)) (G_nam fun z613285 hz613285 => ?_)
                          have bz613285 : gB z613285 (-1) 1999 := by rw [hz613285]; exact bf613284 _
                          have c9_613286 : cB (F607408 (γ0 9 19)) = f613284 := by rw [← x612311, ← congrFun (rSk_9 hs612298) 19]; exact cB_of he613283
                          have hs613287 : (cB (F607408 (γ0 9 19)) p613235.toInt.toNat).toInt = z613285.toInt := by rw [c9_613286, hz613285]; rfl
                          refine G_if_lt 236 dr_cX17_spill_185 (by decide +kernel) (fun hc613289 => ?_) (fun hc613289 => ?_)
                          · have r613290 : z613285.toInt < 0 := gj_lt hc613289 (show Int32.toInt 0 = 0 by decide)
                            have bz613285' : gB z613285 (-1) (-1) := ⟨by omega, by omega⟩
                            have ac613291 : (fI (F612296 q572540) 11).toInt = p612329.toInt := by rw [he612324]; rfl
                            have ac613292 : (fI (F612296 q572540) 14).toInt = p612332.toInt := by rw [he612324]; rfl
                            refine G_lv (L' := [(0, .ref q572540), (1, .ref q572541), (2, .int g610659), (3, .ref q610799), (4, .int g612294), (5, .ref q612375), (6, .int p613235), (7, .int (-1))]) [6, 7, 5, 4, 3, 2, 1, 0] rfl ?_
                            exact jn236_612954 P612295 F612296 γ el g612294 q612375 p613235 (-1) (gB_w bg612294' (by decide) (by decide)) (gB_w rb613272 (by decide) (by decide)) (gB_w (gBl (show Int32.toInt (-1) = (-1) by decide)) (by decide) (by decide)) hT612297 hs612298 hph612299 hB612300 ht612301 hf612302 r612303 r612304 ht612380 hf612388 (by have qa0 : Int32.toInt (-1) = (-1) := (by decide); omega) (by have qa0 : Int32.toInt (-1) = (-1) := (by decide); omega) (by have qa0 : Int32.toInt (-1) = (-1) := (by decide); omega) (by have qa0 : Int32.toInt (-1) = (-1) := (by decide); omega) (by have qa0 : Int32.toInt (-1) = (-1) := (by decide); omega) (by have qa0 : Int32.toInt (-1) = (-1) := (by decide); omega) x612311 (by exact pl613246.1) (by exact hp613228) (rS1_of he613232 he613232 pl613246.2 (fun _ _ _ _ => Or.inr ⟨rfl, by omega⟩) (fun h1 h2 h3 => (uB_0 x613279 (by omega) h1 h2 h3).elim)) (by have qa0 : Int32.toInt (-1) = (-1) := (by decide); omega) (by have qa0 : Int32.toInt (-1) = (-1) := (by decide); omega) (ms_j hm90_612316 (by omega) (by omega) (by omega)) (eO_c (op := p613233.toInt) (by rw [he613232] <;> rfl) (Or.inr ((gHe r613244).resolve_left (fun z => absurd (ht612382.2.symm.trans z) (by decide))))) x612315 x612316
                          · have r613293 : 0 ≤ z613285.toInt := gj_nlt hc613289 (show Int32.toInt 0 = 0 by decide)
                            have bz613285' : gB z613285 0 1999 := ⟨by omega, by omega⟩
                            refine G_aload_n 6 dr_cX17_spill_188 rfl ?_
                            refine G_aload_n 7 dr_cX17_spill_189 rfl ?_
                            refine G_aload_n 4 dr_cX17_spill_190 rfl ?_
                            refine G_iload 3 dr_cX17_spill_191 rfl ?_
                            refine G_aload_n 6 dr_cX17_spill_193 rfl ?_
                            refine Gp_get 19 hm612323 he612324 dr_cX17_spill_194 (gk_X17 D I) (Nat.le_of_ble_eq_true rfl) wr_7_93 rfl ?_
                            refine G_iload 1 dr_cX17_spill_197 rfl ?_
                            refine Gp_iald 0 hm613282 he613283 dr_cX17_spill_199 rfl (gB_in rb613272 (by decide) (by decide)) (G_eqi (y := z613285) hz613285.symm ?_)
                            have r613294 := (spi607493.2.2.2 p613235.toInt.toNat (tn_lt (by omega) (by omega)) (by omega)).2.2
                            have ac613295 : (fI (F612296 q572540) 11).toInt = p612329.toInt := by rw [he612324]; rfl
                            have ac613296 : (fI (F612296 q572540) 14).toInt = p612332.toInt := by rw [he612324]; rfl
                            have rg613297 := rM_ge hT612297 ht612319 hf612320
                            have rm613298 := rM_bd hB612300
                            have bd613299 := rBd_c hT612297 ht612319 hf612320 hB612300
                            have rc613300 := rc_at hT612297 ht612319 hf612320
                            refine Gw_callV (As := [.ref q572541, .ref q610799, .int g612294, .int z613285]) (gV_ok D I) (cg_398209_SpillForgeModel_load l hl0 D I γ el f B P612295 F612296 q572540 q572541 q610799 g612294 z613285 g610659.toInt.toNat hT612297 ht612318 ht612319 ht612301 hf612320 hB612300 hBk r612303 r612304 hf612302 bg612294' bz613285' (by have qa0 : Int32.toInt (-1) = (-1) := (by decide); omega) (by have qa0 : Int32.toInt (-1) = (-1) := (by decide); omega) (by have qa0 : Int32.toInt (-1) = (-1) := (by decide); omega) (by have qa0 : Int32.toInt (-1) = (-1) := (by decide); omega) (by have qa0 : Int32.toInt (-1) = (-1) := (by decide); omega)) dr_cX17_spill_200 ⟨wr_11_67, wr_1_14, wr_11_70, by decide, rfl, (Nat.le_of_ble_eq_true rfl), (Nat.le_of_ble_eq_true rfl)⟩ wr_11_69 wr_p_111 hm612323 he612324 rfl (rm_gc hph612299 pk612321) (rm_gs hph612299 pk612321) (Nat.le_of_ble_eq_true rfl) (fun r613304 w613305 dc613301 ds613302 hp613303 => ?_) (fun _ _ _ _ _ z => z.elim)
                            obtain ⟨P613316, F613317, γ, el, o613306, rfl, rfl, hk613318, ⟨hr613319, hr613320⟩, hB613321, bo613306, x613307, x613308, x613309, x613310, x613311, x613312, x613313, x613314, x613315⟩ := hp613303
                            have hT613322 := hk613318.1
                            have hs613323 := rSk_tr hs612298 hk613318 (by decide) (by decide) (by decide)
                            have kp613324 : F613317 (γ0 9 3) = F572539 (γ0 9 3) := (rSk_F hk613318 (rSk_k hs612298 k0_3 (by decide) (by decide)) (by decide) (by decide)).trans x612315
                            have kp613325 : F613317 (γ0 9 19) = F607408 (γ0 9 19) := (rSk_F hk613318 (rSk_k hs612298 k0_19 (by decide) (by decide)) (by decide) (by decide)).trans x612311
                            have ht613326 : rKd γ q572540 10 := rSk_k hk613318 ht612318 (by decide) (by decide)
                            have ht613327 : rKd γ q572541 9 := rSk_k hk613318 ht612319 (by decide) (by decide)
                            have hf613328 : γ 1 q572541 = f := rSk_1 hk613318 ht612319 (by decide) hf612320
                            have ht613329 : rKd γ q610799 2 := rSk_k hk613318 ht612301 (by decide) (by decide)
                            have hf613330 : γ 1 q610799 = f := rSk_1 hk613318 ht612301 (by decide) hf612302
                            have ht613331 : rKd γ q612374 3 := rSk_k hk613318 ht612378 (by decide) (by decide)
                            have hf613332 : γ 1 q612374 = f := rSk_1 hk613318 ht612378 (by decide) hf612387
                            have ht613333 : rKd γ q612375 1 := rSk_k hk613318 ht612380 (by decide) (by decide)
                            have hf613334 : γ 1 q612375 = f := rSk_1 hk613318 ht612380 (by decide) hf612388
                            have he613335 : F613317 q612375 = .inr (20, [.int p613233, .int p613234, .int p613235, .int p613236, .int p613237, .int p613238, .int p613239]) := (rSk_F hk613318 ht612380 (by decide) (by decide)).trans he613232
                            have hm613336 : q612375 ∈ P613316 := RS_m hT613322 ht613333 (by decide)
                            clear bp612376 bp612377 r612385 r612386 rg613297 rm613298 bd613299 rc613300
                            have mk613337 : mKp (F572539 q572540) (F613317 q572540) := mKp_tr x612316 x613315
                            have hph613338 : rPh γ0 el0 f ≤ rPh γ el f := rm_ph hph612299 hr613320
                            have pk613339 : rPh γ el f ≤ 387 * B + 6000 := rm_pk (rM_ge hT613322 ht613327 hf613328).1 (rM_bd hB613321)
                            change G _ _ _ _ _ _ _ (.int o613306 :: _) _ _ _
                            refine G_widen (cs' := ((rPh γ el f - rPh γ0 el0 f) / 18)) (sl' := (rPh γ el f - rPh γ0 el0 f)) (rm_wc hph612299 hr613319) (rm_ws hph612299 hr613320) ?_
                            have sz613340 := x613307
                            have r613341 : 0 < γ 6 (γ 1 q572541) := by rw [hf613328]; omega
                            have hm613342 : q572540 ∈ P613316 := RS_m hT613322 ht613326 (by decide)
                            refine rk10_e (show rk_10 γ (F613317 q572540) from RS_o hT613322 ht613326) (fun q613344 q613345 p613346 p613347 p613348 p613349 p613350 p613351 p613352 p613353 p613354 p613355 p613356 p613357 p613358 p613359 p613360 he613343 hB613387 ht613361 ht613362 ht613363 ht613364 ht613365 ht613366 ht613367 ht613368 ht613369 ht613370 ht613371 ht613372 ht613373 ht613374 ht613375 ht613376 ht613377 ht613378 ht613379 ht613380 ht613381 ht613382 ht613383 ht613384 hB613388 => ?_)
                            have ac613389 : (fI (F613317 q572540) 11).toInt = p613348.toInt := by rw [he613343]; rfl
                            have bp613348 : gB p613348 0 100 := (hB613387.2.2.1)
                            have ac613390 : (fI (F613317 q572540) 14).toInt = p613351.toInt := by rw [he613343]; rfl
                            have bp613351 : gB p613351 0 2000 := (hB613387.2.2.2.1)
                            refine G_istore (L' := [(8, .int o613306), (7, .int (-1)), (6, .int p613235), (5, .ref q612375), (4, .int g612294), (3, .ref q610799), (2, .int g610659), (0, .ref q572540), (1, .ref q572541)]) dr_cX17_spill_203 (Nat.le_of_ble_eq_true rfl) rfl ?_
                            refine G_iload 0 dr_cX17_spill_205 rfl ?_
                            refine G_if_ge 212 dr_cX17_spill_207 (by decide +kernel) (fun hc613391 => ?_) (fun hc613391 => ?_)
                            · have r613392 : 0 ≤ o613306.toInt := gj_leL hc613391 (show Int32.toInt 0 = 0 by decide)
                              have bo613306' : gB o613306 0 1999 := ⟨by omega, by omega⟩
                              have pl613394 := sp_ld (x613313.resolve_left (by omega)) pl613246.1 (tn_ge (by omega)) (rfl : ((g612294.toInt : Int).toNat + 1) = (g612294.toInt : Int).toNat + 1)
                              have hp613395 : rAt γ el q572541 (g610659.toInt : Int).toNat ((g612294.toInt : Int).toNat + 1) = q612375 := ((x613314.resolve_left (by omega)) (g612294.toInt : Int).toNat (Nat.le_refl _)).trans hp613228
                              have r613396 := x613311.resolve_left (by omega)
                              clear x613311 x613313 x613314
                              obtain ⟨z613397, hz613397⟩ : ∃ z : Int32, z = g612294 + Int32.ofInt 1 := ⟨_, rfl⟩
                              have ez613397 : z613397.toInt = g612294.toInt + 1 := gI_inc hz613397 (by decide) bg612294' (by decide) (by decide)
                              have bz613397 : gB z613397 1 1000001 := ⟨by omega, by omega⟩
                              refine G_iinc (L' := [(4, .int z613397), (8, .int o613306), (7, .int (-1)), (6, .int p613235), (5, .ref q612375), (3, .ref q610799), (2, .int g610659), (0, .ref q572540), (1, .ref q572541)]) z613397 4 dr_cX17_spill_212 rfl hz613397.symm (Nat.le_of_ble_eq_true rfl) rfl ?_
                              refine G_aload 4 dr_cX17_spill_215 rfl ?_
                              refine G_iload 1 dr_cX17_spill_217 rfl ?_
                              refine Gp_put 2 hm613336 he613335 dr_cX17_spill_219 (gk_X15 D I) (Nat.le_of_ble_eq_true rfl) wr_9_186 rfl rfl rfl (Nat.le_of_ble_eq_true rfl) (fun F613398 e613399 n613400 => ?_)
                              have r613401 := rk1_at hT613322 ht613333 he613335
                              have he613402 : F613398 q572540 = .inr (22, [.ref (γ 9 0), .ref (γ 9 1), .ref (γ 9 2), .ref (γ 9 3), .ref (γ 9 4), .ref (γ 9 5), .ref (γ 9 6), .ref (γ 9 7), .ref (γ 9 8), .int p613346, .int p613347, .int p613348, .int p613349, .int p613350, .int p613351, .ref (γ 9 15), .ref (γ 9 16), .ref (γ 9 17), .ref (γ 9 18), .ref (γ 9 19), .ref (γ 9 20), .ref (γ 9 21), .ref (γ 9 22), .int p613352, .int p613353, .int p613354, .int p613355, .int p613356, .ref q613344, .ref (γ 9 29), .int p613357, .ref (γ 9 31), .int p613358, .int p613359, .int p613360, .ref q613345]) := (n613400 q572540 (rn_oo he613343 he613335 (by decide))).trans he613343
                              have he613403 : F613398 q612375 = .inr (20, [.int p613233, .int p613234, .int o613306, .int p613236, .int p613237, .int p613238, .int p613239]) := e613399
                              have mk613404 : mKp (F572539 q572540) (F613398 q572540) := mKp_tr mk613337 (mKp_eq (n613400 q572540 (rn_ty ht613326 ht613333 (by decide))))
                              have kp613405 : F613398 (γ0 9 3) = F572539 (γ0 9 3) := (n613400 (γ0 9 3) (rn_ty (rSk_k hs613323 k0_3 (by decide) (by decide)) ht613333 (by decide))).trans kp613324
                              have kp613406 : F613398 (γ0 9 19) = F607408 (γ0 9 19) := (n613400 (γ0 9 19) (rn_ty (rSk_k hs613323 k0_19 (by decide) (by decide)) ht613333 (by decide))).trans kp613325
                              refine G_iload 2 dr_cX17_spill_222 rfl ?_
                              refine G_iload 3 dr_cX17_spill_224 rfl ?_
                              refine G_icmp_ne 236 dr_cX17_spill_226 (by decide +kernel) (fun _ => ?_) (fun hc => absurd (show False by have := gj_eqL hc (show Int32.toInt (-1) = (-1) by decide); omega) not_false)
                              have hT613407 : RS D I P613316 F613398 γ el := RS_set hT613322 n613400 ht613333 (by decide) ⟨p613233, p613234, o613306, p613236, p613237, p613238, p613239, he613403, bp613233, bp613234, bp613237, bp613238, bp613239, (gHe r613240), (Or.inr bo613306'), (gHe r613242), r613401.1, r613401.2⟩
                              have hs613409 := rSk_put hs613323 hT613407 n613400 ht613333 (by decide) (by decide)
                              have hm613411 : q610799 ∈ P613316 := RS_m hT613407 ht613329 (by decide)
                              obtain ⟨q613413, q613414, p613415, p613416, he613412, ht613423, ht613417, ht613418, ht613419, ht613420, ht613421, bp613415, bp613416, r613422, r613424, r613425⟩ := show rk_2 γ q610799 (F613398 q610799) from RS_o hT613407 ht613329
                              have hf613426 : γ 1 q613413 = f := (show γ 1 q613413 = γ 1 q610799 from ht613418).trans hf613330
                              have hf613427 : γ 1 q613414 = f := (show γ 1 q613414 = γ 1 q610799 from ht613420).trans hf613330
                              have r613428 : γ 6 (γ 1 q610799) = γ 6 f := by rw [hf613330]
                              have r613429 : γ 7 (γ 1 q610799) = γ 7 f := by rw [hf613330]
                              have r613430 : γ 19 (γ 1 q610799) = γ 19 f := by rw [hf613330]
                              have r613431 := r613422.resolve_left (by omega)
                              clear r613422
                              have r613432 : γ 2 (γ 14 q610799) = γ 2 q613413 := by rw [ht613423.1]
                              have pl613410 := sp_put hT613322 ht613327 hf613328 pl613394 n613400 hp613395 (show (g610659.toInt : Int).toNat < γ 6 f from tn_lt (by omega) (by omega)) (by unfold rwL; rw [x613310.2.2]; exact tn_le1 (by omega) (by omega))
                              have ac613433 : (fI (F613398 q572540) 11).toInt = p613348.toInt := by rw [he613402]; rfl
                              have ac613434 : (fI (F613398 q572540) 14).toInt = p613351.toInt := by rw [he613402]; rfl
                              refine G_lv (L' := [(0, .ref q572540), (1, .ref q572541), (2, .int g610659), (3, .ref q610799), (4, .int z613397), (5, .ref q612375), (6, .int p613235), (7, .int (-1))]) [7, 8, 6, 5, 0, 4, 3, 2] rfl ?_
                              exact jn236_612954 P613316 F613398 γ el z613397 q612375 p613235 (-1) (gB_w bz613397 (by decide) (by decide)) (gB_w rb613272 (by decide) (by decide)) (gB_w (gBl (show Int32.toInt (-1) = (-1) by decide)) (by decide) (by decide)) hT613407 hs613409 hph613338 hB613321 ht613329 hf613330 x613310.2.1 x613310.2.2 ht613333 hf613334 (by have qa0 : Int32.toInt (-1) = (-1) := (by decide); omega) (by have qa0 : Int32.toInt (-1) = (-1) := (by decide); omega) (by have qa0 : Int32.toInt (-1) = (-1) := (by decide); omega) (by have qa0 : Int32.toInt (-1) = (-1) := (by decide); omega) (by have qa0 : Int32.toInt (-1) = (-1) := (by decide); omega) (by have qa0 : Int32.toInt (-1) = (-1) := (by decide); omega) kp613406 (by rw [(show (z613397.toInt : Int).toNat = ((g612294.toInt : Int).toNat + 1) from tn_eq1 (by omega) (by omega))]; exact pl613410) (by rw [(show (z613397.toInt : Int).toNat = ((g612294.toInt : Int).toNat + 1) from tn_eq1 (by omega) (by omega))]; exact hp613395) (rS1_of he613232 he613403 pl613246.2 (fun _ _ _ _ => Or.inl (by omega)) (fun h1 h2 h3 => (uB_0 x613279 (by omega) h1 h2 h3).elim)) (by have qa0 : Int32.toInt (-1) = (-1) := (by decide); omega) (by have qa0 : Int32.toInt (-1) = (-1) := (by decide); omega) (ms_j hm90_612316 (by omega) (by omega) (by omega)) (eO_c (op := p613233.toInt) (by rw [he613403] <;> rfl) (Or.inr ((gHe r613244).resolve_left (fun z => absurd (ht612382.2.symm.trans z) (by decide))))) kp613405 mk613404
                            · have r613435 : o613306.toInt < 0 := gj_nleL hc613391 (show Int32.toInt 0 = 0 by decide)
                              have bo613306' : gB o613306 (-1) (-1) := ⟨by omega, by omega⟩
                              refine G_iconst 0 dr_cX17_spill_210 (by decide +kernel) ?_
                              exact G_zretA FieldType.boolean dr_cX17_spill_211 rfl rfl (rm_zc pk613339) (rm_zs pk613339) ⟨P613316, F613317, γ, el, 0, rfl, rfl, hs613323, (rm_pp hph613338), hB613321, (gB_w (gBl (show Int32.toInt 0 = 0 by decide)) (by decide) (by decide)), (by have qa0 : Int32.toInt (-1) = (-1) := (by decide); have qa1 : Int32.toInt 0 = 0 := (by decide); omega), (Or.inl (by decide)), kp613324, mk613337⟩
                        · have r613436 : o613278.toInt ≠ 0 := gj_neq hc613280 (show Int32.toInt 0 = 0 by decide)
                          have bo613278' : gB o613278 1 1 := gB_t1 bo613278 r613436
                          refine G_aload 1 dr_cX17_spill_162 rfl ?_
                          refine Gp_get 3 hm613231 he613232 dr_cX17_spill_164 (gk_X15 D I) (Nat.le_of_ble_eq_true rfl) wr_9_190 rfl ?_
                          have rb613437 : gB p613236 0 1999 := (gHe r613242).resolve_left (by have z := (uB_1 x613279 (by omega)).2.2; omega)
                          refine G_goto 171 dr_cX17_spill_167 (by decide +kernel) ?_
                          refine G_istore (L' := [(7, .int p613236), (6, .int p613235), (5, .ref q612375), (4, .int g612294), (3, .ref q610799), (2, .int g610659), (0, .ref q572540), (1, .ref q572541)]) dr_cX17_spill_171 (Nat.le_of_ble_eq_true rfl) rfl ?_
                          refine G_iload 1 dr_cX17_spill_173 rfl ?_
                          refine G_if_lt 236 dr_cX17_spill_175 (by decide +kernel) (fun hc => absurd (show False by have := gj_lt hc (show Int32.toInt 0 = 0 by decide); omega) not_false) (fun _ => ?_)
                          refine G_aload_n 6 dr_cX17_spill_178 rfl ?_
                          refine Gp_get 19 hm612323 he612324 dr_cX17_spill_179 (gk_X17 D I) (Nat.le_of_ble_eq_true rfl) wr_7_93 rfl ?_
                          refine G_iload 1 dr_cX17_spill_182 rfl ?_
                          have hm613438 : (γ 9 19) ∈ P612295 := RS_m hT612297 ht612357 (by decide)
                          obtain ⟨f613440, he613439, bf613440⟩ := show rk_21 I (F612296 (γ 9 19)) from RS_o hT612297 ht612357
                          refine Gp_iald 0 hm613438 he613439 dr_cX17_spill_184 rfl (gB_in rb613272 (by decide) (by decide)) (G_nam fun z613441 hz613441 => ?_)
                          have bz613441 : gB z613441 (-1) 1999 := by rw [hz613441]; exact bf613440 _
                          have c9_613442 : cB (F607408 (γ0 9 19)) = f613440 := by rw [← x612311, ← congrFun (rSk_9 hs612298) 19]; exact cB_of he613439
                          have hs613443 : (cB (F607408 (γ0 9 19)) p613235.toInt.toNat).toInt = z613441.toInt := by rw [c9_613442, hz613441]; rfl
                          refine G_if_lt 236 dr_cX17_spill_185 (by decide +kernel) (fun hc613445 => ?_) (fun hc613445 => ?_)
                          · have r613446 : z613441.toInt < 0 := gj_lt hc613445 (show Int32.toInt 0 = 0 by decide)
                            have bz613441' : gB z613441 (-1) (-1) := ⟨by omega, by omega⟩
                            have ac613447 : (fI (F612296 q572540) 11).toInt = p612329.toInt := by rw [he612324]; rfl
                            have ac613448 : (fI (F612296 q572540) 14).toInt = p612332.toInt := by rw [he612324]; rfl
                            refine G_lv (L' := [(0, .ref q572540), (1, .ref q572541), (2, .int g610659), (3, .ref q610799), (4, .int g612294), (5, .ref q612375), (6, .int p613235), (7, .int p613236)]) [6, 7, 5, 4, 3, 2, 1, 0] rfl ?_
                            exact jn236_612954 P612295 F612296 γ el g612294 q612375 p613235 p613236 (gB_w bg612294' (by decide) (by decide)) (gB_w rb613272 (by decide) (by decide)) (gB_w rb613437 (by decide) (by decide)) hT612297 hs612298 hph612299 hB612300 ht612301 hf612302 r612303 r612304 ht612380 hf612388 (by omega) (by omega) (by omega) (by omega) (by omega) (by omega) x612311 (by exact pl613246.1) (by exact hp613228) (rS1_of he613232 he613232 pl613246.2 (fun _ _ _ _ => Or.inr ⟨rfl, by omega⟩) (fun _ _ _ => Or.inr ⟨rfl, rfl, by omega, (Classical.em (p613236.toInt = p613235.toInt)).elim (fun e => Or.inr (by rw [e]; omega)) (fun e => Or.inl e)⟩)) (by omega) (by omega) (ms_j hm90_612316 (by omega) (by omega) (by omega)) (eO_c (op := p613233.toInt) (by rw [he613232] <;> rfl) (Or.inr ((gHe r613244).resolve_left (fun z => absurd (ht612382.2.symm.trans z) (by decide))))) x612315 x612316
                          · have r613449 : 0 ≤ z613441.toInt := gj_nlt hc613445 (show Int32.toInt 0 = 0 by decide)
                            have bz613441' : gB z613441 0 1999 := ⟨by omega, by omega⟩
                            refine G_aload_n 6 dr_cX17_spill_188 rfl ?_
                            refine G_aload_n 7 dr_cX17_spill_189 rfl ?_
                            refine G_aload_n 4 dr_cX17_spill_190 rfl ?_
                            refine G_iload 3 dr_cX17_spill_191 rfl ?_
                            refine G_aload_n 6 dr_cX17_spill_193 rfl ?_
                            refine Gp_get 19 hm612323 he612324 dr_cX17_spill_194 (gk_X17 D I) (Nat.le_of_ble_eq_true rfl) wr_7_93 rfl ?_
                            refine G_iload 1 dr_cX17_spill_197 rfl ?_
                            refine Gp_iald 0 hm613438 he613439 dr_cX17_spill_199 rfl (gB_in rb613272 (by decide) (by decide)) (G_eqi (y := z613441) hz613441.symm ?_)
                            have r613450 := (spi607493.2.2.2 p613235.toInt.toNat (tn_lt (by omega) (by omega)) (by omega)).2.2
                            have ac613451 : (fI (F612296 q572540) 11).toInt = p612329.toInt := by rw [he612324]; rfl
                            have ac613452 : (fI (F612296 q572540) 14).toInt = p612332.toInt := by rw [he612324]; rfl
                            have rg613453 := rM_ge hT612297 ht612319 hf612320
                            have rm613454 := rM_bd hB612300
                            have bd613455 := rBd_c hT612297 ht612319 hf612320 hB612300
                            have rc613456 := rc_at hT612297 ht612319 hf612320
                            refine Gw_callV (As := [.ref q572541, .ref q610799, .int g612294, .int z613441]) (gV_ok D I) (cg_398209_SpillForgeModel_load l hl0 D I γ el f B P612295 F612296 q572540 q572541 q610799 g612294 z613441 g610659.toInt.toNat hT612297 ht612318 ht612319 ht612301 hf612320 hB612300 hBk r612303 r612304 hf612302 bg612294' bz613441' (by omega) (by omega) (by omega) (by omega) (by omega)) dr_cX17_spill_200 ⟨wr_11_67, wr_1_14, wr_11_70, by decide, rfl, (Nat.le_of_ble_eq_true rfl), (Nat.le_of_ble_eq_true rfl)⟩ wr_11_69 wr_p_111 hm612323 he612324 rfl (rm_gc hph612299 pk612321) (rm_gs hph612299 pk612321) (Nat.le_of_ble_eq_true rfl) (fun r613460 w613461 dc613457 ds613458 hp613459 => ?_) (fun _ _ _ _ _ z => z.elim)
                            obtain ⟨P613472, F613473, γ, el, o613462, rfl, rfl, hk613474, ⟨hr613475, hr613476⟩, hB613477, bo613462, x613463, x613464, x613465, x613466, x613467, x613468, x613469, x613470, x613471⟩ := hp613459
                            have hT613478 := hk613474.1
                            have hs613479 := rSk_tr hs612298 hk613474 (by decide) (by decide) (by decide)
                            have kp613480 : F613473 (γ0 9 3) = F572539 (γ0 9 3) := (rSk_F hk613474 (rSk_k hs612298 k0_3 (by decide) (by decide)) (by decide) (by decide)).trans x612315
                            have kp613481 : F613473 (γ0 9 19) = F607408 (γ0 9 19) := (rSk_F hk613474 (rSk_k hs612298 k0_19 (by decide) (by decide)) (by decide) (by decide)).trans x612311
                            have ht613482 : rKd γ q572540 10 := rSk_k hk613474 ht612318 (by decide) (by decide)
                            have ht613483 : rKd γ q572541 9 := rSk_k hk613474 ht612319 (by decide) (by decide)
                            have hf613484 : γ 1 q572541 = f := rSk_1 hk613474 ht612319 (by decide) hf612320
                            have ht613485 : rKd γ q610799 2 := rSk_k hk613474 ht612301 (by decide) (by decide)
                            have hf613486 : γ 1 q610799 = f := rSk_1 hk613474 ht612301 (by decide) hf612302
                            have ht613487 : rKd γ q612374 3 := rSk_k hk613474 ht612378 (by decide) (by decide)
                            have hf613488 : γ 1 q612374 = f := rSk_1 hk613474 ht612378 (by decide) hf612387
                            have ht613489 : rKd γ q612375 1 := rSk_k hk613474 ht612380 (by decide) (by decide)
                            have hf613490 : γ 1 q612375 = f := rSk_1 hk613474 ht612380 (by decide) hf612388
                            have he613491 : F613473 q612375 = .inr (20, [.int p613233, .int p613234, .int p613235, .int p613236, .int p613237, .int p613238, .int p613239]) := (rSk_F hk613474 ht612380 (by decide) (by decide)).trans he613232
                            have hm613492 : q612375 ∈ P613472 := RS_m hT613478 ht613489 (by decide)
                            clear bp612376 bp612377 r612385 r612386 rg613453 rm613454 bd613455 rc613456
                            have mk613493 : mKp (F572539 q572540) (F613473 q572540) := mKp_tr x612316 x613471
                            have hph613494 : rPh γ0 el0 f ≤ rPh γ el f := rm_ph hph612299 hr613476
                            have pk613495 : rPh γ el f ≤ 387 * B + 6000 := rm_pk (rM_ge hT613478 ht613483 hf613484).1 (rM_bd hB613477)
                            change G _ _ _ _ _ _ _ (.int o613462 :: _) _ _ _
                            refine G_widen (cs' := ((rPh γ el f - rPh γ0 el0 f) / 18)) (sl' := (rPh γ el f - rPh γ0 el0 f)) (rm_wc hph612299 hr613475) (rm_ws hph612299 hr613476) ?_
                            have sz613496 := x613463
                            have r613497 : 0 < γ 6 (γ 1 q572541) := by rw [hf613484]; omega
                            have hm613498 : q572540 ∈ P613472 := RS_m hT613478 ht613482 (by decide)
                            refine rk10_e (show rk_10 γ (F613473 q572540) from RS_o hT613478 ht613482) (fun q613500 q613501 p613502 p613503 p613504 p613505 p613506 p613507 p613508 p613509 p613510 p613511 p613512 p613513 p613514 p613515 p613516 he613499 hB613543 ht613517 ht613518 ht613519 ht613520 ht613521 ht613522 ht613523 ht613524 ht613525 ht613526 ht613527 ht613528 ht613529 ht613530 ht613531 ht613532 ht613533 ht613534 ht613535 ht613536 ht613537 ht613538 ht613539 ht613540 hB613544 => ?_)
                            have ac613545 : (fI (F613473 q572540) 11).toInt = p613504.toInt := by rw [he613499]; rfl
                            have bp613504 : gB p613504 0 100 := (hB613543.2.2.1)
                            have ac613546 : (fI (F613473 q572540) 14).toInt = p613507.toInt := by rw [he613499]; rfl
                            have bp613507 : gB p613507 0 2000 := (hB613543.2.2.2.1)
                            refine G_istore (L' := [(8, .int o613462), (7, .int p613236), (6, .int p613235), (5, .ref q612375), (4, .int g612294), (3, .ref q610799), (2, .int g610659), (0, .ref q572540), (1, .ref q572541)]) dr_cX17_spill_203 (Nat.le_of_ble_eq_true rfl) rfl ?_
                            refine G_iload 0 dr_cX17_spill_205 rfl ?_
                            refine G_if_ge 212 dr_cX17_spill_207 (by decide +kernel) (fun hc613547 => ?_) (fun hc613547 => ?_)
                            · have r613548 : 0 ≤ o613462.toInt := gj_leL hc613547 (show Int32.toInt 0 = 0 by decide)
                              have bo613462' : gB o613462 0 1999 := ⟨by omega, by omega⟩
                              have pl613550 := sp_ld (x613469.resolve_left (by omega)) pl613246.1 (tn_ge (by omega)) (rfl : ((g612294.toInt : Int).toNat + 1) = (g612294.toInt : Int).toNat + 1)
                              have hp613551 : rAt γ el q572541 (g610659.toInt : Int).toNat ((g612294.toInt : Int).toNat + 1) = q612375 := ((x613470.resolve_left (by omega)) (g612294.toInt : Int).toNat (Nat.le_refl _)).trans hp613228
                              have r613552 := x613467.resolve_left (by omega)
                              clear x613467 x613469 x613470
                              obtain ⟨z613553, hz613553⟩ : ∃ z : Int32, z = g612294 + Int32.ofInt 1 := ⟨_, rfl⟩
                              have ez613553 : z613553.toInt = g612294.toInt + 1 := gI_inc hz613553 (by decide) bg612294' (by decide) (by decide)
                              have bz613553 : gB z613553 1 1000001 := ⟨by omega, by omega⟩
                              refine G_iinc (L' := [(4, .int z613553), (8, .int o613462), (7, .int p613236), (6, .int p613235), (5, .ref q612375), (3, .ref q610799), (2, .int g610659), (0, .ref q572540), (1, .ref q572541)]) z613553 4 dr_cX17_spill_212 rfl hz613553.symm (Nat.le_of_ble_eq_true rfl) rfl ?_
                              refine G_aload 4 dr_cX17_spill_215 rfl ?_
                              refine G_iload 1 dr_cX17_spill_217 rfl ?_
                              refine Gp_put 2 hm613492 he613491 dr_cX17_spill_219 (gk_X15 D I) (Nat.le_of_ble_eq_true rfl) wr_9_186 rfl rfl rfl (Nat.le_of_ble_eq_true rfl) (fun F613554 e613555 n613556 => ?_)
                              have r613557 := rk1_at hT613478 ht613489 he613491
                              have he613558 : F613554 q572540 = .inr (22, [.ref (γ 9 0), .ref (γ 9 1), .ref (γ 9 2), .ref (γ 9 3), .ref (γ 9 4), .ref (γ 9 5), .ref (γ 9 6), .ref (γ 9 7), .ref (γ 9 8), .int p613502, .int p613503, .int p613504, .int p613505, .int p613506, .int p613507, .ref (γ 9 15), .ref (γ 9 16), .ref (γ 9 17), .ref (γ 9 18), .ref (γ 9 19), .ref (γ 9 20), .ref (γ 9 21), .ref (γ 9 22), .int p613508, .int p613509, .int p613510, .int p613511, .int p613512, .ref q613500, .ref (γ 9 29), .int p613513, .ref (γ 9 31), .int p613514, .int p613515, .int p613516, .ref q613501]) := (n613556 q572540 (rn_oo he613499 he613491 (by decide))).trans he613499
                              have he613559 : F613554 q612375 = .inr (20, [.int p613233, .int p613234, .int o613462, .int p613236, .int p613237, .int p613238, .int p613239]) := e613555
                              have mk613560 : mKp (F572539 q572540) (F613554 q572540) := mKp_tr mk613493 (mKp_eq (n613556 q572540 (rn_ty ht613482 ht613489 (by decide))))
                              have kp613561 : F613554 (γ0 9 3) = F572539 (γ0 9 3) := (n613556 (γ0 9 3) (rn_ty (rSk_k hs613479 k0_3 (by decide) (by decide)) ht613489 (by decide))).trans kp613480
                              have kp613562 : F613554 (γ0 9 19) = F607408 (γ0 9 19) := (n613556 (γ0 9 19) (rn_ty (rSk_k hs613479 k0_19 (by decide) (by decide)) ht613489 (by decide))).trans kp613481
                              refine G_iload 2 dr_cX17_spill_222 rfl ?_
                              refine G_iload 3 dr_cX17_spill_224 rfl ?_
                              refine G_icmp_ne 236 dr_cX17_spill_226 (by decide +kernel) (fun hc613563 => ?_) (fun hc613563 => ?_)
                              · have r613564 : p613236.toInt ≠ p613235.toInt := gC_ne hc613563
                                have hT613565 : RS D I P613472 F613554 γ el := RS_set hT613478 n613556 ht613489 (by decide) ⟨p613233, p613234, o613462, p613236, p613237, p613238, p613239, he613559, bp613233, bp613234, bp613237, bp613238, bp613239, (gHe r613240), (Or.inr bo613462'), (gHe r613242), r613557.1, r613557.2⟩
                                have hs613567 := rSk_put hs613479 hT613565 n613556 ht613489 (by decide) (by decide)
                                have hm613569 : q610799 ∈ P613472 := RS_m hT613565 ht613485 (by decide)
                                obtain ⟨q613571, q613572, p613573, p613574, he613570, ht613581, ht613575, ht613576, ht613577, ht613578, ht613579, bp613573, bp613574, r613580, r613582, r613583⟩ := show rk_2 γ q610799 (F613554 q610799) from RS_o hT613565 ht613485
                                have hf613584 : γ 1 q613571 = f := (show γ 1 q613571 = γ 1 q610799 from ht613576).trans hf613486
                                have hf613585 : γ 1 q613572 = f := (show γ 1 q613572 = γ 1 q610799 from ht613578).trans hf613486
                                have r613586 : γ 6 (γ 1 q610799) = γ 6 f := by rw [hf613486]
                                have r613587 : γ 7 (γ 1 q610799) = γ 7 f := by rw [hf613486]
                                have r613588 : γ 19 (γ 1 q610799) = γ 19 f := by rw [hf613486]
                                have r613589 := r613580.resolve_left (by omega)
                                clear r613580
                                have r613590 : γ 2 (γ 14 q610799) = γ 2 q613571 := by rw [ht613581.1]
                                have pl613568 := sp_put hT613478 ht613483 hf613484 pl613550 n613556 hp613551 (show (g610659.toInt : Int).toNat < γ 6 f from tn_lt (by omega) (by omega)) (by unfold rwL; rw [x613466.2.2]; exact tn_le1 (by omega) (by omega))
                                have ac613591 : (fI (F613554 q572540) 11).toInt = p613504.toInt := by rw [he613558]; rfl
                                have ac613592 : (fI (F613554 q572540) 14).toInt = p613507.toInt := by rw [he613558]; rfl
                                refine G_lv (L' := [(0, .ref q572540), (1, .ref q572541), (2, .int g610659), (3, .ref q610799), (4, .int z613553), (5, .ref q612375), (6, .int p613235), (7, .int p613236)]) [7, 8, 6, 5, 0, 4, 3, 2] rfl ?_
                                exact jn236_612954 P613472 F613554 γ el z613553 q612375 p613235 p613236 (gB_w bz613553 (by decide) (by decide)) (gB_w rb613272 (by decide) (by decide)) (gB_w rb613437 (by decide) (by decide)) hT613565 hs613567 hph613494 hB613477 ht613485 hf613486 x613466.2.1 x613466.2.2 ht613489 hf613490 (by omega) (by omega) (by omega) (by omega) (by omega) (by omega) kp613562 (by rw [(show (z613553.toInt : Int).toNat = ((g612294.toInt : Int).toNat + 1) from tn_eq1 (by omega) (by omega))]; exact pl613568) (by rw [(show (z613553.toInt : Int).toNat = ((g612294.toInt : Int).toNat + 1) from tn_eq1 (by omega) (by omega))]; exact hp613551) (rS1_of he613232 he613559 pl613246.2 (fun _ _ _ _ => Or.inl (by omega)) (fun _ _ _ => Or.inr ⟨rfl, rfl, by omega, Or.inl (by omega)⟩)) (by omega) (by omega) (ms_j hm90_612316 (by omega) (by omega) (by omega)) (eO_c (op := p613233.toInt) (by rw [he613559] <;> rfl) (Or.inr ((gHe r613244).resolve_left (fun z => absurd (ht612382.2.symm.trans z) (by decide))))) kp613561 mk613560
                              · have r613593 : p613236.toInt = p613235.toInt := gC_eq hc613563
                                refine G_aload 4 dr_cX17_spill_229 rfl ?_
                                refine G_iload 1 dr_cX17_spill_231 rfl ?_
                                refine Gp_put 3 hm613492 he613559 dr_cX17_spill_233 (gk_X15 D I) (Nat.le_of_ble_eq_true rfl) wr_9_190 rfl rfl rfl (Nat.le_of_ble_eq_true rfl) (fun F613594 e613595 n613596 => ?_)
                                have he613597 : F613594 q572540 = .inr (22, [.ref (γ 9 0), .ref (γ 9 1), .ref (γ 9 2), .ref (γ 9 3), .ref (γ 9 4), .ref (γ 9 5), .ref (γ 9 6), .ref (γ 9 7), .ref (γ 9 8), .int p613502, .int p613503, .int p613504, .int p613505, .int p613506, .int p613507, .ref (γ 9 15), .ref (γ 9 16), .ref (γ 9 17), .ref (γ 9 18), .ref (γ 9 19), .ref (γ 9 20), .ref (γ 9 21), .ref (γ 9 22), .int p613508, .int p613509, .int p613510, .int p613511, .int p613512, .ref q613500, .ref (γ 9 29), .int p613513, .ref (γ 9 31), .int p613514, .int p613515, .int p613516, .ref q613501]) := (n613596 q572540 (rn_oo he613558 he613559 (by decide))).trans he613558
                                have he613598 : F613594 q612375 = .inr (20, [.int p613233, .int p613234, .int o613462, .int o613462, .int p613237, .int p613238, .int p613239]) := e613595
                                have mk613599 : mKp (F572539 q572540) (F613594 q572540) := mKp_tr mk613560 (mKp_eq (n613596 q572540 (rn_ty ht613482 ht613489 (by decide))))
                                have n613600 : ∀ b, b ≠ q612375 → F613594 b = F613473 b := fun b hb => (n613596 b hb).trans (n613556 b hb)
                                have kp613601 : F613594 (γ0 9 3) = F572539 (γ0 9 3) := (n613596 (γ0 9 3) (rn_ty (rSk_k hs613479 k0_3 (by decide) (by decide)) ht613489 (by decide))).trans kp613561
                                have kp613602 : F613594 (γ0 9 19) = F607408 (γ0 9 19) := (n613596 (γ0 9 19) (rn_ty (rSk_k hs613479 k0_19 (by decide) (by decide)) ht613489 (by decide))).trans kp613562
                                have hT613603 : RS D I P613472 F613594 γ el := RS_set hT613478 n613600 ht613489 (by decide) ⟨p613233, p613234, o613462, o613462, p613237, p613238, p613239, he613598, bp613233, bp613234, bp613237, bp613238, bp613239, (gHe r613240), (Or.inr bo613462'), (Or.inr bo613462'), r613557.1, r613557.2⟩
                                have hs613605 := rSk_put hs613479 hT613603 n613600 ht613489 (by decide) (by decide)
                                have hm613607 : q610799 ∈ P613472 := RS_m hT613603 ht613485 (by decide)
                                obtain ⟨q613609, q613610, p613611, p613612, he613608, ht613619, ht613613, ht613614, ht613615, ht613616, ht613617, bp613611, bp613612, r613618, r613620, r613621⟩ := show rk_2 γ q610799 (F613594 q610799) from RS_o hT613603 ht613485
                                have hf613622 : γ 1 q613609 = f := (show γ 1 q613609 = γ 1 q610799 from ht613614).trans hf613486
                                have hf613623 : γ 1 q613610 = f := (show γ 1 q613610 = γ 1 q610799 from ht613616).trans hf613486
                                have r613624 : γ 6 (γ 1 q610799) = γ 6 f := by rw [hf613486]
                                have r613625 : γ 7 (γ 1 q610799) = γ 7 f := by rw [hf613486]
                                have r613626 : γ 19 (γ 1 q610799) = γ 19 f := by rw [hf613486]
                                have r613627 := r613618.resolve_left (by omega)
                                clear r613618
                                have r613628 : γ 2 (γ 14 q610799) = γ 2 q613609 := by rw [ht613619.1]
                                have pl613606 := sp_put hT613478 ht613483 hf613484 pl613550 n613600 hp613551 (show (g610659.toInt : Int).toNat < γ 6 f from tn_lt (by omega) (by omega)) (by unfold rwL; rw [x613466.2.2]; exact tn_le1 (by omega) (by omega))
                                have ac613629 : (fI (F613594 q572540) 11).toInt = p613504.toInt := by rw [he613597]; rfl
                                have ac613630 : (fI (F613594 q572540) 14).toInt = p613507.toInt := by rw [he613597]; rfl
                                refine G_lv (L' := [(0, .ref q572540), (1, .ref q572541), (2, .int g610659), (3, .ref q610799), (4, .int z613553), (5, .ref q612375), (6, .int p613235), (7, .int p613236)]) [7, 8, 6, 5, 0, 4, 3, 2] rfl ?_
                                exact jn236_612954 P613472 F613594 γ el z613553 q612375 p613235 p613236 (gB_w bz613553 (by decide) (by decide)) (gB_w rb613272 (by decide) (by decide)) (gB_w rb613437 (by decide) (by decide)) hT613603 hs613605 hph613494 hB613477 ht613485 hf613486 x613466.2.1 x613466.2.2 ht613489 hf613490 (by omega) (by omega) (by omega) (by omega) (by omega) (by omega) kp613602 (by rw [(show (z613553.toInt : Int).toNat = ((g612294.toInt : Int).toNat + 1) from tn_eq1 (by omega) (by omega))]; exact pl613606) (by rw [(show (z613553.toInt : Int).toNat = ((g612294.toInt : Int).toNat + 1) from tn_eq1 (by omega) (by omega))]; exact hp613551) (rS1_of he613232 he613598 pl613246.2 (fun _ _ _ _ => Or.inl (by omega)) (fun _ _ _ => Or.inl (by omega))) (by omega) (by omega) (ms_j hm90_612316 (by omega) (by omega) (by omega)) (eO_c (op := p613233.toInt) (by rw [he613598] <;> rfl) (Or.inr ((gHe r613244).resolve_left (fun z => absurd (ht612382.2.symm.trans z) (by decide))))) kp613601 mk613599
                            · have r613631 : o613462.toInt < 0 := gj_nleL hc613547 (show Int32.toInt 0 = 0 by decide)
                              have bo613462' : gB o613462 (-1) (-1) := ⟨by omega, by omega⟩
                              refine G_iconst 0 dr_cX17_spill_210 (by decide +kernel) ?_
                              exact G_zretA FieldType.boolean dr_cX17_spill_211 rfl rfl (rm_zc pk613495) (rm_zs pk613495) ⟨P613472, F613473, γ, el, 0, rfl, rfl, hs613479, (rm_pp hph613494), hB613477, (gB_w (gBl (show Int32.toInt 0 = 0 by decide)) (by decide) (by decide)), (by have qa0 : Int32.toInt 0 = 0 := (by decide); omega), (Or.inl (by decide)), kp613480, mk613493⟩
                    · have r613632 : g612294.toInt < p612397.toInt := gC_nle hc613226
                      have bg612294'' : gB g612294 0 999999 := ⟨by omega, by omega⟩
                      have bp612397' : gB p612397 1 1000000 := ⟨by omega, by omega⟩
                      refine G_aload_n 1 dr_cX17_spill_114 rfl ?_
                      refine Gp_get 0 hm612372 he612373 dr_cX17_spill_115 (gk_X12 D I) (Nat.le_of_ble_eq_true rfl) wr_9_220 rfl ?_
                      refine G_iload 0 dr_cX17_spill_118 rfl ?_
                      obtain ⟨r613633, r613634, n613641, f613642, r613635, r613636, r613637, r613638, r613639, r613640⟩ := rLC_n r612401 (by omega)
                      have hm613643 : q612398 ∈ P612295 := RS_m hT612297 r613633 (by decide)
                      obtain ⟨q613644, hx613645⟩ : ∃ x, x = el q612374 g612294.toInt.toNat := ⟨_, rfl⟩
                      have hx613646 : f613642 g612294.toNatClampNeg = some q613644 := (r613639 _ (show g612294.toInt.toNat < γ 2 q612374 by first | assumption | omega)).trans (by rw [hx613645])
                      have ht613647 : rKd γ q613644 1 := by rw [hx613645]; exact (r612402 _ (show g612294.toInt.toNat < γ 2 q612374 by first | assumption | omega)).1
                      have ht613648 : rFm γ q613644 q612374 := by rw [hx613645]; exact (r612402 _ (show g612294.toInt.toNat < γ 2 q612374 by first | assumption | omega)).2.1
                      have hf613649 : γ 1 q613644 = f := (show γ 1 q613644 = γ 1 q612374 from ht613648).trans hf612387
                      refine Gw_callV (As := [.int g612294]) (gV_ok D I) (cp_22_ArrayList_get l hl0 D I P612295 F612296 q612374 q612398 g612294 p612396 p612397 f613642 n613641 q613644 hm612394 hm613643 he612395 r613635 (gB_w bg612294'' (by decide) (by decide)) (gB_w bp612397' (by decide) (by decide)) (by omega) (by omega) (by assumption) (by omega)) dr_cX17_spill_120 ⟨wr_10_201, wr_1_18, wr_10_65, by decide, rfl, (Nat.le_of_ble_eq_true rfl), (Nat.le_of_ble_eq_true rfl)⟩ wr_10_63 wr_10_64 hm612394 he612395 rfl (rm_zc pk612321) (rm_zs pk612321) (Nat.le_of_ble_eq_true rfl) (fun r613653 w613654 dc613650 ds613651 hp613652 => ?_) (fun _ _ _ _ _ z => z.elim)
                      obtain ⟨rfl, rfl, hdc, hds⟩ := hp613652
                      change G _ _ _ _ _ _ _ (.ref q613644 :: _) _ _ _
                      refine G_widen (cs' := ((rPh γ el f - rPh γ0 el0 f) / 18)) (sl' := (rPh γ el f - rPh γ0 el0 f)) (rm_d0 hdc) (rm_d0 hds) ?_
                      have hm613655 : q613644 ∈ P612295 := RS_m hT612297 ht613647 (by decide)
                      obtain ⟨p613657, p613658, p613659, p613660, p613661, p613662, p613663, he613656, bp613657, bp613658, bp613661, bp613662, bp613663, r613664, r613665, r613666, r613667, r613668⟩ := show rk_1 γ q613644 (F612296 q613644) from RS_o hT612297 ht613647
                      have bp613659 := gB_any p613659
                      have bp613660 := gB_any p613660
                      replace r613664 : gH _ := r613664
                      replace r613665 : gH _ := r613665
                      replace r613666 : gH _ := r613666
                      replace r613667 : gH _ := r613667
                      replace r613668 : gH _ := r613668
                      have r613669 : γ 7 (γ 1 q613644) = γ 7 f := by rw [hf613649]
                      refine Gp_cast hm613655 he613656 rfl dr_cX17_spill_123 wr_10_202 (gr_cast 1 rfl) ?_
                      refine G_goto 133 dr_cX17_spill_126 (by decide +kernel) ?_
                      have fl613672 : p612397.toInt = γ 2 q612374 := r612399
                      have hp613670 : rAt γ el q572541 (g610659.toInt : Int).toNat (g612294.toInt : Int).toNat = q613644 := (rAt_r r612304 ht612384.1 (by omega)).trans (by rw [hx613645])
                      have hL613671 : (g612294.toInt : Int).toNat ≤ γ 2 (rwL γ el q572541 (g610659.toInt : Int).toNat) := by unfold rwL; rw [r612304, ht612384.1]; exact tn_le0 (by omega) (by omega)
                      have pl613673 := sp_hd x612312 hp613670 (show (g610659.toInt : Int).toNat < γ 6 f from tn_lt (by omega) (by omega)) hL613671
                      refine G_astore (L' := [(5, .ref q613644), (4, .int g612294), (3, .ref q610799), (2, .int g610659), (0, .ref q572540), (1, .ref q572541)]) dr_cX17_spill_133 (Nat.le_of_ble_eq_true rfl) rfl ?_
                      refine G_aload 0 dr_cX17_spill_135 rfl ?_
                      refine Gw_callV (As := []) (gV_ok D I) (cp_398571_Row_usesA l hl0 D I P612295 F612296 q613644 p613657 p613658 p613659 p613660 p613661 p613662 p613663 hm613655 he613656 bp613657 bp613658 bp613661 bp613662 bp613663) dr_cX17_spill_137 ⟨wr_10_192, wr_1_39, wr_10_195, by decide, rfl, (Nat.le_of_ble_eq_true rfl), (Nat.le_of_ble_eq_true rfl)⟩ wr_10_193 wr_10_194 hm613655 he613656 rfl (rm_zc pk612321) (rm_zs pk612321) (Nat.le_of_ble_eq_true rfl) (fun r613677 w613678 dc613674 ds613675 hp613676 => ?_) (fun _ _ _ _ _ z => z.elim)
                      obtain ⟨o613679, rfl, rfl, hdc, hds, bo613679, x613680⟩ := hp613676
                      change G _ _ _ _ _ _ _ (.int o613679 :: _) _ _ _
                      refine G_widen (cs' := ((rPh γ el f - rPh γ0 el0 f) / 18)) (sl' := (rPh γ el f - rPh γ0 el0 f)) (rm_d0 hdc) (rm_d0 hds) ?_
                      refine G_if_eq 151 dr_cX17_spill_140 (by decide +kernel) (fun hc613681 => ?_) (fun hc613681 => ?_)
                      · have r613682 : o613679.toInt = 0 := gj_eq hc613681 (show Int32.toInt 0 = 0 by decide)
                        have bo613679' : gB o613679 0 0 := gB_t0 r613682
                        refine G_iconst (-1) dr_cX17_spill_151 (by decide +kernel) ?_
                        refine G_istore (L' := [(6, .int (-1)), (5, .ref q613644), (4, .int g612294), (3, .ref q610799), (2, .int g610659), (0, .ref q572540), (1, .ref q572541)]) dr_cX17_spill_152 (Nat.le_of_ble_eq_true rfl) rfl ?_
                        refine G_aload 1 dr_cX17_spill_154 rfl ?_
                        refine Gw_callV (As := []) (gV_ok D I) (cp_398595_Row_usesB l hl0 D I P612295 F612296 q613644 p613657 p613658 p613659 p613660 p613661 p613662 p613663 hm613655 he613656 bp613657 bp613658 bp613661 bp613662 bp613663) dr_cX17_spill_156 ⟨wr_10_196, wr_1_39, wr_10_199, by decide, rfl, (Nat.le_of_ble_eq_true rfl), (Nat.le_of_ble_eq_true rfl)⟩ wr_10_197 wr_10_198 hm613655 he613656 rfl (rm_zc pk612321) (rm_zs pk612321) (Nat.le_of_ble_eq_true rfl) (fun r613686 w613687 dc613683 ds613684 hp613685 => ?_) (fun _ _ _ _ _ z => z.elim)
                        obtain ⟨o613688, rfl, rfl, hdc, hds, bo613688, x613689⟩ := hp613685
                        change G _ _ _ _ _ _ _ (.int o613688 :: _) _ _ _
                        refine G_widen (cs' := ((rPh γ el f - rPh γ0 el0 f) / 18)) (sl' := (rPh γ el f - rPh γ0 el0 f)) (rm_d0 hdc) (rm_d0 hds) ?_
                        refine G_if_eq 170 dr_cX17_spill_159 (by decide +kernel) (fun hc613690 => ?_) (fun hc613690 => ?_)
                        · have r613691 : o613688.toInt = 0 := gj_eq hc613690 (show Int32.toInt 0 = 0 by decide)
                          have bo613688' : gB o613688 0 0 := gB_t0 r613691
                          refine G_iconst (-1) dr_cX17_spill_170 (by decide +kernel) ?_
                          refine G_istore (L' := [(7, .int (-1)), (6, .int (-1)), (5, .ref q613644), (4, .int g612294), (3, .ref q610799), (2, .int g610659), (0, .ref q572540), (1, .ref q572541)]) dr_cX17_spill_171 (Nat.le_of_ble_eq_true rfl) rfl ?_
                          refine G_iload 1 dr_cX17_spill_173 rfl ?_
                          refine G_if_lt 236 dr_cX17_spill_175 (by decide +kernel) (fun _ => ?_) (fun hc => absurd hc (by decide))
                          have ac613692 : (fI (F612296 q572540) 11).toInt = p612329.toInt := by rw [he612324]; rfl
                          have ac613693 : (fI (F612296 q572540) 14).toInt = p612332.toInt := by rw [he612324]; rfl
                          refine G_lv (L' := [(0, .ref q572540), (1, .ref q572541), (2, .int g610659), (3, .ref q610799), (4, .int g612294), (5, .ref q613644), (6, .int (-1)), (7, .int (-1))]) [6, 7, 5, 4, 3, 2, 1, 0] rfl ?_
                          exact jn236_612954 P612295 F612296 γ el g612294 q613644 (-1) (-1) (gB_w bg612294'' (by decide) (by decide)) (gB_w (gBl (show Int32.toInt (-1) = (-1) by decide)) (by decide) (by decide)) (gB_w (gBl (show Int32.toInt (-1) = (-1) by decide)) (by decide) (by decide)) hT612297 hs612298 hph612299 hB612300 ht612301 hf612302 r612303 r612304 ht613647 hf613649 (by have qa0 : Int32.toInt (-1) = (-1) := (by decide); omega) (by have qa0 : Int32.toInt (-1) = (-1) := (by decide); omega) (by have qa0 : Int32.toInt (-1) = (-1) := (by decide); omega) (by have qa0 : Int32.toInt (-1) = (-1) := (by decide); omega) (by have qa0 : Int32.toInt (-1) = (-1) := (by decide); omega) (by have qa0 : Int32.toInt (-1) = (-1) := (by decide); omega) x612311 (by exact pl613673.1) (by exact hp613670) (rS1_of he613656 he613656 pl613673.2 (fun h1 h2 h3 h4 => (uA_0 x613680 (by omega) h1 h2 h3 h4).elim) (fun h1 h2 h3 => (uB_0 x613689 (by omega) h1 h2 h3).elim)) (by have qa0 : Int32.toInt (-1) = (-1) := (by decide); omega) (by have qa0 : Int32.toInt (-1) = (-1) := (by decide); omega) (ms_j hm90_612316 (by omega) (by omega) (by omega)) (eO_l (by omega)) x612315 x612316
                        · have r613694 : o613688.toInt ≠ 0 := gj_neq hc613690 (show Int32.toInt 0 = 0 by decide)
                          have bo613688' : gB o613688 1 1 := gB_t1 bo613688 r613694
                          refine G_aload 1 dr_cX17_spill_162 rfl ?_
                          refine Gp_get 3 hm613655 he613656 dr_cX17_spill_164 (gk_X15 D I) (Nat.le_of_ble_eq_true rfl) wr_9_190 rfl ?_
                          have rb613695 : gB p613660 0 1999 := (gHe r613666).resolve_left (by have z := (uB_1 x613689 (by omega)).2.2; omega)
                          refine G_goto 171 dr_cX17_spill_167 (by decide +kernel) ?_
                          refine G_istore (L' := [(7, .int p613660), (6, .int (-1)), (5, .ref q613644), (4, .int g612294), (3, .ref q610799), (2, .int g610659), (0, .ref q572540), (1, .ref q572541)]) dr_cX17_spill_171 (Nat.le_of_ble_eq_true rfl) rfl ?_
                          refine G_iload 1 dr_cX17_spill_173 rfl ?_
                          refine G_if_lt 236 dr_cX17_spill_175 (by decide +kernel) (fun _ => ?_) (fun hc => absurd hc (by decide))
                          have ac613696 : (fI (F612296 q572540) 11).toInt = p612329.toInt := by rw [he612324]; rfl
                          have ac613697 : (fI (F612296 q572540) 14).toInt = p612332.toInt := by rw [he612324]; rfl
                          refine G_lv (L' := [(0, .ref q572540), (1, .ref q572541), (2, .int g610659), (3, .ref q610799), (4, .int g612294), (5, .ref q613644), (6, .int (-1)), (7, .int p613660)]) [6, 7, 5, 4, 3, 2, 1, 0] rfl ?_
                          exact jn236_612954 P612295 F612296 γ el g612294 q613644 (-1) p613660 (gB_w bg612294'' (by decide) (by decide)) (gB_w (gBl (show Int32.toInt (-1) = (-1) by decide)) (by decide) (by decide)) (gB_w rb613695 (by decide) (by decide)) hT612297 hs612298 hph612299 hB612300 ht612301 hf612302 r612303 r612304 ht613647 hf613649 (by have qa0 : Int32.toInt (-1) = (-1) := (by decide); omega) (by have qa0 : Int32.toInt (-1) = (-1) := (by decide); omega) (by have qa0 : Int32.toInt (-1) = (-1) := (by decide); omega) (by have qa0 : Int32.toInt (-1) = (-1) := (by decide); omega) (by have qa0 : Int32.toInt (-1) = (-1) := (by decide); omega) (by have qa0 : Int32.toInt (-1) = (-1) := (by decide); omega) x612311 (by exact pl613673.1) (by exact hp613670) (rS1_of he613656 he613656 pl613673.2 (fun h1 h2 h3 h4 => (uA_0 x613680 (by omega) h1 h2 h3 h4).elim) (fun _ _ _ => Or.inr ⟨rfl, rfl, by omega, Or.inl (by have qa : Int32.toInt (-1) = -1 := (by decide); omega)⟩)) (by have qa0 : Int32.toInt (-1) = (-1) := (by decide); omega) (by have qa0 : Int32.toInt (-1) = (-1) := (by decide); omega) (ms_j hm90_612316 (by omega) (by omega) (by omega)) (eO_l (by omega)) x612315 x612316
                      · have r613698 : o613679.toInt ≠ 0 := gj_neq hc613681 (show Int32.toInt 0 = 0 by decide)
                        have bo613679' : gB o613679 1 1 := gB_t1 bo613679 r613698
                        refine G_aload 0 dr_cX17_spill_143 rfl ?_
                        refine Gp_get 2 hm613655 he613656 dr_cX17_spill_145 (gk_X15 D I) (Nat.le_of_ble_eq_true rfl) wr_9_186 rfl ?_
                        have rb613699 : gB p613659 0 1999 := (gHe r613665).resolve_left (by have z := (uA_1 x613680 (by omega)).2.2.2; omega)
                        refine G_goto 152 dr_cX17_spill_148 (by decide +kernel) ?_
                        refine G_istore (L' := [(6, .int p613659), (5, .ref q613644), (4, .int g612294), (3, .ref q610799), (2, .int g610659), (0, .ref q572540), (1, .ref q572541)]) dr_cX17_spill_152 (Nat.le_of_ble_eq_true rfl) rfl ?_
                        refine G_aload 1 dr_cX17_spill_154 rfl ?_
                        refine Gw_callV (As := []) (gV_ok D I) (cp_398595_Row_usesB l hl0 D I P612295 F612296 q613644 p613657 p613658 p613659 p613660 p613661 p613662 p613663 hm613655 he613656 bp613657 bp613658 bp613661 bp613662 bp613663) dr_cX17_spill_156 ⟨wr_10_196, wr_1_39, wr_10_199, by decide, rfl, (Nat.le_of_ble_eq_true rfl), (Nat.le_of_ble_eq_true rfl)⟩ wr_10_197 wr_10_198 hm613655 he613656 rfl (rm_zc pk612321) (rm_zs pk612321) (Nat.le_of_ble_eq_true rfl) (fun r613703 w613704 dc613700 ds613701 hp613702 => ?_) (fun _ _ _ _ _ z => z.elim)
                        obtain ⟨o613705, rfl, rfl, hdc, hds, bo613705, x613706⟩ := hp613702
                        change G _ _ _ _ _ _ _ (.int o613705 :: _) _ _ _
                        refine G_widen (cs' := ((rPh γ el f - rPh γ0 el0 f) / 18)) (sl' := (rPh γ el f - rPh γ0 el0 f)) (rm_d0 hdc) (rm_d0 hds) ?_
                        refine G_if_eq 170 dr_cX17_spill_159 (by decide +kernel) (fun hc613707 => ?_) (fun hc613707 => ?_)
                        · have r613708 : o613705.toInt = 0 := gj_eq hc613707 (show Int32.toInt 0 = 0 by decide)
                          have bo613705' : gB o613705 0 0 := gB_t0 r613708
                          refine G_iconst (-1) dr_cX17_spill_170 (by decide +kernel) ?_
                          refine G_istore (L' := [(7, .int (-1)), (6, .int p613659), (5, .ref q613644), (4, .int g612294), (3, .ref q610799), (2, .int g610659), (0, .ref q572540), (1, .ref q572541)]) dr_cX17_spill_171 (Nat.le_of_ble_eq_true rfl) rfl ?_
                          refine G_iload 1 dr_cX17_spill_173 rfl ?_
                          refine G_if_lt 236 dr_cX17_spill_175 (by decide +kernel) (fun hc => absurd (show False by have := gj_lt hc (show Int32.toInt 0 = 0 by decide); omega) not_false) (fun _ => ?_)
                          refine G_aload_n 6 dr_cX17_spill_178 rfl ?_
                          refine Gp_get 19 hm612323 he612324 dr_cX17_spill_179 (gk_X17 D I) (Nat.le_of_ble_eq_true rfl) wr_7_93 rfl ?_
                          refine G_iload 1 dr_cX17_spill_182 rfl ?_
                          have hm613709 : (γ 9 19) ∈ P612295 := RS_m hT612297 ht612357 (by decide)
                          obtain ⟨f613711, he613710, bf613711⟩ := show rk_21 I (F612296 (γ 9 19)) from RS_o hT612297 ht612357
                          refine Gp_iald 0 hm613709 he613710 dr_cX17_spill_184 rfl (gB_in rb613699 (by decide) (by decide)) (G_nam fun z613712 hz613712 => ?_)
                          have bz613712 : gB z613712 (-1) 1999 := by rw [hz613712]; exact bf613711 _
                          have c9_613713 : cB (F607408 (γ0 9 19)) = f613711 := by rw [← x612311, ← congrFun (rSk_9 hs612298) 19]; exact cB_of he613710
                          have hs613714 : (cB (F607408 (γ0 9 19)) p613659.toInt.toNat).toInt = z613712.toInt := by rw [c9_613713, hz613712]; rfl
                          refine G_if_lt 236 dr_cX17_spill_185 (by decide +kernel) (fun hc613716 => ?_) (fun hc613716 => ?_)
                          · have r613717 : z613712.toInt < 0 := gj_lt hc613716 (show Int32.toInt 0 = 0 by decide)
                            have bz613712' : gB z613712 (-1) (-1) := ⟨by omega, by omega⟩
                            have ac613718 : (fI (F612296 q572540) 11).toInt = p612329.toInt := by rw [he612324]; rfl
                            have ac613719 : (fI (F612296 q572540) 14).toInt = p612332.toInt := by rw [he612324]; rfl
                            refine G_lv (L' := [(0, .ref q572540), (1, .ref q572541), (2, .int g610659), (3, .ref q610799), (4, .int g612294), (5, .ref q613644), (6, .int p613659), (7, .int (-1))]) [6, 7, 5, 4, 3, 2, 1, 0] rfl ?_
                            exact jn236_612954 P612295 F612296 γ el g612294 q613644 p613659 (-1) (gB_w bg612294'' (by decide) (by decide)) (gB_w rb613699 (by decide) (by decide)) (gB_w (gBl (show Int32.toInt (-1) = (-1) by decide)) (by decide) (by decide)) hT612297 hs612298 hph612299 hB612300 ht612301 hf612302 r612303 r612304 ht613647 hf613649 (by have qa0 : Int32.toInt (-1) = (-1) := (by decide); omega) (by have qa0 : Int32.toInt (-1) = (-1) := (by decide); omega) (by have qa0 : Int32.toInt (-1) = (-1) := (by decide); omega) (by have qa0 : Int32.toInt (-1) = (-1) := (by decide); omega) (by have qa0 : Int32.toInt (-1) = (-1) := (by decide); omega) (by have qa0 : Int32.toInt (-1) = (-1) := (by decide); omega) x612311 (by exact pl613673.1) (by exact hp613670) (rS1_of he613656 he613656 pl613673.2 (fun _ _ _ _ => Or.inr ⟨rfl, by omega⟩) (fun h1 h2 h3 => (uB_0 x613706 (by omega) h1 h2 h3).elim)) (by have qa0 : Int32.toInt (-1) = (-1) := (by decide); omega) (by have qa0 : Int32.toInt (-1) = (-1) := (by decide); omega) (ms_j hm90_612316 (by omega) (by omega) (by omega)) (eO_l (by omega)) x612315 x612316
                          · have r613720 : 0 ≤ z613712.toInt := gj_nlt hc613716 (show Int32.toInt 0 = 0 by decide)
                            have bz613712' : gB z613712 0 1999 := ⟨by omega, by omega⟩
                            refine G_aload_n 6 dr_cX17_spill_188 rfl ?_
                            refine G_aload_n 7 dr_cX17_spill_189 rfl ?_
                            refine G_aload_n 4 dr_cX17_spill_190 rfl ?_
                            refine G_iload 3 dr_cX17_spill_191 rfl ?_
                            refine G_aload_n 6 dr_cX17_spill_193 rfl ?_
                            refine Gp_get 19 hm612323 he612324 dr_cX17_spill_194 (gk_X17 D I) (Nat.le_of_ble_eq_true rfl) wr_7_93 rfl ?_
                            refine G_iload 1 dr_cX17_spill_197 rfl ?_
                            refine Gp_iald 0 hm613709 he613710 dr_cX17_spill_199 rfl (gB_in rb613699 (by decide) (by decide)) (G_eqi (y := z613712) hz613712.symm ?_)
                            have r613721 := (spi607493.2.2.2 p613659.toInt.toNat (tn_lt (by omega) (by omega)) (by omega)).2.2
                            have ac613722 : (fI (F612296 q572540) 11).toInt = p612329.toInt := by rw [he612324]; rfl
                            have ac613723 : (fI (F612296 q572540) 14).toInt = p612332.toInt := by rw [he612324]; rfl
                            have rg613724 := rM_ge hT612297 ht612319 hf612320
                            have rm613725 := rM_bd hB612300
                            have bd613726 := rBd_c hT612297 ht612319 hf612320 hB612300
                            have rc613727 := rc_at hT612297 ht612319 hf612320
                            refine Gw_callV (As := [.ref q572541, .ref q610799, .int g612294, .int z613712]) (gV_ok D I) (cg_398209_SpillForgeModel_load l hl0 D I γ el f B P612295 F612296 q572540 q572541 q610799 g612294 z613712 g610659.toInt.toNat hT612297 ht612318 ht612319 ht612301 hf612320 hB612300 hBk r612303 r612304 hf612302 (gB_w bg612294'' (by decide) (by decide)) bz613712' (by have qa0 : Int32.toInt (-1) = (-1) := (by decide); omega) (by have qa0 : Int32.toInt (-1) = (-1) := (by decide); omega) (by have qa0 : Int32.toInt (-1) = (-1) := (by decide); omega) (by have qa0 : Int32.toInt (-1) = (-1) := (by decide); omega) (by have qa0 : Int32.toInt (-1) = (-1) := (by decide); omega)) dr_cX17_spill_200 ⟨wr_11_67, wr_1_14, wr_11_70, by decide, rfl, (Nat.le_of_ble_eq_true rfl), (Nat.le_of_ble_eq_true rfl)⟩ wr_11_69 wr_p_111 hm612323 he612324 rfl (rm_gc hph612299 pk612321) (rm_gs hph612299 pk612321) (Nat.le_of_ble_eq_true rfl) (fun r613731 w613732 dc613728 ds613729 hp613730 => ?_) (fun _ _ _ _ _ z => z.elim)
                            obtain ⟨P613743, F613744, γ, el, o613733, rfl, rfl, hk613745, ⟨hr613746, hr613747⟩, hB613748, bo613733, x613734, x613735, x613736, x613737, x613738, x613739, x613740, x613741, x613742⟩ := hp613730
                            have hT613749 := hk613745.1
                            have hs613750 := rSk_tr hs612298 hk613745 (by decide) (by decide) (by decide)
                            have kp613751 : F613744 (γ0 9 3) = F572539 (γ0 9 3) := (rSk_F hk613745 (rSk_k hs612298 k0_3 (by decide) (by decide)) (by decide) (by decide)).trans x612315
                            have kp613752 : F613744 (γ0 9 19) = F607408 (γ0 9 19) := (rSk_F hk613745 (rSk_k hs612298 k0_19 (by decide) (by decide)) (by decide) (by decide)).trans x612311
                            have ht613753 : rKd γ q572540 10 := rSk_k hk613745 ht612318 (by decide) (by decide)
                            have ht613754 : rKd γ q572541 9 := rSk_k hk613745 ht612319 (by decide) (by decide)
                            have hf613755 : γ 1 q572541 = f := rSk_1 hk613745 ht612319 (by decide) hf612320
                            have ht613756 : rKd γ q610799 2 := rSk_k hk613745 ht612301 (by decide) (by decide)
                            have hf613757 : γ 1 q610799 = f := rSk_1 hk613745 ht612301 (by decide) hf612302
                            have ht613758 : rKd γ q612374 3 := rSk_k hk613745 ht612378 (by decide) (by decide)
                            have hf613759 : γ 1 q612374 = f := rSk_1 hk613745 ht612378 (by decide) hf612387
                            have ht613760 : rKd γ q613644 1 := rSk_k hk613745 ht613647 (by decide) (by decide)
                            have hf613761 : γ 1 q613644 = f := rSk_1 hk613745 ht613647 (by decide) hf613649
                            have he613762 : F613744 q613644 = .inr (20, [.int p613657, .int p613658, .int p613659, .int p613660, .int p613661, .int p613662, .int p613663]) := (rSk_F hk613745 ht613647 (by decide) (by decide)).trans he613656
                            have hm613763 : q613644 ∈ P613743 := RS_m hT613749 ht613760 (by decide)
                            clear bp612376 bp612377 r612385 r612386 rg613724 rm613725 bd613726 rc613727
                            have mk613764 : mKp (F572539 q572540) (F613744 q572540) := mKp_tr x612316 x613742
                            have hph613765 : rPh γ0 el0 f ≤ rPh γ el f := rm_ph hph612299 hr613747
                            have pk613766 : rPh γ el f ≤ 387 * B + 6000 := rm_pk (rM_ge hT613749 ht613754 hf613755).1 (rM_bd hB613748)
                            change G _ _ _ _ _ _ _ (.int o613733 :: _) _ _ _
                            refine G_widen (cs' := ((rPh γ el f - rPh γ0 el0 f) / 18)) (sl' := (rPh γ el f - rPh γ0 el0 f)) (rm_wc hph612299 hr613746) (rm_ws hph612299 hr613747) ?_
                            have sz613767 := x613734
                            have r613768 : 0 < γ 6 (γ 1 q572541) := by rw [hf613755]; omega
                            have hm613769 : q572540 ∈ P613743 := RS_m hT613749 ht613753 (by decide)
                            refine rk10_e (show rk_10 γ (F613744 q572540) from RS_o hT613749 ht613753) (fun q613771 q613772 p613773 p613774 p613775 p613776 p613777 p613778 p613779 p613780 p613781 p613782 p613783 p613784 p613785 p613786 p613787 he613770 hB613814 ht613788 ht613789 ht613790 ht613791 ht613792 ht613793 ht613794 ht613795 ht613796 ht613797 ht613798 ht613799 ht613800 ht613801 ht613802 ht613803 ht613804 ht613805 ht613806 ht613807 ht613808 ht613809 ht613810 ht613811 hB613815 => ?_)
                            have ac613816 : (fI (F613744 q572540) 11).toInt = p613775.toInt := by rw [he613770]; rfl
                            have bp613775 : gB p613775 0 100 := (hB613814.2.2.1)
                            have ac613817 : (fI (F613744 q572540) 14).toInt = p613778.toInt := by rw [he613770]; rfl
                            have bp613778 : gB p613778 0 2000 := (hB613814.2.2.2.1)
                            refine G_istore (L' := [(8, .int o613733), (7, .int (-1)), (6, .int p613659), (5, .ref q613644), (4, .int g612294), (3, .ref q610799), (2, .int g610659), (0, .ref q572540), (1, .ref q572541)]) dr_cX17_spill_203 (Nat.le_of_ble_eq_true rfl) rfl ?_
                            refine G_iload 0 dr_cX17_spill_205 rfl ?_
                            refine G_if_ge 212 dr_cX17_spill_207 (by decide +kernel) (fun hc613818 => ?_) (fun hc613818 => ?_)
                            · have r613819 : 0 ≤ o613733.toInt := gj_leL hc613818 (show Int32.toInt 0 = 0 by decide)
                              have bo613733' : gB o613733 0 1999 := ⟨by omega, by omega⟩
                              have pl613821 := sp_ld (x613740.resolve_left (by omega)) pl613673.1 (tn_ge (by omega)) (rfl : ((g612294.toInt : Int).toNat + 1) = (g612294.toInt : Int).toNat + 1)
                              have hp613822 : rAt γ el q572541 (g610659.toInt : Int).toNat ((g612294.toInt : Int).toNat + 1) = q613644 := ((x613741.resolve_left (by omega)) (g612294.toInt : Int).toNat (Nat.le_refl _)).trans hp613670
                              have r613823 := x613738.resolve_left (by omega)
                              clear x613738 x613740 x613741
                              obtain ⟨z613824, hz613824⟩ : ∃ z : Int32, z = g612294 + Int32.ofInt 1 := ⟨_, rfl⟩
                              have ez613824 : z613824.toInt = g612294.toInt + 1 := gI_inc hz613824 (by decide) bg612294'' (by decide) (by decide)
                              have bz613824 : gB z613824 1 1000000 := ⟨by omega, by omega⟩
                              refine G_iinc (L' := [(4, .int z613824), (8, .int o613733), (7, .int (-1)), (6, .int p613659), (5, .ref q613644), (3, .ref q610799), (2, .int g610659), (0, .ref q572540), (1, .ref q572541)]) z613824 4 dr_cX17_spill_212 rfl hz613824.symm (Nat.le_of_ble_eq_true rfl) rfl ?_
                              refine G_aload 4 dr_cX17_spill_215 rfl ?_
                              refine G_iload 1 dr_cX17_spill_217 rfl ?_
                              refine Gp_put 2 hm613763 he613762 dr_cX17_spill_219 (gk_X15 D I) (Nat.le_of_ble_eq_true rfl) wr_9_186 rfl rfl rfl (Nat.le_of_ble_eq_true rfl) (fun F613825 e613826 n613827 => ?_)
                              have r613828 := rk1_at hT613749 ht613760 he613762
                              have he613829 : F613825 q572540 = .inr (22, [.ref (γ 9 0), .ref (γ 9 1), .ref (γ 9 2), .ref (γ 9 3), .ref (γ 9 4), .ref (γ 9 5), .ref (γ 9 6), .ref (γ 9 7), .ref (γ 9 8), .int p613773, .int p613774, .int p613775, .int p613776, .int p613777, .int p613778, .ref (γ 9 15), .ref (γ 9 16), .ref (γ 9 17), .ref (γ 9 18), .ref (γ 9 19), .ref (γ 9 20), .ref (γ 9 21), .ref (γ 9 22), .int p613779, .int p613780, .int p613781, .int p613782, .int p613783, .ref q613771, .ref (γ 9 29), .int p613784, .ref (γ 9 31), .int p613785, .int p613786, .int p613787, .ref q613772]) := (n613827 q572540 (rn_oo he613770 he613762 (by decide))).trans he613770
                              have he613830 : F613825 q613644 = .inr (20, [.int p613657, .int p613658, .int o613733, .int p613660, .int p613661, .int p613662, .int p613663]) := e613826
                              have mk613831 : mKp (F572539 q572540) (F613825 q572540) := mKp_tr mk613764 (mKp_eq (n613827 q572540 (rn_ty ht613753 ht613760 (by decide))))
                              have kp613832 : F613825 (γ0 9 3) = F572539 (γ0 9 3) := (n613827 (γ0 9 3) (rn_ty (rSk_k hs613750 k0_3 (by decide) (by decide)) ht613760 (by decide))).trans kp613751
                              have kp613833 : F613825 (γ0 9 19) = F607408 (γ0 9 19) := (n613827 (γ0 9 19) (rn_ty (rSk_k hs613750 k0_19 (by decide) (by decide)) ht613760 (by decide))).trans kp613752
                              refine G_iload 2 dr_cX17_spill_222 rfl ?_
                              refine G_iload 3 dr_cX17_spill_224 rfl ?_
                              refine G_icmp_ne 236 dr_cX17_spill_226 (by decide +kernel) (fun _ => ?_) (fun hc => absurd (show False by have := gj_eqL hc (show Int32.toInt (-1) = (-1) by decide); omega) not_false)
                              have hT613834 : RS D I P613743 F613825 γ el := RS_set hT613749 n613827 ht613760 (by decide) ⟨p613657, p613658, o613733, p613660, p613661, p613662, p613663, he613830, bp613657, bp613658, bp613661, bp613662, bp613663, (gHe r613664), (Or.inr bo613733'), (gHe r613666), r613828.1, r613828.2⟩
                              have hs613836 := rSk_put hs613750 hT613834 n613827 ht613760 (by decide) (by decide)
                              have hm613838 : q610799 ∈ P613743 := RS_m hT613834 ht613756 (by decide)
                              obtain ⟨q613840, q613841, p613842, p613843, he613839, ht613850, ht613844, ht613845, ht613846, ht613847, ht613848, bp613842, bp613843, r613849, r613851, r613852⟩ := show rk_2 γ q610799 (F613825 q610799) from RS_o hT613834 ht613756
                              have hf613853 : γ 1 q613840 = f := (show γ 1 q613840 = γ 1 q610799 from ht613845).trans hf613757
                              have hf613854 : γ 1 q613841 = f := (show γ 1 q613841 = γ 1 q610799 from ht613847).trans hf613757
                              have r613855 : γ 6 (γ 1 q610799) = γ 6 f := by rw [hf613757]
                              have r613856 : γ 7 (γ 1 q610799) = γ 7 f := by rw [hf613757]
                              have r613857 : γ 19 (γ 1 q610799) = γ 19 f := by rw [hf613757]
                              have r613858 := r613849.resolve_left (by omega)
                              clear r613849
                              have r613859 : γ 2 (γ 14 q610799) = γ 2 q613840 := by rw [ht613850.1]
                              have pl613837 := sp_put hT613749 ht613754 hf613755 pl613821 n613827 hp613822 (show (g610659.toInt : Int).toNat < γ 6 f from tn_lt (by omega) (by omega)) (by unfold rwL; rw [x613737.2.2]; exact tn_le1 (by omega) (by omega))
                              have ac613860 : (fI (F613825 q572540) 11).toInt = p613775.toInt := by rw [he613829]; rfl
                              have ac613861 : (fI (F613825 q572540) 14).toInt = p613778.toInt := by rw [he613829]; rfl
                              refine G_lv (L' := [(0, .ref q572540), (1, .ref q572541), (2, .int g610659), (3, .ref q610799), (4, .int z613824), (5, .ref q613644), (6, .int p613659), (7, .int (-1))]) [7, 8, 6, 5, 0, 4, 3, 2] rfl ?_
                              exact jn236_612954 P613743 F613825 γ el z613824 q613644 p613659 (-1) (gB_w bz613824 (by decide) (by decide)) (gB_w rb613699 (by decide) (by decide)) (gB_w (gBl (show Int32.toInt (-1) = (-1) by decide)) (by decide) (by decide)) hT613834 hs613836 hph613765 hB613748 ht613756 hf613757 x613737.2.1 x613737.2.2 ht613760 hf613761 (by have qa0 : Int32.toInt (-1) = (-1) := (by decide); omega) (by have qa0 : Int32.toInt (-1) = (-1) := (by decide); omega) (by have qa0 : Int32.toInt (-1) = (-1) := (by decide); omega) (by have qa0 : Int32.toInt (-1) = (-1) := (by decide); omega) (by have qa0 : Int32.toInt (-1) = (-1) := (by decide); omega) (by have qa0 : Int32.toInt (-1) = (-1) := (by decide); omega) kp613833 (by rw [(show (z613824.toInt : Int).toNat = ((g612294.toInt : Int).toNat + 1) from tn_eq1 (by omega) (by omega))]; exact pl613837) (by rw [(show (z613824.toInt : Int).toNat = ((g612294.toInt : Int).toNat + 1) from tn_eq1 (by omega) (by omega))]; exact hp613822) (rS1_of he613656 he613830 pl613673.2 (fun _ _ _ _ => Or.inl (by omega)) (fun h1 h2 h3 => (uB_0 x613706 (by omega) h1 h2 h3).elim)) (by have qa0 : Int32.toInt (-1) = (-1) := (by decide); omega) (by have qa0 : Int32.toInt (-1) = (-1) := (by decide); omega) (ms_j hm90_612316 (by omega) (by omega) (by omega)) (eO_l (by omega)) kp613832 mk613831
                            · have r613862 : o613733.toInt < 0 := gj_nleL hc613818 (show Int32.toInt 0 = 0 by decide)
                              have bo613733' : gB o613733 (-1) (-1) := ⟨by omega, by omega⟩
                              refine G_iconst 0 dr_cX17_spill_210 (by decide +kernel) ?_
                              exact G_zretA FieldType.boolean dr_cX17_spill_211 rfl rfl (rm_zc pk613766) (rm_zs pk613766) ⟨P613743, F613744, γ, el, 0, rfl, rfl, hs613750, (rm_pp hph613765), hB613748, (gB_w (gBl (show Int32.toInt 0 = 0 by decide)) (by decide) (by decide)), (by have qa0 : Int32.toInt (-1) = (-1) := (by decide); have qa1 : Int32.toInt 0 = 0 := (by decide); omega), (Or.inl (by decide)), kp613751, mk613764⟩
                        · have r613863 : o613705.toInt ≠ 0 := gj_neq hc613707 (show Int32.toInt 0 = 0 by decide)
                          have bo613705' : gB o613705 1 1 := gB_t1 bo613705 r613863
                          refine G_aload 1 dr_cX17_spill_162 rfl ?_
                          refine Gp_get 3 hm613655 he613656 dr_cX17_spill_164 (gk_X15 D I) (Nat.le_of_ble_eq_true rfl) wr_9_190 rfl ?_
                          have rb613864 : gB p613660 0 1999 := (gHe r613666).resolve_left (by have z := (uB_1 x613706 (by omega)).2.2; omega)
                          refine G_goto 171 dr_cX17_spill_167 (by decide +kernel) ?_
                          refine G_istore (L' := [(7, .int p613660), (6, .int p613659), (5, .ref q613644), (4, .int g612294), (3, .ref q610799), (2, .int g610659), (0, .ref q572540), (1, .ref q572541)]) dr_cX17_spill_171 (Nat.le_of_ble_eq_true rfl) rfl ?_
                          refine G_iload 1 dr_cX17_spill_173 rfl ?_
                          refine G_if_lt 236 dr_cX17_spill_175 (by decide +kernel) (fun hc => absurd (show False by have := gj_lt hc (show Int32.toInt 0 = 0 by decide); omega) not_false) (fun _ => ?_)
                          refine G_aload_n 6 dr_cX17_spill_178 rfl ?_
                          refine Gp_get 19 hm612323 he612324 dr_cX17_spill_179 (gk_X17 D I) (Nat.le_of_ble_eq_true rfl) wr_7_93 rfl ?_
                          refine G_iload 1 dr_cX17_spill_182 rfl ?_
                          have hm613865 : (γ 9 19) ∈ P612295 := RS_m hT612297 ht612357 (by decide)
                          obtain ⟨f613867, he613866, bf613867⟩ := show rk_21 I (F612296 (γ 9 19)) from RS_o hT612297 ht612357
                          refine Gp_iald 0 hm613865 he613866 dr_cX17_spill_184 rfl (gB_in rb613699 (by decide) (by decide)) (G_nam fun z613868 hz613868 => ?_)
                          have bz613868 : gB z613868 (-1) 1999 := by rw [hz613868]; exact bf613867 _
                          have c9_613869 : cB (F607408 (γ0 9 19)) = f613867 := by rw [← x612311, ← congrFun (rSk_9 hs612298) 19]; exact cB_of he613866
                          have hs613870 : (cB (F607408 (γ0 9 19)) p613659.toInt.toNat).toInt = z613868.toInt := by rw [c9_613869, hz613868]; rfl
                          refine G_if_lt 236 dr_cX17_spill_185 (by decide +kernel) (fun hc613872 => ?_) (fun hc613872 => ?_)
                          · have r613873 : z613868.toInt < 0 := gj_lt hc613872 (show Int32.toInt 0 = 0 by decide)
                            have bz613868' : gB z613868 (-1) (-1) := ⟨by omega, by omega⟩
                            have ac613874 : (fI (F612296 q572540) 11).toInt = p612329.toInt := by rw [he612324]; rfl
                            have ac613875 : (fI (F612296 q572540) 14).toInt = p612332.toInt := by rw [he612324]; rfl
                            refine G_lv (L' := [(0, .ref q572540), (1, .ref q572541), (2, .int g610659), (3, .ref q610799), (4, .int g612294), (5, .ref q613644), (6, .int p613659), (7, .int p613660)]) [6, 7, 5, 4, 3, 2, 1, 0] rfl ?_
                            exact jn236_612954 P612295 F612296 γ el g612294 q613644 p613659 p613660 (gB_w bg612294'' (by decide) (by decide)) (gB_w rb613699 (by decide) (by decide)) (gB_w rb613864 (by decide) (by decide)) hT612297 hs612298 hph612299 hB612300 ht612301 hf612302 r612303 r612304 ht613647 hf613649 (by omega) (by omega) (by omega) (by omega) (by omega) (by omega) x612311 (by exact pl613673.1) (by exact hp613670) (rS1_of he613656 he613656 pl613673.2 (fun _ _ _ _ => Or.inr ⟨rfl, by omega⟩) (fun _ _ _ => Or.inr ⟨rfl, rfl, by omega, (Classical.em (p613660.toInt = p613659.toInt)).elim (fun e => Or.inr (by rw [e]; omega)) (fun e => Or.inl e)⟩)) (by omega) (by omega) (ms_j hm90_612316 (by omega) (by omega) (by omega)) (eO_l (by omega)) x612315 x612316
                          · have r613876 : 0 ≤ z613868.toInt := gj_nlt hc613872 (show Int32.toInt 0 = 0 by decide)
                            have bz613868' : gB z613868 0 1999 := ⟨by omega, by omega⟩
                            refine G_aload_n 6 dr_cX17_spill_188 rfl ?_
                            refine G_aload_n 7 dr_cX17_spill_189 rfl ?_
                            refine G_aload_n 4 dr_cX17_spill_190 rfl ?_
                            refine G_iload 3 dr_cX17_spill_191 rfl ?_
                            refine G_aload_n 6 dr_cX17_spill_193 rfl ?_
                            refine Gp_get 19 hm612323 he612324 dr_cX17_spill_194 (gk_X17 D I) (Nat.le_of_ble_eq_true rfl) wr_7_93 rfl ?_
                            refine G_iload 1 dr_cX17_spill_197 rfl ?_
                            refine Gp_iald 0 hm613865 he613866 dr_cX17_spill_199 rfl (gB_in rb613699 (by decide) (by decide)) (G_eqi (y := z613868) hz613868.symm ?_)
                            have r613877 := (spi607493.2.2.2 p613659.toInt.toNat (tn_lt (by omega) (by omega)) (by omega)).2.2
                            have ac613878 : (fI (F612296 q572540) 11).toInt = p612329.toInt := by rw [he612324]; rfl
                            have ac613879 : (fI (F612296 q572540) 14).toInt = p612332.toInt := by rw [he612324]; rfl
                            have rg613880 := rM_ge hT612297 ht612319 hf612320
                            have rm613881 := rM_bd hB612300
                            have bd613882 := rBd_c hT612297 ht612319 hf612320 hB612300
                            have rc613883 := rc_at hT612297 ht612319 hf612320
                            refine Gw_callV (As := [.ref q572541, .ref q610799, .int g612294, .int z613868]) (gV_ok D I) (cg_398209_SpillForgeModel_load l hl0 D I γ el f B P612295 F612296 q572540 q572541 q610799 g612294 z613868 g610659.toInt.toNat hT612297 ht612318 ht612319 ht612301 hf612320 hB612300 hBk r612303 r612304 hf612302 (gB_w bg612294'' (by decide) (by decide)) bz613868' (by omega) (by omega) (by omega) (by omega) (by omega)) dr_cX17_spill_200 ⟨wr_11_67, wr_1_14, wr_11_70, by decide, rfl, (Nat.le_of_ble_eq_true rfl), (Nat.le_of_ble_eq_true rfl)⟩ wr_11_69 wr_p_111 hm612323 he612324 rfl (rm_gc hph612299 pk612321) (rm_gs hph612299 pk612321) (Nat.le_of_ble_eq_true rfl) (fun r613887 w613888 dc613884 ds613885 hp613886 => ?_) (fun _ _ _ _ _ z => z.elim)
                            obtain ⟨P613899, F613900, γ, el, o613889, rfl, rfl, hk613901, ⟨hr613902, hr613903⟩, hB613904, bo613889, x613890, x613891, x613892, x613893, x613894, x613895, x613896, x613897, x613898⟩ := hp613886
                            have hT613905 := hk613901.1
                            have hs613906 := rSk_tr hs612298 hk613901 (by decide) (by decide) (by decide)
                            have kp613907 : F613900 (γ0 9 3) = F572539 (γ0 9 3) := (rSk_F hk613901 (rSk_k hs612298 k0_3 (by decide) (by decide)) (by decide) (by decide)).trans x612315
                            have kp613908 : F613900 (γ0 9 19) = F607408 (γ0 9 19) := (rSk_F hk613901 (rSk_k hs612298 k0_19 (by decide) (by decide)) (by decide) (by decide)).trans x612311
                            have ht613909 : rKd γ q572540 10 := rSk_k hk613901 ht612318 (by decide) (by decide)
                            have ht613910 : rKd γ q572541 9 := rSk_k hk613901 ht612319 (by decide) (by decide)
                            have hf613911 : γ 1 q572541 = f := rSk_1 hk613901 ht612319 (by decide) hf612320
                            have ht613912 : rKd γ q610799 2 := rSk_k hk613901 ht612301 (by decide) (by decide)
                            have hf613913 : γ 1 q610799 = f := rSk_1 hk613901 ht612301 (by decide) hf612302
                            have ht613914 : rKd γ q612374 3 := rSk_k hk613901 ht612378 (by decide) (by decide)
                            have hf613915 : γ 1 q612374 = f := rSk_1 hk613901 ht612378 (by decide) hf612387
                            have ht613916 : rKd γ q613644 1 := rSk_k hk613901 ht613647 (by decide) (by decide)
                            have hf613917 : γ 1 q613644 = f := rSk_1 hk613901 ht613647 (by decide) hf613649
                            have he613918 : F613900 q613644 = .inr (20, [.int p613657, .int p613658, .int p613659, .int p613660, .int p613661, .int p613662, .int p613663]) := (rSk_F hk613901 ht613647 (by decide) (by decide)).trans he613656
                            have hm613919 : q613644 ∈ P613899 := RS_m hT613905 ht613916 (by decide)
                            clear bp612376 bp612377 r612385 r612386 rg613880 rm613881 bd613882 rc613883
                            have mk613920 : mKp (F572539 q572540) (F613900 q572540) := mKp_tr x612316 x613898
                            have hph613921 : rPh γ0 el0 f ≤ rPh γ el f := rm_ph hph612299 hr613903
                            have pk613922 : rPh γ el f ≤ 387 * B + 6000 := rm_pk (rM_ge hT613905 ht613910 hf613911).1 (rM_bd hB613904)
                            change G _ _ _ _ _ _ _ (.int o613889 :: _) _ _ _
                            refine G_widen (cs' := ((rPh γ el f - rPh γ0 el0 f) / 18)) (sl' := (rPh γ el f - rPh γ0 el0 f)) (rm_wc hph612299 hr613902) (rm_ws hph612299 hr613903) ?_
                            have sz613923 := x613890
                            have r613924 : 0 < γ 6 (γ 1 q572541) := by rw [hf613911]; omega
                            have hm613925 : q572540 ∈ P613899 := RS_m hT613905 ht613909 (by decide)
                            refine rk10_e (show rk_10 γ (F613900 q572540) from RS_o hT613905 ht613909) (fun q613927 q613928 p613929 p613930 p613931 p613932 p613933 p613934 p613935 p613936 p613937 p613938 p613939 p613940 p613941 p613942 p613943 he613926 hB613970 ht613944 ht613945 ht613946 ht613947 ht613948 ht613949 ht613950 ht613951 ht613952 ht613953 ht613954 ht613955 ht613956 ht613957 ht613958 ht613959 ht613960 ht613961 ht613962 ht613963 ht613964 ht613965 ht613966 ht613967 hB613971 => ?_)
                            have ac613972 : (fI (F613900 q572540) 11).toInt = p613931.toInt := by rw [he613926]; rfl
                            have bp613931 : gB p613931 0 100 := (hB613970.2.2.1)
                            have ac613973 : (fI (F613900 q572540) 14).toInt = p613934.toInt := by rw [he613926]; rfl
                            have bp613934 : gB p613934 0 2000 := (hB613970.2.2.2.1)
                            refine G_istore (L' := [(8, .int o613889), (7, .int p613660), (6, .int p613659), (5, .ref q613644), (4, .int g612294), (3, .ref q610799), (2, .int g610659), (0, .ref q572540), (1, .ref q572541)]) dr_cX17_spill_203 (Nat.le_of_ble_eq_true rfl) rfl ?_
                            refine G_iload 0 dr_cX17_spill_205 rfl ?_
                            refine G_if_ge 212 dr_cX17_spill_207 (by decide +kernel) (fun hc613974 => ?_) (fun hc613974 => ?_)
                            · have r613975 : 0 ≤ o613889.toInt := gj_leL hc613974 (show Int32.toInt 0 = 0 by decide)
                              have bo613889' : gB o613889 0 1999 := ⟨by omega, by omega⟩
                              have pl613977 := sp_ld (x613896.resolve_left (by omega)) pl613673.1 (tn_ge (by omega)) (rfl : ((g612294.toInt : Int).toNat + 1) = (g612294.toInt : Int).toNat + 1)
                              have hp613978 : rAt γ el q572541 (g610659.toInt : Int).toNat ((g612294.toInt : Int).toNat + 1) = q613644 := ((x613897.resolve_left (by omega)) (g612294.toInt : Int).toNat (Nat.le_refl _)).trans hp613670
                              have r613979 := x613894.resolve_left (by omega)
                              clear x613894 x613896 x613897
                              obtain ⟨z613980, hz613980⟩ : ∃ z : Int32, z = g612294 + Int32.ofInt 1 := ⟨_, rfl⟩
                              have ez613980 : z613980.toInt = g612294.toInt + 1 := gI_inc hz613980 (by decide) bg612294'' (by decide) (by decide)
                              have bz613980 : gB z613980 1 1000000 := ⟨by omega, by omega⟩
                              refine G_iinc (L' := [(4, .int z613980), (8, .int o613889), (7, .int p613660), (6, .int p613659), (5, .ref q613644), (3, .ref q610799), (2, .int g610659), (0, .ref q572540), (1, .ref q572541)]) z613980 4 dr_cX17_spill_212 rfl hz613980.symm (Nat.le_of_ble_eq_true rfl) rfl ?_
                              refine G_aload 4 dr_cX17_spill_215 rfl ?_
                              refine G_iload 1 dr_cX17_spill_217 rfl ?_
                              refine Gp_put 2 hm613919 he613918 dr_cX17_spill_219 (gk_X15 D I) (Nat.le_of_ble_eq_true rfl) wr_9_186 rfl rfl rfl (Nat.le_of_ble_eq_true rfl) (fun F613981 e613982 n613983 => ?_)
                              have r613984 := rk1_at hT613905 ht613916 he613918
                              have he613985 : F613981 q572540 = .inr (22, [.ref (γ 9 0), .ref (γ 9 1), .ref (γ 9 2), .ref (γ 9 3), .ref (γ 9 4), .ref (γ 9 5), .ref (γ 9 6), .ref (γ 9 7), .ref (γ 9 8), .int p613929, .int p613930, .int p613931, .int p613932, .int p613933, .int p613934, .ref (γ 9 15), .ref (γ 9 16), .ref (γ 9 17), .ref (γ 9 18), .ref (γ 9 19), .ref (γ 9 20), .ref (γ 9 21), .ref (γ 9 22), .int p613935, .int p613936, .int p613937, .int p613938, .int p613939, .ref q613927, .ref (γ 9 29), .int p613940, .ref (γ 9 31), .int p613941, .int p613942, .int p613943, .ref q613928]) := (n613983 q572540 (rn_oo he613926 he613918 (by decide))).trans he613926
                              have he613986 : F613981 q613644 = .inr (20, [.int p613657, .int p613658, .int o613889, .int p613660, .int p613661, .int p613662, .int p613663]) := e613982
                              have mk613987 : mKp (F572539 q572540) (F613981 q572540) := mKp_tr mk613920 (mKp_eq (n613983 q572540 (rn_ty ht613909 ht613916 (by decide))))
                              have kp613988 : F613981 (γ0 9 3) = F572539 (γ0 9 3) := (n613983 (γ0 9 3) (rn_ty (rSk_k hs613906 k0_3 (by decide) (by decide)) ht613916 (by decide))).trans kp613907
                              have kp613989 : F613981 (γ0 9 19) = F607408 (γ0 9 19) := (n613983 (γ0 9 19) (rn_ty (rSk_k hs613906 k0_19 (by decide) (by decide)) ht613916 (by decide))).trans kp613908
                              refine G_iload 2 dr_cX17_spill_222 rfl ?_
                              refine G_iload 3 dr_cX17_spill_224 rfl ?_
                              refine G_icmp_ne 236 dr_cX17_spill_226 (by decide +kernel) (fun hc613990 => ?_) (fun hc613990 => ?_)
                              · have r613991 : p613660.toInt ≠ p613659.toInt := gC_ne hc613990
                                have hT613992 : RS D I P613899 F613981 γ el := RS_set hT613905 n613983 ht613916 (by decide) ⟨p613657, p613658, o613889, p613660, p613661, p613662, p613663, he613986, bp613657, bp613658, bp613661, bp613662, bp613663, (gHe r613664), (Or.inr bo613889'), (gHe r613666), r613984.1, r613984.2⟩
                                have hs613994 := rSk_put hs613906 hT613992 n613983 ht613916 (by decide) (by decide)
                                have hm613996 : q610799 ∈ P613899 := RS_m hT613992 ht613912 (by decide)
                                obtain ⟨q613998, q613999, p614000, p614001, he613997, ht614008, ht614002, ht614003, ht614004, ht614005, ht614006, bp614000, bp614001, r614007, r614009, r614010⟩ := show rk_2 γ q610799 (F613981 q610799) from RS_o hT613992 ht613912
                                have hf614011 : γ 1 q613998 = f := (show γ 1 q613998 = γ 1 q610799 from ht614003).trans hf613913
                                have hf614012 : γ 1 q613999 = f := (show γ 1 q613999 = γ 1 q610799 from ht614005).trans hf613913
                                have r614013 : γ 6 (γ 1 q610799) = γ 6 f := by rw [hf613913]
                                have r614014 : γ 7 (γ 1 q610799) = γ 7 f := by rw [hf613913]
                                have r614015 : γ 19 (γ 1 q610799) = γ 19 f := by rw [hf613913]
                                have r614016 := r614007.resolve_left (by omega)
                                clear r614007
                                have r614017 : γ 2 (γ 14 q610799) = γ 2 q613998 := by rw [ht614008.1]
                                have pl613995 := sp_put hT613905 ht613910 hf613911 pl613977 n613983 hp613978 (show (g610659.toInt : Int).toNat < γ 6 f from tn_lt (by omega) (by omega)) (by unfold rwL; rw [x613893.2.2]; exact tn_le1 (by omega) (by omega))
                                have ac614018 : (fI (F613981 q572540) 11).toInt = p613931.toInt := by rw [he613985]; rfl
                                have ac614019 : (fI (F613981 q572540) 14).toInt = p613934.toInt := by rw [he613985]; rfl
                                refine G_lv (L' := [(0, .ref q572540), (1, .ref q572541), (2, .int g610659), (3, .ref q610799), (4, .int z613980), (5, .ref q613644), (6, .int p613659), (7, .int p613660)]) [7, 8, 6, 5, 0, 4, 3, 2] rfl ?_
                                exact jn236_612954 P613899 F613981 γ el z613980 q613644 p613659 p613660 (gB_w bz613980 (by decide) (by decide)) (gB_w rb613699 (by decide) (by decide)) (gB_w rb613864 (by decide) (by decide)) hT613992 hs613994 hph613921 hB613904 ht613912 hf613913 x613893.2.1 x613893.2.2 ht613916 hf613917 (by omega) (by omega) (by omega) (by omega) (by omega) (by omega) kp613989 (by rw [(show (z613980.toInt : Int).toNat = ((g612294.toInt : Int).toNat + 1) from tn_eq1 (by omega) (by omega))]; exact pl613995) (by rw [(show (z613980.toInt : Int).toNat = ((g612294.toInt : Int).toNat + 1) from tn_eq1 (by omega) (by omega))]; exact hp613978) (rS1_of he613656 he613986 pl613673.2 (fun _ _ _ _ => Or.inl (by omega)) (fun _ _ _ => Or.inr ⟨rfl, rfl, by omega, Or.inl (by omega)⟩)) (by omega) (by omega) (ms_j hm90_612316 (by omega) (by omega) (by omega)) (eO_l (by omega)) kp613988 mk613987
                              · have r614020 : p613660.toInt = p613659.toInt := gC_eq hc613990
                                refine G_aload 4 dr_cX17_spill_229 rfl ?_
                                refine G_iload 1 dr_cX17_spill_231 rfl ?_
                                refine Gp_put 3 hm613919 he613986 dr_cX17_spill_233 (gk_X15 D I) (Nat.le_of_ble_eq_true rfl) wr_9_190 rfl rfl rfl (Nat.le_of_ble_eq_true rfl) (fun F614021 e614022 n614023 => ?_)
                                have he614024 : F614021 q572540 = .inr (22, [.ref (γ 9 0), .ref (γ 9 1), .ref (γ 9 2), .ref (γ 9 3), .ref (γ 9 4), .ref (γ 9 5), .ref (γ 9 6), .ref (γ 9 7), .ref (γ 9 8), .int p613929, .int p613930, .int p613931, .int p613932, .int p613933, .int p613934, .ref (γ 9 15), .ref (γ 9 16), .ref (γ 9 17), .ref (γ 9 18), .ref (γ 9 19), .ref (γ 9 20), .ref (γ 9 21), .ref (γ 9 22), .int p613935, .int p613936, .int p613937, .int p613938, .int p613939, .ref q613927, .ref (γ 9 29), .int p613940, .ref (γ 9 31), .int p613941, .int p613942, .int p613943, .ref q613928]) := (n614023 q572540 (rn_oo he613985 he613986 (by decide))).trans he613985
                                have he614025 : F614021 q613644 = .inr (20, [.int p613657, .int p613658, .int o613889, .int o613889, .int p613661, .int p613662, .int p613663]) := e614022
                                have mk614026 : mKp (F572539 q572540) (F614021 q572540) := mKp_tr mk613987 (mKp_eq (n614023 q572540 (rn_ty ht613909 ht613916 (by decide))))
                                have n614027 : ∀ b, b ≠ q613644 → F614021 b = F613900 b := fun b hb => (n614023 b hb).trans (n613983 b hb)
                                have kp614028 : F614021 (γ0 9 3) = F572539 (γ0 9 3) := (n614023 (γ0 9 3) (rn_ty (rSk_k hs613906 k0_3 (by decide) (by decide)) ht613916 (by decide))).trans kp613988
                                have kp614029 : F614021 (γ0 9 19) = F607408 (γ0 9 19) := (n614023 (γ0 9 19) (rn_ty (rSk_k hs613906 k0_19 (by decide) (by decide)) ht613916 (by decide))).trans kp613989
                                have hT614030 : RS D I P613899 F614021 γ el := RS_set hT613905 n614027 ht613916 (by decide) ⟨p613657, p613658, o613889, o613889, p613661, p613662, p613663, he614025, bp613657, bp613658, bp613661, bp613662, bp613663, (gHe r613664), (Or.inr bo613889'), (Or.inr bo613889'), r613984.1, r613984.2⟩
                                have hs614032 := rSk_put hs613906 hT614030 n614027 ht613916 (by decide) (by decide)
                                have hm614034 : q610799 ∈ P613899 := RS_m hT614030 ht613912 (by decide)
                                obtain ⟨q614036, q614037, p614038, p614039, he614035, ht614046, ht614040, ht614041, ht614042, ht614043, ht614044, bp614038, bp614039, r614045, r614047, r614048⟩ := show rk_2 γ q610799 (F614021 q610799) from RS_o hT614030 ht613912
                                have hf614049 : γ 1 q614036 = f := (show γ 1 q614036 = γ 1 q610799 from ht614041).trans hf613913
                                have hf614050 : γ 1 q614037 = f := (show γ 1 q614037 = γ 1 q610799 from ht614043).trans hf613913
                                have r614051 : γ 6 (γ 1 q610799) = γ 6 f := by rw [hf613913]
                                have r614052 : γ 7 (γ 1 q610799) = γ 7 f := by rw [hf613913]
                                have r614053 : γ 19 (γ 1 q610799) = γ 19 f := by rw [hf613913]
                                have r614054 := r614045.resolve_left (by omega)
                                clear r614045
                                have r614055 : γ 2 (γ 14 q610799) = γ 2 q614036 := by rw [ht614046.1]
                                have pl614033 := sp_put hT613905 ht613910 hf613911 pl613977 n614027 hp613978 (show (g610659.toInt : Int).toNat < γ 6 f from tn_lt (by omega) (by omega)) (by unfold rwL; rw [x613893.2.2]; exact tn_le1 (by omega) (by omega))
                                have ac614056 : (fI (F614021 q572540) 11).toInt = p613931.toInt := by rw [he614024]; rfl
                                have ac614057 : (fI (F614021 q572540) 14).toInt = p613934.toInt := by rw [he614024]; rfl
                                refine G_lv (L' := [(0, .ref q572540), (1, .ref q572541), (2, .int g610659), (3, .ref q610799), (4, .int z613980), (5, .ref q613644), (6, .int p613659), (7, .int p613660)]) [7, 8, 6, 5, 0, 4, 3, 2] rfl ?_
                                exact jn236_612954 P613899 F614021 γ el z613980 q613644 p613659 p613660 (gB_w bz613980 (by decide) (by decide)) (gB_w rb613699 (by decide) (by decide)) (gB_w rb613864 (by decide) (by decide)) hT614030 hs614032 hph613921 hB613904 ht613912 hf613913 x613893.2.1 x613893.2.2 ht613916 hf613917 (by omega) (by omega) (by omega) (by omega) (by omega) (by omega) kp614029 (by rw [(show (z613980.toInt : Int).toNat = ((g612294.toInt : Int).toNat + 1) from tn_eq1 (by omega) (by omega))]; exact pl614033) (by rw [(show (z613980.toInt : Int).toNat = ((g612294.toInt : Int).toNat + 1) from tn_eq1 (by omega) (by omega))]; exact hp613978) (rS1_of he613656 he614025 pl613673.2 (fun _ _ _ _ => Or.inl (by omega)) (fun _ _ _ => Or.inl (by omega))) (by omega) (by omega) (ms_j hm90_612316 (by omega) (by omega) (by omega)) (eO_l (by omega)) kp614028 mk614026
                            · have r614058 : o613889.toInt < 0 := gj_nleL hc613974 (show Int32.toInt 0 = 0 by decide)
                              have bo613889' : gB o613889 (-1) (-1) := ⟨by omega, by omega⟩
                              refine G_iconst 0 dr_cX17_spill_210 (by decide +kernel) ?_
                              exact G_zretA FieldType.boolean dr_cX17_spill_211 rfl rfl (rm_zc pk613922) (rm_zs pk613922) ⟨P613899, F613900, γ, el, 0, rfl, rfl, hs613906, (rm_pp hph613921), hB613904, (gB_w (gBl (show Int32.toInt 0 = 0 by decide)) (by decide) (by decide)), (by have qa0 : Int32.toInt 0 = 0 := (by decide); omega), (Or.inl (by decide)), kp613907, mk613920⟩
              have ac614059 : (fI (F610661 q572540) 11).toInt = p610688.toInt := by rw [he610683]; rfl
              have ac614060 : (fI (F610661 q572540) 14).toInt = p610691.toInt := by rw [he610683]; rfl
              exact hlp90_612316 ((γ 2 (γ 14 q610799) + 1 - (0 : Int).toNat) + 1) P610660 F610661 γ el 0 (gB_w (gBl (show Int32.toInt 0 = 0 by decide)) (by decide) (by decide)) hT610662 hs610663 hph610664 hB610665 ht610804 hf610826 r610834 r610835 (by have qa0 : Int32.toInt 0 = 0 := (by decide); omega) (by have qa0 : Int32.toInt 0 = 0 := (by decide); omega) (by have qa0 : Int32.toInt 0 = 0 := (by decide); omega) (by have qa0 : Int32.toInt 0 = 0 := (by decide); omega) (by have qa0 : Int32.toInt 0 = 0 := (by decide); omega) (by have qa0 : Int32.toInt 0 = 0 := (by decide); omega) x610672 (by have qa : Int32.toInt 0 = 0 := (by decide); rw [qa]; exact x610673) (by have qa0 : Int32.toInt 0 = 0 := (by decide); omega) (by have qa0 : Int32.toInt 0 = 0 := (by decide); omega) x610674 x610675 (Nat.lt_succ_self _)
        have ac614061 : (fI (F607408 q572540) 11).toInt = p607514.toInt := by rw [he607509]; rfl
        have ac614062 : (fI (F607408 q572540) 14).toInt = p607517.toInt := by rw [he607509]; rfl
        exact hlp73_610675 (((1000001 : Int) - 0).toNat + 1) P607407 F607408 γ el 0 (gB_w (gBl (show Int32.toInt 0 = 0 by decide)) (by decide) (by decide)) hT607499 hs607500 hph607558 hB607557 (by have qa0 : Int32.toInt 0 = 0 := (by decide); omega) (by have qa0 : Int32.toInt 0 = 0 := (by decide); omega) (by have qa0 : Int32.toInt 0 = 0 := (by decide); omega) (by have qa0 : Int32.toInt 0 = 0 := (by decide); omega) (by have qa0 : Int32.toInt 0 = 0 := (by decide); omega) (by have qa0 : Int32.toInt 0 = 0 := (by decide); omega) kp607502 (by have qa : Int32.toInt 0 = 0 := (by decide); rw [qa]; exact pl607561) kp607501 mk607507 (Nat.lt_succ_self _)
      · have r614063 : g607406.toInt < 2000 := gj_nleL hc607489 (show Int32.toInt 2000 = 2000 by decide)
        have bg607406' : gB g607406 0 1999 := ⟨by omega, by omega⟩
        refine G_aload_n 1 dr_cX17_spill_9 rfl ?_
        refine Gp_get 19 hm607427 he607428 dr_cX17_spill_10 (gk_X17 D I) (Nat.le_of_ble_eq_true rfl) wr_7_93 rfl ?_
        refine G_iload_n 0 dr_cX17_spill_13 rfl ?_
        refine G_iconst (-1) dr_cX17_spill_14 (by decide +kernel) ?_
        refine Gp_iast 0 hm607481 he607482 dr_cX17_spill_15 rfl (gB_in bg607406' (by decide) (by decide)) (fun F614064 e614065 n614066 => ?_)
        obtain ⟨f614067, hf614067⟩ : ∃ z, z = upd f607483 g607406.toNatClampNeg (-1) := ⟨_, rfl⟩
        rw [← hf614067] at e614065
        have he614068 : F614064 q572540 = .inr (22, [.ref (γ 9 0), .ref (γ 9 1), .ref (γ 9 2), .ref (γ 9 3), .ref (γ 9 4), .ref (γ 9 5), .ref (γ 9 6), .ref (γ 9 7), .ref (γ 9 8), .int p607431, .int p607432, .int p607433, .int p607434, .int p607435, .int p607436, .ref (γ 9 15), .ref (γ 9 16), .ref (γ 9 17), .ref (γ 9 18), .ref (γ 9 19), .ref (γ 9 20), .ref (γ 9 21), .ref (γ 9 22), .int p607437, .int p607438, .int p607439, .int p607440, .int p607441, .ref q607429, .ref (γ 9 29), .int p607442, .ref (γ 9 31), .int p607443, .int p607444, .int p607445, .ref q607430]) := (n614066 q572540 (rn_oa he607428 he607482)).trans he607428
        have he614069 : F614064 (γ 9 3) = .inl (I .boolean, 2000, .inl f607479) := (n614066 (γ 9 3) (rn_ty ht607451 ht607461 (by decide))).trans he607478
        have he614070 : F614064 (γ 9 17) = .inl (I .int, 2000, .inl f607487) := (n614066 (γ 9 17) (rn_ty ht607459 ht607461 (by decide))).trans he607486
        have he614071 : F614064 (γ 9 19) = .inl (I .int, 2000, .inl f614067) := e614065
        have mk614072 : mKp (F572539 q572540) (F614064 q572540) := mKp_tr x607421 (mKp_eq (n614066 q572540 (rn_ty ht607423 ht607461 (by decide))))
        have kp614073 : F614064 (γ0 9 3) = F572539 (γ0 9 3) := (n614066 (γ0 9 3) (rn_ty (rSk_k hs607410 k0_3 (by decide) (by decide)) ht607461 (by decide))).trans x607420
        have bf614067 : gF f614067 (-1) 1999 := gF_upd hf614067 bf607483 (gB_w (gBl (show Int32.toInt (-1) = (-1) by decide)) (by decide) (by decide))
        have hT614074 : RS D I P607407 F614064 γ el := RS_set hT607409 n614066 ht607461 (by decide) ⟨f614067, he614071, bf614067⟩
        have hs614076 := rSk_put hs607410 hT614074 n614066 ht607461 (by decide) (by decide)
        have pl614077 := rPl_fr hT607409 ht607424 hf607425 x607419 (fun b hb _ => n614066 b (rn_ty (show rKd γ b 1 from hb) ht607461 (by decide)))
        refine G_aload_n 1 dr_cX17_spill_16 rfl ?_
        refine Gp_get 3 hm607427 he614068 dr_cX17_spill_17 (gk_X17 D I) (Nat.le_of_ble_eq_true rfl) wr_7_77 rfl ?_
        refine G_iload_n 0 dr_cX17_spill_20 rfl ?_
        refine Gp_zald 3 hm607477 he614069 dr_cX17_spill_21 rfl (gB_in bg607406' (by decide) (by decide)) (G_nam fun z614078 hz614078 => ?_)
        have bz614078 : gB z614078 0 1 := by rw [hz614078]; exact bf607479 _
        refine G_if_eq 65 dr_cX17_spill_22 (by decide +kernel) (fun hc614079 => ?_) (fun hc614079 => ?_)
        · have r614080 : z614078.toInt = 0 := gj_eq hc614079 (show Int32.toInt 0 = 0 by decide)
          have bz614078' : gB z614078 0 0 := gB_t0 r614080
          obtain ⟨z614081, hz614081⟩ : ∃ z : Int32, z = g607406 + Int32.ofInt 1 := ⟨_, rfl⟩
          have ez614081 : z614081.toInt = g607406.toInt + 1 := gI_inc hz614081 (by decide) bg607406' (by decide) (by decide)
          have bz614081 : gB z614081 1 2000 := ⟨by omega, by omega⟩
          refine G_iinc (L' := [(2, .int z614081), (0, .ref q572540), (1, .ref q572541)]) z614081 0 dr_cX17_spill_65 rfl hz614081.symm (Nat.le_of_ble_eq_true rfl) rfl ?_
          refine G_goto 2 dr_cX17_spill_68 (by decide +kernel) ?_
          have ac614082 : (fI (F614064 q572540) 11).toInt = p607433.toInt := by rw [he614068]; rfl
          have ac614083 : (fI (F614064 q572540) 14).toInt = p607436.toInt := by rw [he614068]; rfl
          have c9_614084 : cB (F572539 (γ0 9 3)) = f607479 := by rw [← kp614073, ← congrFun (rSk_9 hs614076) 3]; exact cB_of he614069
          have c9_614085 : cB (F614064 (γ0 9 19)) = f614067 := by rw [← congrFun (rSk_9 hs614076) 19]; exact cB_of he614071
          exact ih2_607421 P607407 F614064 γ el z614081 (gB_w bz614081 (by decide) (by decide)) hT614074 hs614076 hph607411 hB607412 (by omega) (by omega) (by omega) (by omega) (by omega) (by rw [c9_614084, c9_614085, ac614082]; exact spI_n (h2 := fun _ => 0) hf614067 (by decide) (by omega) ez614081 cq607488) pl614077 kp614073 mk614072 (by omega)
        · have r614086 : z614078.toInt ≠ 0 := gj_neq hc614079 (show Int32.toInt 0 = 0 by decide)
          have bz614078' : gB z614078 1 1 := gB_t1 bz614078 r614086
          refine G_aload_n 1 dr_cX17_spill_25 rfl ?_
          refine Gp_get 17 hm607427 he614068 dr_cX17_spill_26 (gk_X17 D I) (Nat.le_of_ble_eq_true rfl) wr_7_91 rfl ?_
          refine G_iload_n 0 dr_cX17_spill_29 rfl ?_
          refine Gp_iald 0 hm607485 he614070 dr_cX17_spill_30 rfl (gB_in bg607406' (by decide) (by decide)) (G_nam fun z614087 hz614087 => ?_)
          have bz614087 : gB z614087 (-1) 31 := by rw [hz614087]; exact bf607487 _
          refine G_if_lt 37 dr_cX17_spill_31 (by decide +kernel) (fun hc614088 => ?_) (fun hc614088 => ?_)
          · have r614089 : z614087.toInt < 0 := gj_lt hc614088 (show Int32.toInt 0 = 0 by decide)
            have bz614087' : gB z614087 (-1) (-1) := ⟨by omega, by omega⟩
            refine G_iload_n 0 dr_cX17_spill_37 rfl ?_
            refine G_bipush 100 dr_cX17_spill_38 (by decide +kernel) ?_
            refine G_icmp_lt 45 dr_cX17_spill_40 (by decide +kernel) (fun hc614090 => ?_) (fun hc614090 => ?_)
            · have r614091 : g607406.toInt < 100 := gj_lt hc614090 (show Int32.toInt 100 = 100 by decide)
              have bg607406'' : gB g607406 0 99 := ⟨by omega, by omega⟩
              refine G_aload_n 1 dr_cX17_spill_45 rfl ?_
              refine Gp_get 19 hm607427 he614068 dr_cX17_spill_46 (gk_X17 D I) (Nat.le_of_ble_eq_true rfl) wr_7_93 rfl ?_
              refine G_iload_n 0 dr_cX17_spill_49 rfl ?_
              refine G_aload_n 1 dr_cX17_spill_50 rfl ?_
              refine Gp_get 11 hm607427 he614068 dr_cX17_spill_51 (gk_X17 D I) (Nat.le_of_ble_eq_true rfl) wr_7_85 rfl ?_
              refine Gp_iast 0 hm607481 he614071 dr_cX17_spill_54 rfl (gB_in bg607406'' (by decide) (by decide)) (fun F614092 e614093 n614094 => ?_)
              obtain ⟨f614095, hf614095⟩ : ∃ z, z = upd f614067 g607406.toNatClampNeg p607433 := ⟨_, rfl⟩
              rw [← hf614095] at e614093
              have he614096 : F614092 q572540 = .inr (22, [.ref (γ 9 0), .ref (γ 9 1), .ref (γ 9 2), .ref (γ 9 3), .ref (γ 9 4), .ref (γ 9 5), .ref (γ 9 6), .ref (γ 9 7), .ref (γ 9 8), .int p607431, .int p607432, .int p607433, .int p607434, .int p607435, .int p607436, .ref (γ 9 15), .ref (γ 9 16), .ref (γ 9 17), .ref (γ 9 18), .ref (γ 9 19), .ref (γ 9 20), .ref (γ 9 21), .ref (γ 9 22), .int p607437, .int p607438, .int p607439, .int p607440, .int p607441, .ref q607429, .ref (γ 9 29), .int p607442, .ref (γ 9 31), .int p607443, .int p607444, .int p607445, .ref q607430]) := (n614094 q572540 (rn_oa he614068 he614071)).trans he614068
              have he614097 : F614092 (γ 9 3) = .inl (I .boolean, 2000, .inl f607479) := (n614094 (γ 9 3) (rn_ty ht607451 ht607461 (by decide))).trans he614069
              have he614098 : F614092 (γ 9 17) = .inl (I .int, 2000, .inl f607487) := (n614094 (γ 9 17) (rn_ty ht607459 ht607461 (by decide))).trans he614070
              have he614099 : F614092 (γ 9 19) = .inl (I .int, 2000, .inl f614095) := e614093
              have mk614100 : mKp (F572539 q572540) (F614092 q572540) := mKp_tr mk614072 (mKp_eq (n614094 q572540 (rn_ty ht607423 ht607461 (by decide))))
              have kp614101 : F614092 (γ0 9 3) = F572539 (γ0 9 3) := (n614094 (γ0 9 3) (rn_ty (rSk_k hs614076 k0_3 (by decide) (by decide)) ht607461 (by decide))).trans kp614073
              have bf614095 : gF f614095 (-1) 1999 := gF_upd hf614095 bf614067 (gB_w bp607433 (by decide) (by decide))
              have hT614102 : RS D I P607407 F614092 γ el := RS_set hT614074 n614094 ht607461 (by decide) ⟨f614095, he614099, bf614095⟩
              have of614103 : ∀ b, b ≠ (γ 9 19) → F614092 b = F607408 b := fun b hb => (n614094 b hb).trans (n614066 b hb)
              have hs614104 := rSk_put hs614076 hT614102 n614094 ht607461 (by decide) (by decide)
              have pl614105 := rPl_fr hT614074 ht607424 hf607425 pl614077 (fun b hb _ => n614094 b (rn_ty (show rKd γ b 1 from hb) ht607461 (by decide)))
              have cq614106 := spI_s (r1 := g607406.toInt + 1) (s1 := p607433.toInt + 1) hf614067 hf614095 rfl (by omega) (by omega) rfl (by omega) (sd_of hz614078 (by omega) (by omega) (by omega)) rfl cq607488
              have r614107 := cq614106.2
              have r614108 := cq607488.1
              have r614109 := x572545
              rw [c9_607480] at r614109
              have bp607433' : gB p607433 0 99 := ⟨by omega, by omega⟩
              refine G_aload_n 1 dr_cX17_spill_55 rfl ?_
              refine G_dup dr_cX17_spill_56 rfl ?_
              refine Gp_get 11 hm607427 he614096 dr_cX17_spill_57 (gk_X17 D I) (Nat.le_of_ble_eq_true rfl) wr_7_85 rfl ?_
              refine G_iconst 1 dr_cX17_spill_60 (by decide +kernel) ?_
              refine G_iadd dr_cX17_spill_61 (G_nam fun z614110 hz614110 => ?_)
              have ez614110 : z614110.toInt = p607433.toInt + 1 := by rw [gI_add hz614110 bp607433' (gBl (show Int32.toInt 1 = 1 by decide)) (by decide) (by decide), show Int32.toInt 1 = 1 from by decide]
              have bz614110 : gB z614110 1 100 := gB_add (gI_add hz614110 bp607433' (gBl (show Int32.toInt 1 = 1 by decide)) (by decide) (by decide)) bp607433' (gBl (show Int32.toInt 1 = 1 by decide)) (by decide) (by decide)
              refine Gp_put 11 hm607427 he614096 dr_cX17_spill_62 (gk_X17 D I) (Nat.le_of_ble_eq_true rfl) wr_7_85 rfl rfl rfl (Nat.le_of_ble_eq_true rfl) (fun F614111 e614112 n614113 => ?_)
              have he614114 : F614111 (γ 9 3) = .inl (I .boolean, 2000, .inl f607479) := (n614113 (γ 9 3) (rn_ao he614097 he614096)).trans he614097
              have he614115 : F614111 (γ 9 19) = .inl (I .int, 2000, .inl f614095) := (n614113 (γ 9 19) (rn_ao he614099 he614096)).trans he614099
              have he614116 : F614111 (γ 9 17) = .inl (I .int, 2000, .inl f607487) := (n614113 (γ 9 17) (rn_ao he614098 he614096)).trans he614098
              have he614117 : F614111 q572540 = .inr (22, [.ref (γ 9 0), .ref (γ 9 1), .ref (γ 9 2), .ref (γ 9 3), .ref (γ 9 4), .ref (γ 9 5), .ref (γ 9 6), .ref (γ 9 7), .ref (γ 9 8), .int p607431, .int p607432, .int z614110, .int p607434, .int p607435, .int p607436, .ref (γ 9 15), .ref (γ 9 16), .ref (γ 9 17), .ref (γ 9 18), .ref (γ 9 19), .ref (γ 9 20), .ref (γ 9 21), .ref (γ 9 22), .int p607437, .int p607438, .int p607439, .int p607440, .int p607441, .ref q607429, .ref (γ 9 29), .int p607442, .ref (γ 9 31), .int p607443, .int p607444, .int p607445, .ref q607430]) := e614112
              have mk614118 : mKp (F572539 q572540) (F614111 q572540) := mKp_tr mk614100 (by rw [he614096, he614117]; exact ⟨rfl, rfl⟩)
              have kp614119 : F614111 (γ0 9 3) = F572539 (γ0 9 3) := (n614113 (γ0 9 3) (rn_ty (rSk_k hs614104 k0_3 (by decide) (by decide)) ht607423 (by decide))).trans kp614101
              have kp614120 : F614111 (γ0 9 19) = F614092 (γ0 9 19) := n614113 (γ0 9 19) (rn_ty (rSk_k hs614104 k0_19 (by decide) (by decide)) ht607423 (by decide))
              have hT614121 : RS D I P607407 F614111 γ el := RS_set hT614102 n614113 ht607423 (by decide) ⟨q607429, q607430, p607431, p607432, z614110, p607434, p607435, p607436, p607437, p607438, p607439, p607440, p607441, p607442, p607443, p607444, p607445, he614117, ⟨(hB607472.1), (hB607472.2.1), (gB_w bz614110 (by decide) (by decide)), bp607436, (hB607472.2.2.2.2.1), (hB607472.2.2.2.2.2.1), (hB607472.2.2.2.2.2.2.1), (hB607472.2.2.2.2.2.2.2.1), (hB607472.2.2.2.2.2.2.2.2)⟩, ht607446, ht607447, ht607448, ht607449, ht607450, ht607451, ht607452, ht607453, ht607454, ht607455, ht607456, ht607457, ht607458, ht607459, ht607460, ht607461, ht607462, ht607463, ht607464, ht607465, ht607466, ht607467, ht607468, ht607469, hB607473⟩
              have hs614123 := rSk_put hs614104 hT614121 n614113 ht607423 (by decide) (by decide)
              have pl614124 := rPl_fr hT614102 ht607424 hf607425 pl614105 (fun b hb _ => n614113 b (rn_ty (show rKd γ b 1 from hb) ht607423 (by decide)))
              obtain ⟨z614125, hz614125⟩ : ∃ z : Int32, z = g607406 + Int32.ofInt 1 := ⟨_, rfl⟩
              have ez614125 : z614125.toInt = g607406.toInt + 1 := gI_inc hz614125 (by decide) bg607406'' (by decide) (by decide)
              have bz614125 : gB z614125 1 100 := ⟨by omega, by omega⟩
              refine G_iinc (L' := [(2, .int z614125), (0, .ref q572540), (1, .ref q572541)]) z614125 0 dr_cX17_spill_65 rfl hz614125.symm (Nat.le_of_ble_eq_true rfl) rfl ?_
              refine G_goto 2 dr_cX17_spill_68 (by decide +kernel) ?_
              have ac614126 : (fI (F614111 q572540) 11).toInt = z614110.toInt := by rw [he614117]; rfl
              have ac614127 : (fI (F614111 q572540) 14).toInt = p607436.toInt := by rw [he614117]; rfl
              have c9_614128 : cB (F572539 (γ0 9 3)) = f607479 := by rw [← kp614119, ← congrFun (rSk_9 hs614123) 3]; exact cB_of he614114
              have c9_614129 : cB (F614111 (γ0 9 19)) = f614095 := by rw [← congrFun (rSk_9 hs614123) 19]; exact cB_of he614115
              exact ih2_607421 P607407 F614111 γ el z614125 (gB_w bz614125 (by decide) (by decide)) hT614121 hs614123 hph607411 hB607412 (by omega) (by omega) (by omega) (by omega) (by omega) (by rw [c9_614128, c9_614129, ac614126, ez614125, ez614110]; exact cq614106.1) pl614124 kp614119 mk614118 (by omega)
            · have r614130 : 100 ≤ g607406.toInt := gj_nlt hc614090 (show Int32.toInt 100 = 100 by decide)
              have bg607406'' : gB g607406 100 1999 := ⟨by omega, by omega⟩
              refine G_iconst 0 dr_cX17_spill_43 (by decide +kernel) ?_
              exact G_zretA FieldType.boolean dr_cX17_spill_44 rfl rfl (rm_zc pk607426) (rm_zs pk607426) ⟨P607407, F614064, γ, el, 0, rfl, rfl, hs614076, (rm_pp hph607411), hB607412, (gB_w (gBl (show Int32.toInt 0 = 0 by decide)) (by decide) (by decide)), (by have qa0 : Int32.toInt 0 = 0 := (by decide); omega), (Or.inl (by decide)), kp614073, mk614072⟩
          · have r614131 : 0 ≤ z614087.toInt := gj_nlt hc614088 (show Int32.toInt 0 = 0 by decide)
            have bz614087' : gB z614087 0 31 := ⟨by omega, by omega⟩
            refine G_goto 65 dr_cX17_spill_34 (by decide +kernel) ?_
            obtain ⟨z614132, hz614132⟩ : ∃ z : Int32, z = g607406 + Int32.ofInt 1 := ⟨_, rfl⟩
            have ez614132 : z614132.toInt = g607406.toInt + 1 := gI_inc hz614132 (by decide) bg607406' (by decide) (by decide)
            have bz614132 : gB z614132 1 2000 := ⟨by omega, by omega⟩
            refine G_iinc (L' := [(2, .int z614132), (0, .ref q572540), (1, .ref q572541)]) z614132 0 dr_cX17_spill_65 rfl hz614132.symm (Nat.le_of_ble_eq_true rfl) rfl ?_
            refine G_goto 2 dr_cX17_spill_68 (by decide +kernel) ?_
            have ac614133 : (fI (F614064 q572540) 11).toInt = p607433.toInt := by rw [he614068]; rfl
            have ac614134 : (fI (F614064 q572540) 14).toInt = p607436.toInt := by rw [he614068]; rfl
            have c9_614135 : cB (F572539 (γ0 9 3)) = f607479 := by rw [← kp614073, ← congrFun (rSk_9 hs614076) 3]; exact cB_of he614069
            have c9_614136 : cB (F614064 (γ0 9 19)) = f614067 := by rw [← congrFun (rSk_9 hs614076) 19]; exact cB_of he614071
            exact ih2_607421 P607407 F614064 γ el z614132 (gB_w bz614132 (by decide) (by decide)) hT614074 hs614076 hph607411 hB607412 (by omega) (by omega) (by omega) (by omega) (by omega) (by rw [c9_614135, c9_614136, ac614133]; exact spI_n (h2 := fun _ => 0) hf614067 (by decide) (by omega) ez614132 cq607488) pl614077 kp614073 mk614072 (by omega)
  exact hlp2_607421 (((2001 : Int) - 0).toNat + 1) P572538 F572539 γ el 0 (gB_w (gBl (show Int32.toInt 0 = 0 by decide)) (by decide) (by decide)) hT hst hph hB (by have qa0 : Int32.toInt 0 = 0 := (by decide); omega) (by have qa0 : Int32.toInt 0 = 0 := (by decide); omega) (by have qa0 : Int32.toInt 0 = 0 := (by decide); omega) (by have qa0 : Int32.toInt 0 = 0 := (by decide); omega) (by have qa0 : Int32.toInt 0 = 0 := (by decide); omega) (by have qa : Int32.toInt 0 = 0 := (by decide); rw [qa]; exact spI_0) (by rw [hγ0, hel0]; exact x572546) rfl mKp_rf (Nat.lt_succ_self _)
