theorem dr_cX17_spill_0 : decode cX17_spill 0 = .ok (.iconst 0, 1) := by decide +kernel
theorem dr_cX17_spill_1 : decode cX17_spill 1 = .ok (.istore_n 2, 1) := by decide +kernel
theorem dr_cX17_spill_2 : decode cX17_spill 2 = .ok (.iload_n 2, 1) := by decide +kernel
theorem dr_cX17_spill_3 : decode cX17_spill 3 = .ok (.sipush 2000, 3) := by decide +kernel
theorem dr_cX17_spill_6 : decode cX17_spill 6 = .ok (.if_icmp .ge 65, 3) := by decide +kernel
theorem dr_cX17_spill_71 : decode cX17_spill 71 = .ok (.iconst 0, 1) := by decide +kernel
theorem dr_cX17_spill_72 : decode cX17_spill 72 = .ok (.istore_n 2, 1) := by decide +kernel
theorem dr_cX17_spill_73 : decode cX17_spill 73 = .ok (.iload_n 2, 1) := by decide +kernel
theorem dr_cX17_spill_74 : decode cX17_spill 74 = .ok (.aload_n 1, 1) := by decide +kernel
theorem dr_cX17_spill_75 : decode cX17_spill 75 = .ok (.invokevirtual 96, 3) := by decide +kernel
theorem dr_cX17_spill_78 : decode cX17_spill 78 = .ok (.if_icmp .ge 353, 3) := by decide +kernel
theorem dr_cX17_spill_431 : decode cX17_spill 431 = .ok (.aload_n 1, 1) := by decide +kernel
theorem dr_cX17_spill_432 : decode cX17_spill 432 = .ok (.invokevirtual 234, 3) := by decide +kernel
theorem dr_cX17_spill_435 : decode cX17_spill 435 = .ok (.sipush 4000, 3) := by decide +kernel
theorem dr_cX17_spill_438 : decode cX17_spill 438 = .ok (.if_icmp .gt 7, 3) := by decide +kernel
theorem dr_cX17_spill_445 : decode cX17_spill 445 = .ok (.iconst 0, 1) := by decide +kernel
theorem dr_cX17_spill_446 : decode cX17_spill 446 = .ok (.ireturn, 1) := by decide +kernel
theorem dr_cX17_spill_441 : decode cX17_spill 441 = .ok (.iconst 1, 1) := by decide +kernel
theorem dr_cX17_spill_442 : decode cX17_spill 442 = .ok (.goto 4, 3) := by decide +kernel
theorem dr_cX17_spill_81 : decode cX17_spill 81 = .ok (.aload_n 1, 1) := by decide +kernel
theorem dr_cX17_spill_82 : decode cX17_spill 82 = .ok (.iload_n 2, 1) := by decide +kernel
theorem dr_cX17_spill_83 : decode cX17_spill 83 = .ok (.invokevirtual 101, 3) := by decide +kernel
theorem dr_cX17_spill_86 : decode cX17_spill 86 = .ok (.astore_n 3, 1) := by decide +kernel
theorem dr_cX17_spill_87 : decode cX17_spill 87 = .ok (.iconst 0, 1) := by decide +kernel
theorem dr_cX17_spill_88 : decode cX17_spill 88 = .ok (.istore 4, 2) := by decide +kernel
theorem dr_cX17_spill_90 : decode cX17_spill 90 = .ok (.iload 4, 2) := by decide +kernel
theorem dr_cX17_spill_92 : decode cX17_spill 92 = .ok (.aload_n 3, 1) := by decide +kernel
theorem dr_cX17_spill_93 : decode cX17_spill 93 = .ok (.getfield 117, 3) := by decide +kernel
theorem dr_cX17_spill_96 : decode cX17_spill 96 = .ok (.invokevirtual 121, 3) := by decide +kernel
theorem dr_cX17_spill_99 : decode cX17_spill 99 = .ok (.if_icmp .gt 326, 3) := by decide +kernel
theorem dr_cX17_spill_425 : decode cX17_spill 425 = .ok (.iinc 2 1, 3) := by decide +kernel
theorem dr_cX17_spill_428 : decode cX17_spill 428 = .ok (.goto (-355), 3) := by decide +kernel
theorem dr_cX17_spill_292 : decode cX17_spill 292 = .ok (.aload 5, 2) := by decide +kernel
theorem dr_cX17_spill_294 : decode cX17_spill 294 = .ok (.invokevirtual 48, 3) := by decide +kernel
theorem dr_cX17_spill_297 : decode cX17_spill 297 = .ok (.ifCond .eq 122, 3) := by decide +kernel
theorem dr_cX17_spill_419 : decode cX17_spill 419 = .ok (.iinc 4 1, 3) := by decide +kernel
theorem dr_cX17_spill_422 : decode cX17_spill 422 = .ok (.goto (-332), 3) := by decide +kernel
theorem dr_cX17_spill_300 : decode cX17_spill 300 = .ok (.aload 5, 2) := by decide +kernel
theorem dr_cX17_spill_302 : decode cX17_spill 302 = .ok (.getfield 39, 3) := by decide +kernel
theorem dr_cX17_spill_305 : decode cX17_spill 305 = .ok (.bipush 21, 2) := by decide +kernel
theorem dr_cX17_spill_307 : decode cX17_spill 307 = .ok (.if_icmp .eq 112, 3) := by decide +kernel
theorem dr_cX17_spill_310 : decode cX17_spill 310 = .ok (.aload_n 0, 1) := by decide +kernel
theorem dr_cX17_spill_311 : decode cX17_spill 311 = .ok (.getfield 221, 3) := by decide +kernel
theorem dr_cX17_spill_314 : decode cX17_spill 314 = .ok (.aload 5, 2) := by decide +kernel
theorem dr_cX17_spill_316 : decode cX17_spill 316 = .ok (.getfield 52, 3) := by decide +kernel
theorem dr_cX17_spill_319 : decode cX17_spill 319 = .ok (.iaload, 1) := by decide +kernel
theorem dr_cX17_spill_320 : decode cX17_spill 320 = .ok (.ifCond .ge 6, 3) := by decide +kernel
theorem dr_cX17_spill_326 : decode cX17_spill 326 = .ok (.aload_n 0, 1) := by decide +kernel
theorem dr_cX17_spill_327 : decode cX17_spill 327 = .ok (.getfield 221, 3) := by decide +kernel
theorem dr_cX17_spill_330 : decode cX17_spill 330 = .ok (.aload 5, 2) := by decide +kernel
theorem dr_cX17_spill_332 : decode cX17_spill 332 = .ok (.getfield 52, 3) := by decide +kernel
theorem dr_cX17_spill_335 : decode cX17_spill 335 = .ok (.iaload, 1) := by decide +kernel
theorem dr_cX17_spill_336 : decode cX17_spill 336 = .ok (.istore 8, 2) := by decide +kernel
theorem dr_cX17_spill_338 : decode cX17_spill 338 = .ok (.aload_n 0, 1) := by decide +kernel
theorem dr_cX17_spill_339 : decode cX17_spill 339 = .ok (.getfield 231, 3) := by decide +kernel
theorem dr_cX17_spill_342 : decode cX17_spill 342 = .ok (.sipush 2000, 3) := by decide +kernel
theorem dr_cX17_spill_345 : decode cX17_spill 345 = .ok (.if_icmp .ne 5, 3) := by decide +kernel
theorem dr_cX17_spill_350 : decode cX17_spill 350 = .ok (.aload 5, 2) := by decide +kernel
theorem dr_cX17_spill_352 : decode cX17_spill 352 = .ok (.aload_n 0, 1) := by decide +kernel
theorem dr_cX17_spill_353 : decode cX17_spill 353 = .ok (.getfield 231, 3) := by decide +kernel
theorem dr_cX17_spill_356 : decode cX17_spill 356 = .ok (.putfield 52, 3) := by decide +kernel
theorem dr_cX17_spill_359 : decode cX17_spill 359 = .ok (.aload_n 0, 1) := by decide +kernel
theorem dr_cX17_spill_360 : decode cX17_spill 360 = .ok (.dup, 1) := by decide +kernel
theorem dr_cX17_spill_361 : decode cX17_spill 361 = .ok (.getfield 231, 3) := by decide +kernel
theorem dr_cX17_spill_364 : decode cX17_spill 364 = .ok (.iconst 1, 1) := by decide +kernel
theorem dr_cX17_spill_365 : decode cX17_spill 365 = .ok (.iadd, 1) := by decide +kernel
theorem dr_cX17_spill_366 : decode cX17_spill 366 = .ok (.putfield 231, 3) := by decide +kernel
theorem dr_cX17_spill_369 : decode cX17_spill 369 = .ok (.aload_n 1, 1) := by decide +kernel
theorem dr_cX17_spill_370 : decode cX17_spill 370 = .ok (.invokevirtual 177, 3) := by decide +kernel
theorem dr_cX17_spill_373 : decode cX17_spill 373 = .ok (.astore 9, 2) := by decide +kernel
theorem dr_cX17_spill_375 : decode cX17_spill 375 = .ok (.aload 9, 2) := by decide +kernel
theorem dr_cX17_spill_377 : decode cX17_spill 377 = .ok (.bipush 23, 2) := by decide +kernel
theorem dr_cX17_spill_379 : decode cX17_spill 379 = .ok (.putfield 39, 3) := by decide +kernel
theorem dr_cX17_spill_382 : decode cX17_spill 382 = .ok (.aload 9, 2) := by decide +kernel
theorem dr_cX17_spill_384 : decode cX17_spill 384 = .ok (.iload 8, 2) := by decide +kernel
theorem dr_cX17_spill_386 : decode cX17_spill 386 = .ok (.putfield 45, 3) := by decide +kernel
theorem dr_cX17_spill_389 : decode cX17_spill 389 = .ok (.aload 9, 2) := by decide +kernel
theorem dr_cX17_spill_391 : decode cX17_spill 391 = .ok (.aload 5, 2) := by decide +kernel
theorem dr_cX17_spill_393 : decode cX17_spill 393 = .ok (.getfield 52, 3) := by decide +kernel
theorem dr_cX17_spill_396 : decode cX17_spill 396 = .ok (.putfield 73, 3) := by decide +kernel
theorem dr_cX17_spill_399 : decode cX17_spill 399 = .ok (.aload 9, 2) := by decide +kernel
theorem dr_cX17_spill_401 : decode cX17_spill 401 = .ok (.iconst 1, 1) := by decide +kernel
theorem dr_cX17_spill_402 : decode cX17_spill 402 = .ok (.putfield 141, 3) := by decide +kernel
theorem dr_cX17_spill_405 : decode cX17_spill 405 = .ok (.iinc 4 1, 3) := by decide +kernel
theorem dr_cX17_spill_408 : decode cX17_spill 408 = .ok (.aload_n 3, 1) := by decide +kernel
theorem dr_cX17_spill_409 : decode cX17_spill 409 = .ok (.getfield 117, 3) := by decide +kernel
theorem dr_cX17_spill_412 : decode cX17_spill 412 = .ok (.iload 4, 2) := by decide +kernel
theorem dr_cX17_spill_414 : decode cX17_spill 414 = .ok (.aload 9, 2) := by decide +kernel
theorem dr_cX17_spill_416 : decode cX17_spill 416 = .ok (.invokevirtual 181, 3) := by decide +kernel
theorem dr_cX17_spill_348 : decode cX17_spill 348 = .ok (.iconst 0, 1) := by decide +kernel
theorem dr_cX17_spill_349 : decode cX17_spill 349 = .ok (.ireturn, 1) := by decide +kernel
theorem dr_cX17_spill_323 : decode cX17_spill 323 = .ok (.goto 96, 3) := by decide +kernel
theorem dr_cX17_spill_236 : decode cX17_spill 236 = .ok (.iload 7, 2) := by decide +kernel
theorem dr_cX17_spill_238 : decode cX17_spill 238 = .ok (.ifCond .lt 54, 3) := by decide +kernel
theorem dr_cX17_spill_241 : decode cX17_spill 241 = .ok (.iload 7, 2) := by decide +kernel
theorem dr_cX17_spill_243 : decode cX17_spill 243 = .ok (.iload 6, 2) := by decide +kernel
theorem dr_cX17_spill_245 : decode cX17_spill 245 = .ok (.if_icmp .eq 47, 3) := by decide +kernel
theorem dr_cX17_spill_248 : decode cX17_spill 248 = .ok (.aload_n 0, 1) := by decide +kernel
theorem dr_cX17_spill_249 : decode cX17_spill 249 = .ok (.getfield 221, 3) := by decide +kernel
theorem dr_cX17_spill_252 : decode cX17_spill 252 = .ok (.iload 7, 2) := by decide +kernel
theorem dr_cX17_spill_254 : decode cX17_spill 254 = .ok (.iaload, 1) := by decide +kernel
theorem dr_cX17_spill_255 : decode cX17_spill 255 = .ok (.ifCond .lt 37, 3) := by decide +kernel
theorem dr_cX17_spill_258 : decode cX17_spill 258 = .ok (.aload_n 0, 1) := by decide +kernel
theorem dr_cX17_spill_259 : decode cX17_spill 259 = .ok (.aload_n 1, 1) := by decide +kernel
theorem dr_cX17_spill_260 : decode cX17_spill 260 = .ok (.aload_n 3, 1) := by decide +kernel
theorem dr_cX17_spill_261 : decode cX17_spill 261 = .ok (.iload 4, 2) := by decide +kernel
theorem dr_cX17_spill_263 : decode cX17_spill 263 = .ok (.aload_n 0, 1) := by decide +kernel
theorem dr_cX17_spill_264 : decode cX17_spill 264 = .ok (.getfield 221, 3) := by decide +kernel
theorem dr_cX17_spill_267 : decode cX17_spill 267 = .ok (.iload 7, 2) := by decide +kernel
theorem dr_cX17_spill_269 : decode cX17_spill 269 = .ok (.iaload, 1) := by decide +kernel
theorem dr_cX17_spill_270 : decode cX17_spill 270 = .ok (.invokevirtual 227, 3) := by decide +kernel
theorem wr_11_67 : (Jvm.Cond.methodLink "SpillForgeModel" (227 : Nat) ({ cls := "SpillForgeModel", name := "load", desc := "(LSpillForgeModel$Code;LSpillForgeModel$Block;II)I" } : Jvm.MethodName)) ∈ gw := gw_11 67 rfl rfl
theorem wr_11_70 : (Jvm.Cond.code ({ cls := "SpillForgeModel", name := "load", desc := "(LSpillForgeModel$Code;LSpillForgeModel$Block;II)I" } : Jvm.MethodName) prog_14_method_23_code (6 : Nat) (Option.some Jvm.ClassFile.FieldType.int)) ∈ gw := gw_11 70 rfl rfl
theorem wr_11_69 : (Jvm.Cond.instanceMethod ({ cls := "SpillForgeModel", name := "load", desc := "(LSpillForgeModel$Code;LSpillForgeModel$Block;II)I" } : Jvm.MethodName)) ∈ gw := gw_11 69 rfl rfl
theorem wr_p_111 : Cond.selects "SpillForgeModel" ⟨"SpillForgeModel", "load", "(LSpillForgeModel$Code;LSpillForgeModel$Block;II)I"⟩ ⟨"SpillForgeModel", "load", "(LSpillForgeModel$Code;LSpillForgeModel$Block;II)I"⟩ ∈ gw := gw_p _ 111 rfl rfl rfl
theorem dr_cX17_spill_273 : decode cX17_spill 273 = .ok (.istore 8, 2) := by decide +kernel
theorem dr_cX17_spill_275 : decode cX17_spill 275 = .ok (.iload 8, 2) := by decide +kernel
theorem dr_cX17_spill_277 : decode cX17_spill 277 = .ok (.ifCond .ge 5, 3) := by decide +kernel
theorem dr_cX17_spill_282 : decode cX17_spill 282 = .ok (.iinc 4 1, 3) := by decide +kernel
theorem dr_cX17_spill_285 : decode cX17_spill 285 = .ok (.aload 5, 2) := by decide +kernel
theorem dr_cX17_spill_287 : decode cX17_spill 287 = .ok (.iload 8, 2) := by decide +kernel
theorem dr_cX17_spill_289 : decode cX17_spill 289 = .ok (.putfield 79, 3) := by decide +kernel
theorem dr_cX17_spill_280 : decode cX17_spill 280 = .ok (.iconst 0, 1) := by decide +kernel
theorem dr_cX17_spill_281 : decode cX17_spill 281 = .ok (.ireturn, 1) := by decide +kernel
theorem dr_cX17_spill_102 : decode cX17_spill 102 = .ok (.iload 4, 2) := by decide +kernel
theorem dr_cX17_spill_104 : decode cX17_spill 104 = .ok (.aload_n 3, 1) := by decide +kernel
theorem dr_cX17_spill_105 : decode cX17_spill 105 = .ok (.getfield 117, 3) := by decide +kernel
theorem dr_cX17_spill_108 : decode cX17_spill 108 = .ok (.invokevirtual 121, 3) := by decide +kernel
theorem dr_cX17_spill_111 : decode cX17_spill 111 = .ok (.if_icmp .ge 18, 3) := by decide +kernel
theorem dr_cX17_spill_129 : decode cX17_spill 129 = .ok (.aload_n 3, 1) := by decide +kernel
theorem dr_cX17_spill_130 : decode cX17_spill 130 = .ok (.getfield 109, 3) := by decide +kernel
theorem dr_cX17_spill_133 : decode cX17_spill 133 = .ok (.astore 5, 2) := by decide +kernel
theorem dr_cX17_spill_135 : decode cX17_spill 135 = .ok (.aload 5, 2) := by decide +kernel
theorem dr_cX17_spill_137 : decode cX17_spill 137 = .ok (.invokevirtual 70, 3) := by decide +kernel
theorem dr_cX17_spill_140 : decode cX17_spill 140 = .ok (.ifCond .eq 11, 3) := by decide +kernel
theorem dr_cX17_spill_151 : decode cX17_spill 151 = .ok (.iconst (-1), 1) := by decide +kernel
theorem dr_cX17_spill_152 : decode cX17_spill 152 = .ok (.istore 6, 2) := by decide +kernel
theorem dr_cX17_spill_154 : decode cX17_spill 154 = .ok (.aload 5, 2) := by decide +kernel
theorem dr_cX17_spill_156 : decode cX17_spill 156 = .ok (.invokevirtual 76, 3) := by decide +kernel
theorem dr_cX17_spill_159 : decode cX17_spill 159 = .ok (.ifCond .eq 11, 3) := by decide +kernel
theorem dr_cX17_spill_170 : decode cX17_spill 170 = .ok (.iconst (-1), 1) := by decide +kernel
theorem dr_cX17_spill_171 : decode cX17_spill 171 = .ok (.istore 7, 2) := by decide +kernel
theorem dr_cX17_spill_173 : decode cX17_spill 173 = .ok (.iload 6, 2) := by decide +kernel
theorem dr_cX17_spill_175 : decode cX17_spill 175 = .ok (.ifCond .lt 61, 3) := by decide +kernel
theorem dr_cX17_spill_162 : decode cX17_spill 162 = .ok (.aload 5, 2) := by decide +kernel
theorem dr_cX17_spill_164 : decode cX17_spill 164 = .ok (.getfield 79, 3) := by decide +kernel
theorem dr_cX17_spill_167 : decode cX17_spill 167 = .ok (.goto 4, 3) := by decide +kernel
theorem dr_cX17_spill_143 : decode cX17_spill 143 = .ok (.aload 5, 2) := by decide +kernel
theorem dr_cX17_spill_145 : decode cX17_spill 145 = .ok (.getfield 73, 3) := by decide +kernel
theorem dr_cX17_spill_148 : decode cX17_spill 148 = .ok (.goto 4, 3) := by decide +kernel
theorem dr_cX17_spill_178 : decode cX17_spill 178 = .ok (.aload_n 0, 1) := by decide +kernel
theorem dr_cX17_spill_179 : decode cX17_spill 179 = .ok (.getfield 221, 3) := by decide +kernel
theorem dr_cX17_spill_182 : decode cX17_spill 182 = .ok (.iload 6, 2) := by decide +kernel
theorem dr_cX17_spill_184 : decode cX17_spill 184 = .ok (.iaload, 1) := by decide +kernel
theorem dr_cX17_spill_185 : decode cX17_spill 185 = .ok (.ifCond .lt 51, 3) := by decide +kernel
theorem dr_cX17_spill_188 : decode cX17_spill 188 = .ok (.aload_n 0, 1) := by decide +kernel
theorem dr_cX17_spill_189 : decode cX17_spill 189 = .ok (.aload_n 1, 1) := by decide +kernel
theorem dr_cX17_spill_190 : decode cX17_spill 190 = .ok (.aload_n 3, 1) := by decide +kernel
theorem dr_cX17_spill_191 : decode cX17_spill 191 = .ok (.iload 4, 2) := by decide +kernel
theorem dr_cX17_spill_193 : decode cX17_spill 193 = .ok (.aload_n 0, 1) := by decide +kernel
theorem dr_cX17_spill_194 : decode cX17_spill 194 = .ok (.getfield 221, 3) := by decide +kernel
theorem dr_cX17_spill_197 : decode cX17_spill 197 = .ok (.iload 6, 2) := by decide +kernel
theorem dr_cX17_spill_199 : decode cX17_spill 199 = .ok (.iaload, 1) := by decide +kernel
theorem dr_cX17_spill_200 : decode cX17_spill 200 = .ok (.invokevirtual 227, 3) := by decide +kernel
theorem dr_cX17_spill_203 : decode cX17_spill 203 = .ok (.istore 8, 2) := by decide +kernel
theorem dr_cX17_spill_205 : decode cX17_spill 205 = .ok (.iload 8, 2) := by decide +kernel
theorem dr_cX17_spill_207 : decode cX17_spill 207 = .ok (.ifCond .ge 5, 3) := by decide +kernel
theorem dr_cX17_spill_212 : decode cX17_spill 212 = .ok (.iinc 4 1, 3) := by decide +kernel
theorem dr_cX17_spill_215 : decode cX17_spill 215 = .ok (.aload 5, 2) := by decide +kernel
theorem dr_cX17_spill_217 : decode cX17_spill 217 = .ok (.iload 8, 2) := by decide +kernel
theorem dr_cX17_spill_219 : decode cX17_spill 219 = .ok (.putfield 73, 3) := by decide +kernel
theorem dr_cX17_spill_222 : decode cX17_spill 222 = .ok (.iload 7, 2) := by decide +kernel
theorem dr_cX17_spill_224 : decode cX17_spill 224 = .ok (.iload 6, 2) := by decide +kernel
theorem dr_cX17_spill_226 : decode cX17_spill 226 = .ok (.if_icmp .ne 10, 3) := by decide +kernel
theorem dr_cX17_spill_210 : decode cX17_spill 210 = .ok (.iconst 0, 1) := by decide +kernel
theorem dr_cX17_spill_211 : decode cX17_spill 211 = .ok (.ireturn, 1) := by decide +kernel
theorem dr_cX17_spill_229 : decode cX17_spill 229 = .ok (.aload 5, 2) := by decide +kernel
theorem dr_cX17_spill_231 : decode cX17_spill 231 = .ok (.iload 8, 2) := by decide +kernel
theorem dr_cX17_spill_233 : decode cX17_spill 233 = .ok (.putfield 79, 3) := by decide +kernel
theorem dr_cX17_spill_114 : decode cX17_spill 114 = .ok (.aload_n 3, 1) := by decide +kernel
theorem dr_cX17_spill_115 : decode cX17_spill 115 = .ok (.getfield 117, 3) := by decide +kernel
theorem dr_cX17_spill_118 : decode cX17_spill 118 = .ok (.iload 4, 2) := by decide +kernel
theorem dr_cX17_spill_120 : decode cX17_spill 120 = .ok (.invokevirtual 124, 3) := by decide +kernel
theorem dr_cX17_spill_123 : decode cX17_spill 123 = .ok (.checkcast 40, 3) := by decide +kernel
theorem dr_cX17_spill_126 : decode cX17_spill 126 = .ok (.goto 7, 3) := by decide +kernel
theorem dr_cX17_spill_9 : decode cX17_spill 9 = .ok (.aload_n 0, 1) := by decide +kernel
theorem dr_cX17_spill_10 : decode cX17_spill 10 = .ok (.getfield 221, 3) := by decide +kernel
theorem dr_cX17_spill_13 : decode cX17_spill 13 = .ok (.iload_n 2, 1) := by decide +kernel
theorem dr_cX17_spill_14 : decode cX17_spill 14 = .ok (.iconst (-1), 1) := by decide +kernel
theorem dr_cX17_spill_15 : decode cX17_spill 15 = .ok (.iastore, 1) := by decide +kernel
theorem dr_cX17_spill_16 : decode cX17_spill 16 = .ok (.aload_n 0, 1) := by decide +kernel
theorem dr_cX17_spill_17 : decode cX17_spill 17 = .ok (.getfield 131, 3) := by decide +kernel
theorem dr_cX17_spill_20 : decode cX17_spill 20 = .ok (.iload_n 2, 1) := by decide +kernel
theorem dr_cX17_spill_21 : decode cX17_spill 21 = .ok (.baload, 1) := by decide +kernel
theorem dr_cX17_spill_22 : decode cX17_spill 22 = .ok (.ifCond .eq 43, 3) := by decide +kernel
theorem dr_cX17_spill_65 : decode cX17_spill 65 = .ok (.iinc 2 1, 3) := by decide +kernel
theorem dr_cX17_spill_68 : decode cX17_spill 68 = .ok (.goto (-66), 3) := by decide +kernel
theorem dr_cX17_spill_25 : decode cX17_spill 25 = .ok (.aload_n 0, 1) := by decide +kernel
theorem dr_cX17_spill_26 : decode cX17_spill 26 = .ok (.getfield 212, 3) := by decide +kernel
theorem dr_cX17_spill_29 : decode cX17_spill 29 = .ok (.iload_n 2, 1) := by decide +kernel
theorem dr_cX17_spill_30 : decode cX17_spill 30 = .ok (.iaload, 1) := by decide +kernel
theorem dr_cX17_spill_31 : decode cX17_spill 31 = .ok (.ifCond .lt 6, 3) := by decide +kernel
theorem dr_cX17_spill_37 : decode cX17_spill 37 = .ok (.iload_n 2, 1) := by decide +kernel
theorem dr_cX17_spill_38 : decode cX17_spill 38 = .ok (.bipush 100, 2) := by decide +kernel
theorem dr_cX17_spill_40 : decode cX17_spill 40 = .ok (.if_icmp .lt 5, 3) := by decide +kernel
theorem dr_cX17_spill_45 : decode cX17_spill 45 = .ok (.aload_n 0, 1) := by decide +kernel
theorem dr_cX17_spill_46 : decode cX17_spill 46 = .ok (.getfield 221, 3) := by decide +kernel
theorem dr_cX17_spill_49 : decode cX17_spill 49 = .ok (.iload_n 2, 1) := by decide +kernel
theorem dr_cX17_spill_50 : decode cX17_spill 50 = .ok (.aload_n 0, 1) := by decide +kernel
theorem dr_cX17_spill_51 : decode cX17_spill 51 = .ok (.getfield 224, 3) := by decide +kernel
theorem dr_cX17_spill_54 : decode cX17_spill 54 = .ok (.iastore, 1) := by decide +kernel
theorem dr_cX17_spill_55 : decode cX17_spill 55 = .ok (.aload_n 0, 1) := by decide +kernel
theorem dr_cX17_spill_56 : decode cX17_spill 56 = .ok (.dup, 1) := by decide +kernel
theorem dr_cX17_spill_57 : decode cX17_spill 57 = .ok (.getfield 224, 3) := by decide +kernel
theorem dr_cX17_spill_60 : decode cX17_spill 60 = .ok (.iconst 1, 1) := by decide +kernel
theorem dr_cX17_spill_61 : decode cX17_spill 61 = .ok (.iadd, 1) := by decide +kernel
theorem dr_cX17_spill_62 : decode cX17_spill 62 = .ok (.putfield 224, 3) := by decide +kernel
theorem dr_cX17_spill_43 : decode cX17_spill 43 = .ok (.iconst 0, 1) := by decide +kernel
theorem dr_cX17_spill_44 : decode cX17_spill 44 = .ok (.ireturn, 1) := by decide +kernel
theorem dr_cX17_spill_34 : decode cX17_spill 34 = .ok (.goto 31, 3) := by decide +kernel
abbrev ky_590099_SpillForgeModel_spill : gKey := (cX17_spill, 10, "SpillForgeModel", (some FieldType.boolean), [], "spill", fun _ _ => True)
def pg_590099_SpillForgeModel_spill (D : va_G) (I : FieldType → ClassId) (γ0 el0 : Nat → Nat → Nat) (f : Nat) (B : Nat) (P590089 : List Nat) (F590090 : Nat → va_E) (q590091 : Nat) (q590092 : Nat) : Option Value → va_W → Nat → Nat → Prop := fun r w dc ds => ∃ (P632124 : List Nat) (F632125 : Nat → va_E) (γ el : Nat → Nat → Nat) (o632123 : Int32), r = some (.int o632123) ∧ w = va_pl P632124 F632125 ∧ rSk f [101] ([1, 3, 5, 6, 8, 9, 101] ++ npk) D I P590089 F590090 γ0 el0 P632124 F632125 γ el ∧ (18 * dc + rPh γ0 el0 f ≤ rPh γ el f ∧ ds + rPh γ0 el0 f ≤ rPh γ el f) ∧ rBd γ el f B ∧ gB o632123 0 1 ∧ γ 6 f = γ0 6 f ∧ (o632123.toInt = 0 ∨ (γ 6 f = γ0 6 f ∧ γ 18 f = γ0 18 f ∧ ((γ 7 f : Nat) : Int) = (fI (F632125 q590091) 11).toInt ∧ ((γ 16 f : Nat) : Int) + 2001 ≤ (B : Int) + (fI (F632125 q590091) 14).toInt ∧ 100 ≤ (fI (F632125 q590091) 14).toInt ∧ rNI γ el F632125 q590092 (γ 6 f) (fI (F632125 q590091) 11).toInt)) ∧ (F632125 (γ0 9 3) = F590090 (γ0 9 3)) ∧ mKp (F590090 q590091) (F632125 q590091) ∧ tr_RModel_spill D I γ0 el0 f P590089 F590090 q590091 q590092 o632123 P632124 F632125 γ el
set_option maxRecDepth 100000 in
set_option maxHeartbeats 20000000 in
theorem cg_590099_SpillForgeModel_spill (l : Launch) (hl0 : l.stackTraces = false) (D : va_G) (I : FieldType → ClassId) (γ0 el0 : Nat → Nat → Nat) (f : Nat) (B : Nat) (P590089 : List Nat) (F590090 : Nat → va_E) (q590091 : Nat) (q590092 : Nat) (hT0 : RS D I P590089 F590090 γ0 el0) (hzq590091 : rKd γ0 q590091 10) (hzq590092 : rKd γ0 q590092 9) (hf0 : γ0 1 q590092 = f) (hB0 : rBd γ0 el0 f B) (hBk : B ≤ 100000) (x590093 : 0 < γ0 6 f) (x590094 : ((γ0 7 f : Nat) : Int) = (fI (F590090 q590091) 11).toInt) (x590095 : ((γ0 16 f : Nat) : Int) + 2001 ≤ (B : Int) + (fI (F590090 q590091) 14).toInt) (x590096 : (fI (F590090 q590091) 11).toInt + (rcn (cB (F590090 (γ0 9 3))) 100 : Nat) ≤ 100) (x590097 : rPl γ0 el0 F590090 q590092 (γ0 6 f) (fun _ _ => rNx (rSd (cB (F590090 (γ0 9 3)))))) (x590098 : 100 ≤ (fI (F590090 q590091) 14).toInt) : CtA (gV D I) l yX17_spill cX17_spill 10 (some FieldType.boolean) 9 195 (((387 * B + 6000) - rPh γ0 el0 f) / 18) ((387 * B + 6000) - rPh γ0 el0 f) [.ref q590091, .ref q590092] (va_pl P590089 F590090) (pg_590099_SpillForgeModel_spill D I γ0 el0 f B P590089 F590090 q590091 q590092) gNA := by
  refine CtA_of hl0 (by decide) (Nat.le_of_ble_eq_true rfl) ?_
  obtain ⟨gm_0, hγ0⟩ : ∃ z, z = γ0 := ⟨_, rfl⟩
  obtain ⟨el_0, hel0⟩ : ∃ z, z = el0 := ⟨_, rfl⟩
  have hT : RS D I P590089 F590090 gm_0 el_0 := by rw [hγ0, hel0]; exact hT0
  have hst : rSk f [101] ([1, 3, 5, 6, 8, 9, 101] ++ npk) D I P590089 F590090 γ0 el0 P590089 F590090 gm_0 el_0 := by rw [hγ0, hel0]; exact rSk_rf hT0
  have hph : rPh γ0 el0 f ≤ rPh gm_0 el_0 f := by rw [hγ0, hel0]; exact Nat.le_refl _
  have hB : rBd gm_0 el_0 f B := by rw [hγ0, hel0]; exact hB0
  have htq590091 : rKd gm_0 q590091 10 := by rw [hγ0]; exact hzq590091
  have htq590092 : rKd gm_0 q590092 9 := by rw [hγ0]; exact hzq590092
  have hf1 : gm_0 1 q590092 = f := by rw [hγ0]; exact hf0
  have x590093n : 0 < gm_0 6 f := by rw [hγ0]; exact x590093
  have x590094n : ((gm_0 7 f : Nat) : Int) = (fI (F590090 q590091) 11).toInt := by rw [hγ0]; exact x590094
  have x590095n : ((gm_0 16 f : Nat) : Int) + 2001 ≤ (B : Int) + (fI (F590090 q590091) 14).toInt := by rw [hγ0]; exact x590095
  have x590096n : (fI (F590090 q590091) 11).toInt + (rcn (cB (F590090 (gm_0 9 3))) 100 : Nat) ≤ 100 := by rw [hγ0]; exact x590096
  have x590097n : rPl gm_0 el_0 F590090 q590092 (gm_0 6 f) (fun _ _ => rNx (rSd (cB (F590090 (gm_0 9 3))))) := by rw [hγ0, hel0]; exact x590097
  have pk590100 : rPh gm_0 el_0 f ≤ 387 * B + 6000 := rm_pk (rM_ge hT htq590092 hf1).1 (rM_bd hB)
  refine G_widen (cs' := ((rPh gm_0 el_0 f - rPh γ0 el0 f) / 18)) (sl' := (rPh gm_0 el_0 f - rPh γ0 el0 f)) (Nat.zero_le _) (Nat.zero_le _) ?_
  have lz0 : Int32.toInt 0 = 0 := by decide
  have r590101 : gm_0 6 f = γ0 6 f := by rw [hγ0]
  have r590102 : gm_0 7 f = γ0 7 f := by rw [hγ0]
  have r590103 : gm_0 16 f = γ0 16 f := by rw [hγ0]
  have r590104 : gm_0 18 f = γ0 18 f := by rw [hγ0]
  have r590105 : gm_0 19 f = γ0 19 f := by rw [hγ0]
  have hm590106 : q590091 ∈ P590089 := RS_m hT htq590091 (by decide)
  refine rk10_e (show rk_10 gm_0 (F590090 q590091) from RS_o hT htq590091) (fun q590108 q590109 p590110 p590111 p590112 p590113 p590114 p590115 p590116 p590117 p590118 p590119 p590120 p590121 p590122 p590123 p590124 he590107 hB590151 ht590125 ht590126 ht590127 ht590128 ht590129 ht590130 ht590131 ht590132 ht590133 ht590134 ht590135 ht590136 ht590137 ht590138 ht590139 ht590140 ht590141 ht590142 ht590143 ht590144 ht590145 ht590146 ht590147 ht590148 hB590152 => ?_)
  have ac0_11 : (fI (F590090 q590091) 11).toInt = p590112.toInt := by rw [he590107]; rfl
  have ac0_14 : (fI (F590090 q590091) 14).toInt = p590115.toInt := by rw [he590107]; rfl
  have bp590112 : gB p590112 0 100 := (hB590151.2.2.1)
  have bp590115 : gB p590115 0 2000 := (hB590151.2.2.2.1)
  have k0_3 : rKd γ0 (γ0 9 3) 14 := by rw [← hγ0]; exact ht590130
  have k0_17 : rKd γ0 (γ0 9 17) 20 := by rw [← hγ0]; exact ht590138
  have k0_19 : rKd γ0 (γ0 9 19) 21 := by rw [← hγ0]; exact ht590140
  refine G_iconst 0 dr_cX17_spill_0 (by decide +kernel) ?_
  refine G_istore_n (L' := [(2, .int 0), (0, .ref q590091), (1, .ref q590092)]) dr_cX17_spill_1 (Nat.le_of_ble_eq_true rfl) rfl ?_
  have hlp2_625278 : ∀ (n2_625278 : Nat) (P625264 : List Nat) (F625265 : Nat → va_E) (gm_F625265 el_F625265 : Nat → Nat → Nat) (g625263 : Int32), gB g625263 0 2000 → RS D I P625264 F625265 gm_F625265 el_F625265 → rSk f [101] ([1, 3, 5, 6, 8, 9, 101] ++ npk) D I P590089 F590090 γ0 el0 P625264 F625265 gm_F625265 el_F625265 → rPh γ0 el0 f ≤ rPh gm_F625265 el_F625265 f → rBd gm_F625265 el_F625265 f B → gm_F625265 6 f = γ0 6 f → gm_F625265 7 f = γ0 7 f → gm_F625265 16 f = γ0 16 f → gm_F625265 18 f = γ0 18 f → (fI (F625265 q590091) 14).toInt = (fI (F590090 q590091) 14).toInt → spI (cB (F590090 (γ0 9 3))) (cB (F625265 (γ0 9 19))) (g625263.toInt : Int).toNat (fI (F590090 q590091) 11).toInt (fI (F625265 q590091) 11).toInt → rPl gm_F625265 el_F625265 F625265 q590092 (gm_F625265 6 f) (fun _ _ => rNx (rSd (cB (F590090 (γ0 9 3))))) → (F625265 (γ0 9 3) = F590090 (γ0 9 3)) → mKp (F590090 q590091) (F625265 q590091) → (∀ (k : Nat) (e1 : Nat → va_E) (e2 : List Nat) (e3 : Nat → Nat → Nat) (e4 : Nat → Nat → Nat), tl_RModel_spill_2 D I γ0 el0 f P590089 F590090 q590091 q590092 P625264 F625265 gm_F625265 el_F625265 g625263 k e1 e2 e3 e4 → tl_RModel_spill_2 D I γ0 el0 f P590089 F590090 q590091 q590092 P590089 F590090 gm_0 el_0 (0 : Int32) k e1 e2 e3 e4) → ((2001 : Int) - g625263.toInt).toNat < n2_625278 → G (gV D I) l (gRm 9 195 (((387 * B + 6000) - rPh γ0 el0 f) / 18) ((387 * B + 6000) - rPh γ0 el0 f)) (gMA (gV D I) (pg_590099_SpillForgeModel_spill D I γ0 el0 f B P590089 F590090 q590091 q590092) gNA (((387 * B + 6000) - rPh γ0 el0 f) / 18) ((387 * B + 6000) - rPh γ0 el0 f)) ky_590099_SpillForgeModel_spill 2 [(2, .int g625263), (0, .ref q590091), (1, .ref q590092)] [] (va_pl P625264 F625265) ((rPh gm_F625265 el_F625265 f - rPh γ0 el0 f) / 18) (rPh gm_F625265 el_F625265 f - rPh γ0 el0 f) := by
    intro n2_625278
    induction n2_625278 with
    | zero => intro P625264 F625265 gm_F625265 el_F625265 g625263 bg625263 hT625266 hs625267 hph625268 hB625269 x625270 x625271 x625272 x625273 x625274 x625275 x625276 x625277 x625278 kt2_625279 hm2_625278; exact absurd hm2_625278 (Nat.not_lt_zero _)
    | succ n2_625278 ih2_625278 =>
      intro P625264 F625265 gm_F625265 el_F625265 g625263 bg625263 hT625266 hs625267 hph625268 hB625269 x625270 x625271 x625272 x625273 x625274 x625275 x625276 x625277 x625278 kt2_625279 hm2_625278
      clear r590101 r590102 r590103 r590104 r590105
      have ht625280 : rKd gm_F625265 q590091 10 := rSk_k hs625267 hzq590091 (by decide) (by decide)
      have ht625281 : rKd gm_F625265 q590092 9 := rSk_k hs625267 hzq590092 (by decide) (by decide)
      have hf625282 : gm_F625265 1 q590092 = f := rSk_1 hs625267 hzq590092 (by decide) hf0
      have pk625283 : rPh gm_F625265 el_F625265 f ≤ 387 * B + 6000 := rm_pk (rM_ge hT625266 ht625281 hf625282).1 (rM_bd hB625269)
      have hm625284 : q590091 ∈ P625264 := RS_m hT625266 ht625280 (by decide)
      refine rk10_e (show rk_10 gm_F625265 (F625265 q590091) from RS_o hT625266 ht625280) (fun q625286 q625287 p625288 p625289 p625290 p625291 p625292 p625293 p625294 p625295 p625296 p625297 p625298 p625299 p625300 p625301 p625302 he625285 hB625329 ht625303 ht625304 ht625305 ht625306 ht625307 ht625308 ht625309 ht625310 ht625311 ht625312 ht625313 ht625314 ht625315 ht625316 ht625317 ht625318 ht625319 ht625320 ht625321 ht625322 ht625323 ht625324 ht625325 ht625326 hB625330 => ?_)
      have ac625331 : (fI (F625265 q590091) 11).toInt = p625290.toInt := by rw [he625285]; rfl
      have bp625290 : gB p625290 0 100 := (hB625329.2.2.1)
      have ac625332 : (fI (F625265 q590091) 14).toInt = p625293.toInt := by rw [he625285]; rfl
      have bp625293 : gB p625293 0 2000 := (hB625329.2.2.2.1)
      have r625333 : 0 < gm_F625265 6 (gm_F625265 1 q590092) := by rw [hf625282]; omega
      have hm625334 : (gm_F625265 9 3) ∈ P625264 := RS_m hT625266 ht625308 (by decide)
      obtain ⟨f625336, he625335, bf625336⟩ := show rk_14 I (F625265 (gm_F625265 9 3)) from RS_o hT625266 ht625308
      have c9_625337 : cB (F590090 (γ0 9 3)) = f625336 := by rw [← x625277, ← congrFun (rSk_9 hs625267) 3]; exact cB_of he625335
      have hm625338 : (gm_F625265 9 19) ∈ P625264 := RS_m hT625266 ht625318 (by decide)
      obtain ⟨f625340, he625339, bf625340⟩ := show rk_21 I (F625265 (gm_F625265 9 19)) from RS_o hT625266 ht625318
      have c9_625341 : cB (F625265 (γ0 9 19)) = f625340 := by rw [← congrFun (rSk_9 hs625267) 19]; exact cB_of he625339
      have hm625342 : (gm_F625265 9 17) ∈ P625264 := RS_m hT625266 ht625316 (by decide)
      obtain ⟨f625344, he625343, bf625344⟩ := show rk_20 I (F625265 (gm_F625265 9 17)) from RS_o hT625266 ht625316
      have cq625345 := x625275
      rw [c9_625337, c9_625341, ac625331] at cq625345
      refine G_iload_n 0 dr_cX17_spill_2 rfl ?_
      refine G_sipush 2000 dr_cX17_spill_3 (by decide +kernel) ?_
      refine G_icmp_ge 71 dr_cX17_spill_6 (by decide +kernel) (fun hc625346 => ?_) (fun hc625346 => ?_)
      · have r625347 : 2000 ≤ g625263.toInt := gj_leL hc625346 (show Int32.toInt 2000 = 2000 by decide)
        have bg625263' : gB g625263 2000 2000 := ⟨by omega, by omega⟩
        have hx625348 : tl_RModel_spill_2 D I γ0 el0 f P590089 F590090 q590091 q590092 P590089 F590090 gm_0 el_0 (0 : Int32) 71 F625265 P625264 gm_F625265 el_F625265 := kt2_625279 71 F625265 P625264 gm_F625265 el_F625265 (fun R c1 c2 c3 c4 c5 => c1 P625264 F625265 gm_F625265 el_F625265 g625263 bg625263 hT625266 hs625267 x625270 x625271 x625272 x625273 x625274 x625275 x625276 x625277 x625278 r625347)
        have ac625349 : (fI (F625265 q590091) 11).toInt = p625290.toInt := by rw [he625285]; rfl
        have ac625350 : (fI (F625265 q590091) 14).toInt = p625293.toInt := by rw [he625285]; rfl
        have spi625351 := x625275
        rw [show (g625263.toInt : Int).toNat = 2000 by omega] at spi625351
        have r625352 := cq625345.1
        have hv625353 := St_slots (f := f) (n := p625290.toInt.toNat) hT625266 ht625281 hf625282 (by omega)
        obtain ⟨gm_hg625354, hg625354⟩ : ∃ z, z = gVal gm_F625265 7 f p625290.toInt.toNat := ⟨_, rfl⟩
        have fq625355 : fI (F625265 q590091) 11 = p625290 := by rw [he625285]; rfl
        rw [← hg625354] at hv625353
        have hk625356 := rSk_of hv625353.1
        have r625357 := hv625353.2.1
        have hT625358 := hk625356.1
        have hs625359 := rSk_tr hs625267 hk625356 (by decide) (by decide) (by decide)
        have kp625360 : F625265 (γ0 9 3) = F590090 (γ0 9 3) := (rSk_F hk625356 (rSk_k hs625267 k0_3 (by decide) (by decide)) (by decide) (by decide)).trans x625277
        have kp625361 : F625265 (γ0 9 19) = F625265 (γ0 9 19) := rSk_F hk625356 (rSk_k hs625267 k0_19 (by decide) (by decide)) (by decide) (by decide)
        have r625362 := rSk_F hk625356 ht625280 (by decide) (by decide)
        have ht625363 : rKd gm_hg625354 q590091 10 := rSk_k hk625356 ht625280 (by decide) (by decide)
        have ht625364 : rKd gm_hg625354 q590092 9 := rSk_k hk625356 ht625281 (by decide) (by decide)
        have hf625365 : gm_hg625354 1 q590092 = f := rSk_1 hk625356 ht625281 (by decide) hf625282
        have mk625366 : mKp (F590090 q590091) (F625265 q590091) := mKp_tr x625278 (mKp_eq (rSk_F hk625356 ht625280 (by decide) (by decide)))
        have hm625367 : q590091 ∈ P625264 := RS_m hT625358 ht625363 (by decide)
        refine rk10_e (show rk_10 gm_hg625354 (F625265 q590091) from RS_o hT625358 ht625363) (fun q625369 q625370 p625371 p625372 p625373 p625374 p625375 p625376 p625377 p625378 p625379 p625380 p625381 p625382 p625383 p625384 p625385 he625368 hB625412 ht625386 ht625387 ht625388 ht625389 ht625390 ht625391 ht625392 ht625393 ht625394 ht625395 ht625396 ht625397 ht625398 ht625399 ht625400 ht625401 ht625402 ht625403 ht625404 ht625405 ht625406 ht625407 ht625408 ht625409 hB625413 => ?_)
        have r625414 : p625373.toInt = p625290.toInt := by have z : p625373 = p625290 := congrArg (fun e => fI e 11) (he625368.symm.trans (r625362.trans he625285)); rw [z]
        have bp625373 : gB p625373 0 100 := (hB625412.2.2.1)
        have r625415 : p625376.toInt = p625293.toInt := by have z : p625376 = p625293 := congrArg (fun e => fI e 14) (he625368.symm.trans (r625362.trans he625285)); rw [z]
        have bp625376 : gB p625376 0 2000 := (hB625412.2.2.2.1)
        have hB625416 : rBd gm_hg625354 el_F625265 f B := hv625353.2.2.2 B hB625269
        have hph625417 : rPh γ0 el0 f ≤ rPh gm_hg625354 el_F625265 f := by rw [r625357]; exact hph625268
        have pk625418 : rPh gm_hg625354 el_F625265 f ≤ 387 * B + 6000 := rm_pk (rM_ge hT625358 ht625364 hf625365).1 (rM_bd hB625416)
        refine G_widen (cs' := ((rPh gm_hg625354 el_F625265 f - rPh γ0 el0 f) / 18)) (sl' := (rPh gm_hg625354 el_F625265 f - rPh γ0 el0 f)) (rm_ec r625357) (rm_es r625357) ?_
        have r625419 := gVal_7 hg625354
        have pl625420 := sp_0 (h := cB (F625265 (γ0 9 19))) (rPl_val hT625266 ht625281 hf625282 hk625356 hg625354 x625276)
        have r625421 : 0 < gm_hg625354 6 (gm_hg625354 1 q590092) := by rw [hf625365]; omega
        have ac625422 : (fI (F625265 q590091) 11).toInt = p625373.toInt := by rw [he625368]; rfl
        have ac625423 : (fI (F625265 q590091) 14).toInt = p625376.toInt := by rw [he625368]; rfl
        refine G_iconst 0 dr_cX17_spill_71 (by decide +kernel) ?_
        refine G_istore_n (L' := [(2, .int 0), (0, .ref q590091), (1, .ref q590092)]) dr_cX17_spill_72 (Nat.le_of_ble_eq_true rfl) rfl ?_
        have hlp73_628562 : ∀ (n73_628562 : Nat) (P628547 : List Nat) (F628548 : Nat → va_E) (gm_F628548 el_F628548 : Nat → Nat → Nat) (g628546 : Int32), gB g628546 0 1000000 → RS D I P628547 F628548 gm_F628548 el_F628548 → rSk f [101] ([1, 3, 5, 6, 8, 9, 101] ++ npk) D I P590089 F590090 γ0 el0 P628547 F628548 gm_F628548 el_F628548 → rPh γ0 el0 f ≤ rPh gm_F628548 el_F628548 f → rBd gm_F628548 el_F628548 f B → gm_F628548 6 f = γ0 6 f → gm_F628548 18 f = γ0 18 f → ((gm_F628548 7 f : Nat) : Int) = (fI (F628548 q590091) 11).toInt → (fI (F628548 q590091) 11).toInt = (fI (F625265 q590091) 11).toInt → ((gm_F628548 16 f : Nat) : Int) + 2001 ≤ (B : Int) + (fI (F628548 q590091) 14).toInt → 100 ≤ (fI (F628548 q590091) 14).toInt → (F628548 (γ0 9 19) = F625265 (γ0 9 19)) → rPl gm_F628548 el_F628548 F628548 q590092 (gm_F628548 6 f) (spQ (cB (F590090 (γ0 9 3))) (cB (F625265 (γ0 9 19))) (g628546.toInt : Int).toNat 0) → (F628548 (γ0 9 3) = F590090 (γ0 9 3)) → mKp (F590090 q590091) (F628548 q590091) → (∀ (k : Nat) (e1 : Nat → va_E) (e2 : List Nat) (e3 : Nat → Nat → Nat) (e4 : Nat → Nat → Nat), tl_RModel_spill_73 D I γ0 el0 f P590089 F590090 q590091 F625265 q590092 P628547 F628548 gm_F628548 el_F628548 g628546 k e1 e2 e3 e4 → tl_RModel_spill_73 D I γ0 el0 f P590089 F590090 q590091 F625265 q590092 P625264 F625265 gm_hg625354 el_F625265 (0 : Int32) k e1 e2 e3 e4) → ((1000001 : Int) - g628546.toInt).toNat < n73_628562 → G (gV D I) l (gRm 9 195 (((387 * B + 6000) - rPh γ0 el0 f) / 18) ((387 * B + 6000) - rPh γ0 el0 f)) (gMA (gV D I) (pg_590099_SpillForgeModel_spill D I γ0 el0 f B P590089 F590090 q590091 q590092) gNA (((387 * B + 6000) - rPh γ0 el0 f) / 18) ((387 * B + 6000) - rPh γ0 el0 f)) ky_590099_SpillForgeModel_spill 73 [(2, .int g628546), (0, .ref q590091), (1, .ref q590092)] [] (va_pl P628547 F628548) ((rPh gm_F628548 el_F628548 f - rPh γ0 el0 f) / 18) (rPh gm_F628548 el_F628548 f - rPh γ0 el0 f) := by
          intro n73_628562
          induction n73_628562 with
          | zero => intro P628547 F628548 gm_F628548 el_F628548 g628546 bg628546 hT628549 hs628550 hph628551 hB628552 x628553 x628554 x628555 x628556 x628557 x628558 x628559 x628560 x628561 x628562 kt73_628563 hm73_628562; exact absurd hm73_628562 (Nat.not_lt_zero _)
          | succ n73_628562 ih73_628562 =>
            intro P628547 F628548 gm_F628548 el_F628548 g628546 bg628546 hT628549 hs628550 hph628551 hB628552 x628553 x628554 x628555 x628556 x628557 x628558 x628559 x628560 x628561 x628562 kt73_628563 hm73_628562
            clear r625352 r625357 r625362 r625414 r625415 hph625417 pk625418 r625419 r625421
            have ht628564 : rKd gm_F628548 q590091 10 := rSk_k hs628550 hzq590091 (by decide) (by decide)
            have ht628565 : rKd gm_F628548 q590092 9 := rSk_k hs628550 hzq590092 (by decide) (by decide)
            have hf628566 : gm_F628548 1 q590092 = f := rSk_1 hs628550 hzq590092 (by decide) hf0
            have pk628567 : rPh gm_F628548 el_F628548 f ≤ 387 * B + 6000 := rm_pk (rM_ge hT628549 ht628565 hf628566).1 (rM_bd hB628552)
            have r628568 : 0 < gm_F628548 6 (gm_F628548 1 q590092) := by rw [hf628566]; omega
            have hm628569 : q590091 ∈ P628547 := RS_m hT628549 ht628564 (by decide)
            refine rk10_e (show rk_10 gm_F628548 (F628548 q590091) from RS_o hT628549 ht628564) (fun q628571 q628572 p628573 p628574 p628575 p628576 p628577 p628578 p628579 p628580 p628581 p628582 p628583 p628584 p628585 p628586 p628587 he628570 hB628614 ht628588 ht628589 ht628590 ht628591 ht628592 ht628593 ht628594 ht628595 ht628596 ht628597 ht628598 ht628599 ht628600 ht628601 ht628602 ht628603 ht628604 ht628605 ht628606 ht628607 ht628608 ht628609 ht628610 ht628611 hB628615 => ?_)
            have ac628616 : (fI (F628548 q590091) 11).toInt = p628575.toInt := by rw [he628570]; rfl
            have bp628575 : gB p628575 0 100 := (hB628614.2.2.1)
            have ac628617 : (fI (F628548 q590091) 14).toInt = p628578.toInt := by rw [he628570]; rfl
            have bp628578 : gB p628578 0 2000 := (hB628614.2.2.2.1)
            refine G_iload_n 0 dr_cX17_spill_73 rfl ?_
            refine G_aload_n 2 dr_cX17_spill_74 rfl ?_
            have hm628618 : q590092 ∈ P628547 := RS_m hT628549 ht628565 (by decide)
            obtain ⟨q628620, q628621, p628622, p628623, he628619, ht628639, ht628624, ht628625, ht628626, ht628627, r628628, r628629, r628630, r628631, r628632, r628633, r628634, r628635, r628636, r628637, r628638⟩ := show rk_9 gm_F628548 el_F628548 q590092 (F628548 q590092) from RS_o hT628549 ht628565
            have bp628622 : gB p628622 0 1000000 := ⟨by omega, by omega⟩
            have bp628623 : gB p628623 0 1000000 := ⟨by omega, by omega⟩
            have hf628640 : gm_F628548 1 q628620 = f := (show gm_F628548 1 q628620 = gm_F628548 1 q590092 from ht628625).trans hf628566
            have hf628641 : gm_F628548 1 q628621 = f := (show gm_F628548 1 q628621 = gm_F628548 1 q590092 from ht628627).trans hf628566
            have r628642 : gm_F628548 6 (gm_F628548 1 q590092) = gm_F628548 6 f := by rw [hf628566]
            have r628643 : gm_F628548 16 (gm_F628548 1 q590092) = gm_F628548 16 f := by rw [hf628566]
            have r628644 : p628623.toInt = gm_F628548 6 f ∧ p628623.toInt ≤ 40 := by omega
            clear r628634
            have fq628645 : fI (F628548 q590092) 3 = p628623 := by rw [he628619]; rfl
            refine Gw_callV (As := []) (gV_ok D I) (cp_12780_Code_size l hl0 D I P628547 F628548 q590092 q628620 q628621 p628622 p628623 hm628618 he628619) dr_cX17_spill_75 ⟨wr_10_160, wr_1_15, wr_9_131, by decide, rfl, (Nat.le_of_ble_eq_true rfl), (Nat.le_of_ble_eq_true rfl)⟩ wr_9_129 wr_9_130 hm628618 he628619 rfl (rm_zc pk628567) (rm_zs pk628567) (Nat.le_of_ble_eq_true rfl) (fun r628649 w628650 dc628646 ds628647 hp628648 => ?_) (fun _ _ _ _ _ z => z.elim)
            obtain ⟨rfl, rfl, hdc, hds⟩ := hp628648
            change G _ _ _ _ _ _ _ (.int p628623 :: _) _ _ _
            refine G_widen (cs' := ((rPh gm_F628548 el_F628548 f - rPh γ0 el0 f) / 18)) (sl' := (rPh gm_F628548 el_F628548 f - rPh γ0 el0 f)) (rm_d0 hdc) (rm_d0 hds) ?_
            refine G_icmp_ge 431 dr_cX17_spill_78 (by decide +kernel) (fun hc628651 => ?_) (fun hc628651 => ?_)
            · have r628652 : p628623.toInt ≤ g628546.toInt := gC_le hc628651
              have hx628653 : tl_RModel_spill_73 D I γ0 el0 f P590089 F590090 q590091 F625265 q590092 P625264 F625265 gm_hg625354 el_F625265 (0 : Int32) 431 F628548 P628547 gm_F628548 el_F628548 := kt73_628563 431 F628548 P628547 gm_F628548 el_F628548 (fun R c1 c2 c3 c4 c5 => c1 P628547 F628548 gm_F628548 el_F628548 g628546 p628623 bg628546 hT628549 hs628550 x628553 x628554 x628555 x628556 x628558 x628559 x628560 x628561 x628562 fq628645 r628652)
              have ac628654 : (fI (F628548 q590091) 11).toInt = p628575.toInt := by rw [he628570]; rfl
              have ac628655 : (fI (F628548 q590091) 14).toInt = p628578.toInt := by rw [he628570]; rfl
              have ni628656 : rNI gm_F628548 el_F628548 F628548 q590092 (gm_F628548 6 f) (fI (F628548 q590091) 11).toInt := by rw [show (fI (F628548 q590091) 11).toInt = (fI (F625265 q590091) 11).toInt by omega]; exact spI_e rfl spi625351 x590096 (sp_end x628560 (by omega))
              refine G_aload_n 2 dr_cX17_spill_431 rfl ?_
              refine Gw_callV (As := []) (gV_ok D I) (ct_7810_Code_countRows l hl0 D I gm_F628548 el_F628548 P628547 F628548 q590092 hT628549 ht628565 (by omega)) dr_cX17_spill_432 ⟨wr_10_229, wr_1_15, wr_10_232, by decide, rfl, (Nat.le_of_ble_eq_true rfl), (Nat.le_of_ble_eq_true rfl)⟩ wr_10_230 wr_10_231 hm628618 he628619 rfl (rm_zc pk628567) (rm_zs pk628567) (Nat.le_of_ble_eq_true rfl) (fun r628660 w628661 dc628657 ds628658 hp628659 => ?_) (fun _ _ _ _ _ z => z.elim)
              obtain ⟨o628662, rfl, rfl, hdc, hds, ht628663⟩ := hp628659
              have bo628662 := gB_any o628662
              change G _ _ _ _ _ _ _ (.int o628662 :: _) _ _ _
              refine G_widen (cs' := ((rPh gm_F628548 el_F628548 f - rPh γ0 el0 f) / 18)) (sl' := (rPh gm_F628548 el_F628548 f - rPh γ0 el0 f)) (rm_d0 hdc) (rm_d0 hds) ?_
              refine G_sipush 4000 dr_cX17_spill_435 (by decide +kernel) ?_
              refine G_icmp_gt 445 dr_cX17_spill_438 (by decide +kernel) (fun hc628664 => ?_) (fun hc628664 => ?_)
              · have r628665 : 4000 < o628662.toInt := gj_ltL hc628664 (show Int32.toInt 4000 = 4000 by decide)
                have bo628662' : gB o628662 4001 2147483647 := ⟨by omega, by omega⟩
                refine G_iconst 0 dr_cX17_spill_445 (by decide +kernel) ?_
                exact G_zretA FieldType.boolean dr_cX17_spill_446 rfl rfl (rm_zc pk628567) (rm_zs pk628567) ⟨P628547, F628548, gm_F628548, el_F628548, 0, rfl, rfl, hs628550, (rm_pp hph628551), hB628552, (gB_w (gBl (show Int32.toInt 0 = 0 by decide)) (by decide) (by decide)), (by have qa0 : Int32.toInt 0 = 0 := (by decide); omega), (Or.inl (by decide)), x628561, x628562, (fun R c1 c2 c3 c4 c5 c6 => c1 gm_0 el_0 F625265 P625264 gm_F625265 el_F625265 p625290 gm_hg625354 F628548 P628547 gm_F628548 el_F628548 o628662 hγ0 hel0 hx625348 fq625355 hg625354 hx628653 ht628663 r628665)⟩
              · have r628666 : o628662.toInt ≤ 4000 := gj_nltL hc628664 (show Int32.toInt 4000 = 4000 by decide)
                have bo628662' : gB o628662 (-2147483648) 4000 := ⟨by omega, by omega⟩
                refine G_iconst 1 dr_cX17_spill_441 (by decide +kernel) ?_
                refine G_goto 446 dr_cX17_spill_442 (by decide +kernel) ?_
                exact G_zretA FieldType.boolean dr_cX17_spill_446 rfl rfl (rm_zc pk628567) (rm_zs pk628567) ⟨P628547, F628548, gm_F628548, el_F628548, 1, rfl, rfl, hs628550, (rm_pp hph628551), hB628552, (gB_w (gBl (show Int32.toInt 1 = 1 by decide)) (by decide) (by decide)), (by have qa0 : Int32.toInt 1 = 1 := (by decide); omega), (Or.inr ⟨by omega, by omega, by omega, by omega, by omega, ni628656⟩), x628561, x628562, (fun R c1 c2 c3 c4 c5 c6 => c2 gm_0 el_0 F625265 P625264 gm_F625265 el_F625265 p625290 gm_hg625354 F628548 P628547 gm_F628548 el_F628548 o628662 hγ0 hel0 hx625348 fq625355 hg625354 hx628653 ht628663 r628666)⟩
            · have r628667 : g628546.toInt < p628623.toInt := gC_nle hc628651
              have bg628546' : gB g628546 0 999999 := ⟨by omega, by omega⟩
              have bp628623' : gB p628623 1 1000000 := ⟨by omega, by omega⟩
              refine G_aload_n 2 dr_cX17_spill_81 rfl ?_
              refine G_iload_n 0 dr_cX17_spill_82 rfl ?_
              have hm628668 : q628620 ∈ P628547 := RS_m hT628549 ht628624 (by decide)
              obtain ⟨⟨p628670, p628671, q628672, he628669, r628673, r628674, r628675, r628677⟩, r628676⟩ := show rk_4 D I gm_F628548 el_F628548 F628548 q628620 from RS_o hT628549 ht628624
              have bp628670 := gB_any p628670
              have bp628671 : gB p628671 0 1000000 := ⟨by omega, by omega⟩
              obtain ⟨r628678, r628679, n628686, f628687, r628680, r628681, r628682, r628683, r628684, r628685⟩ := rLC_n r628675 (by omega)
              have hm628688 : q628672 ∈ P628547 := RS_m hT628549 r628678 (by decide)
              obtain ⟨q628689, hx628690⟩ : ∃ x, x = el_F628548 q628620 g628546.toInt.toNat := ⟨_, rfl⟩
              have fq628694 : fR (F628548 q590092) 0 = q628620 := by rw [he628619]; rfl
              have hx628691 : f628687 g628546.toNatClampNeg = some q628689 := (r628684 _ (show g628546.toInt.toNat < gm_F628548 2 q628620 by first | assumption | omega)).trans (by rw [hx628690])
              have ht628695 : rKd gm_F628548 q628689 2 := by rw [hx628690]; exact (r628635 _ (by omega)).resolve_right (fun z => absurd z.1 (by omega))
              have ht628696 : rFm gm_F628548 q628689 q628620 := by rw [hx628690]; exact (r628676 _ (show g628546.toInt.toNat < gm_F628548 2 q628620 by omega)).2.1
              have hm628697 : q628689 ∈ P628547 := RS_m hT628549 ht628695 (by decide)
              obtain ⟨q628699, q628700, p628701, p628702, he628698, ht628709, ht628703, ht628704, ht628705, ht628706, ht628707, bp628701, bp628702, r628708, r628710, r628711⟩ := show rk_2 gm_F628548 q628689 (F628548 q628689) from RS_o hT628549 ht628695
              have fq628712 : fI (F628548 q628620) 2 = p628671 := by rw [he628669]; rfl
              refine Gw_callV (As := [.int g628546]) (gV_ok D I) (cp_7901_Code_get l hl0 D I P628547 F628548 q590092 q628620 q628672 g628546 q628621 p628622 p628623 p628670 p628671 f628687 n628686 q628689 q628699 q628700 p628701 p628702 hm628618 hm628668 hm628688 hm628697 he628619 he628669 r628680 he628698 (gB_w bg628546' (by decide) (by decide)) (gB_w bp628671 (by decide) (by decide)) (by omega) (by omega) (by assumption) (by omega)) dr_cX17_spill_83 ⟨wr_10_161, wr_1_15, wr_10_141, by decide, rfl, (Nat.le_of_ble_eq_true rfl), (Nat.le_of_ble_eq_true rfl)⟩ wr_10_139 wr_10_140 hm628618 he628619 rfl (rm_zc pk628567) (rm_zs pk628567) (Nat.le_of_ble_eq_true rfl) (fun r628716 w628717 dc628713 ds628714 hp628715 => ?_) (fun _ _ _ _ _ z => z.elim)
              obtain ⟨rfl, rfl, hdc, hds, ht628718⟩ := hp628715
              change G _ _ _ _ _ _ _ (.ref q628689 :: _) _ _ _
              refine G_widen (cs' := ((rPh gm_F628548 el_F628548 f - rPh γ0 el0 f) / 18)) (sl' := (rPh gm_F628548 el_F628548 f - rPh γ0 el0 f)) (rm_d0 hdc) (rm_d0 hds) ?_
              have hf628719 : gm_F628548 1 q628689 = f := (show gm_F628548 1 q628689 = gm_F628548 1 q628620 from ht628696).trans ((show gm_F628548 1 q628620 = gm_F628548 1 q590092 from ht628625).trans hf628566)
              have hf628720 : gm_F628548 1 q628699 = f := (show gm_F628548 1 q628699 = gm_F628548 1 q628689 from ht628704).trans hf628719
              have hf628721 : gm_F628548 1 q628700 = f := (show gm_F628548 1 q628700 = gm_F628548 1 q628689 from ht628706).trans hf628719
              have r628722 : gm_F628548 6 (gm_F628548 1 q628689) = gm_F628548 6 f := by rw [hf628719]
              have r628723 : gm_F628548 7 (gm_F628548 1 q628689) = gm_F628548 7 f := by rw [hf628719]
              have r628724 : gm_F628548 19 (gm_F628548 1 q628689) = gm_F628548 19 f := by rw [hf628719]
              have r628725 := r628708.resolve_left (by omega)
              clear r628708
              have r628726 : gm_F628548 2 (gm_F628548 14 q628689) = gm_F628548 2 q628699 := by rw [ht628709.1]
              have r628727 : g628546.toInt.toNat < gm_F628548 2 (gm_F628548 14 q590092) := by rw [ht628639.1]; omega
              have r628728 : el_F628548 (gm_F628548 14 q590092) g628546.toInt.toNat = q628689 := by rw [ht628639.1, hx628690]
              refine G_astore_n (L' := [(3, .ref q628689), (2, .int g628546), (0, .ref q590091), (1, .ref q590092)]) dr_cX17_spill_86 (Nat.le_of_ble_eq_true rfl) rfl ?_
              refine G_iconst 0 dr_cX17_spill_87 (by decide +kernel) ?_
              refine G_istore (L' := [(4, .int 0), (3, .ref q628689), (2, .int g628546), (0, .ref q590091), (1, .ref q590092)]) dr_cX17_spill_88 (Nat.le_of_ble_eq_true rfl) rfl ?_
              have hlp90_630222 : ∀ (n90_630222 : Nat) (P630201 : List Nat) (F630202 : Nat → va_E) (gm_F630202 el_F630202 : Nat → Nat → Nat) (g630200 : Int32), gB g630200 0 1000003 → RS D I P630201 F630202 gm_F630202 el_F630202 → rSk f [101] ([1, 3, 5, 6, 8, 9, 101] ++ npk) D I P590089 F590090 γ0 el0 P630201 F630202 gm_F630202 el_F630202 → rPh γ0 el0 f ≤ rPh gm_F630202 el_F630202 f → rBd gm_F630202 el_F630202 f B → rKd gm_F630202 q628689 2 → gm_F630202 1 q628689 = f → g628546.toInt.toNat < gm_F630202 2 (gm_F630202 14 q590092) → el_F630202 (gm_F630202 14 q590092) g628546.toInt.toNat = q628689 → gm_F630202 6 f = γ0 6 f → gm_F630202 18 f = γ0 18 f → ((gm_F630202 7 f : Nat) : Int) = (fI (F630202 q590091) 11).toInt → (fI (F630202 q590091) 11).toInt = (fI (F625265 q590091) 11).toInt → ((gm_F630202 16 f : Nat) : Int) + 2001 ≤ (B : Int) + (fI (F630202 q590091) 14).toInt → 100 ≤ (fI (F630202 q590091) 14).toInt → (F630202 (γ0 9 19) = F625265 (γ0 9 19)) → rPl gm_F630202 el_F630202 F630202 q590092 (gm_F630202 6 f) (spQ (cB (F590090 (γ0 9 3))) (cB (F625265 (γ0 9 19))) (g628546.toInt : Int).toNat (g630200.toInt : Int).toNat) → (g630200.toInt : Int) ≤ gm_F630202 2 (gm_F630202 14 q628689) + 1 → (g628546.toInt : Int) < gm_F630202 6 f → (F630202 (γ0 9 3) = F590090 (γ0 9 3)) → mKp (F590090 q590091) (F630202 q590091) → (∀ (k : Nat) (e1 : Nat → va_E) (e2 : List Nat) (e3 : Nat → Nat → Nat) (e4 : Nat → Nat → Nat), tl_RModel_spill_90 D I γ0 el0 f P590089 F590090 q590091 F625265 q590092 g628546 q628689 P630201 F630202 gm_F630202 el_F630202 g630200 k e1 e2 e3 e4 → tl_RModel_spill_90 D I γ0 el0 f P590089 F590090 q590091 F625265 q590092 g628546 q628689 P628547 F628548 gm_F628548 el_F628548 (0 : Int32) k e1 e2 e3 e4) → (gm_F630202 2 (gm_F630202 14 q628689) + 1 - (g630200.toInt : Int).toNat) < n90_630222 → G (gV D I) l (gRm 9 195 (((387 * B + 6000) - rPh γ0 el0 f) / 18) ((387 * B + 6000) - rPh γ0 el0 f)) (gMA (gV D I) (pg_590099_SpillForgeModel_spill D I γ0 el0 f B P590089 F590090 q590091 q590092) gNA (((387 * B + 6000) - rPh γ0 el0 f) / 18) ((387 * B + 6000) - rPh γ0 el0 f)) ky_590099_SpillForgeModel_spill 90 [(4, .int g630200), (3, .ref q628689), (2, .int g628546), (0, .ref q590091), (1, .ref q590092)] [] (va_pl P630201 F630202) ((rPh gm_F630202 el_F630202 f - rPh γ0 el0 f) / 18) (rPh gm_F630202 el_F630202 f - rPh γ0 el0 f) := by
                intro n90_630222
                induction n90_630222 with
                | zero => intro P630201 F630202 gm_F630202 el_F630202 g630200 bg630200 hT630203 hs630204 hph630205 hB630206 ht630207 hf630208 r630209 r630210 x630211 x630212 x630213 x630214 x630215 x630216 x630217 x630218 x630219 x630220 x630221 x630222 kt90_630223 hm90_630222; exact absurd hm90_630222 (Nat.not_lt_zero _)
                | succ n90_630222 ih90_630222 =>
                  intro P630201 F630202 gm_F630202 el_F630202 g630200 bg630200 hT630203 hs630204 hph630205 hB630206 ht630207 hf630208 r630209 r630210 x630211 x630212 x630213 x630214 x630215 x630216 x630217 x630218 x630219 x630220 x630221 x630222 kt90_630223 hm90_630222
                  clear r628628 r628629 r628630 r628631 r628632 r628633 r628635 r628636 r628637 r628638 bp628622 bp628623 bp628701 bp628702 r628710 r628711 r628642 r628643 r628644 r628673 r628674 r628675 r628677 r628676 r628678 r628679 r628680 r628681 r628682 r628683 r628684 r628685 r628722 r628723 r628724 r628725 r628726 r628727 r628728
                  have ht630224 : rKd gm_F630202 q590091 10 := rSk_k hs630204 hzq590091 (by decide) (by decide)
                  have ht630225 : rKd gm_F630202 q590092 9 := rSk_k hs630204 hzq590092 (by decide) (by decide)
                  have hf630226 : gm_F630202 1 q590092 = f := rSk_1 hs630204 hzq590092 (by decide) hf0
                  have pk630227 : rPh gm_F630202 el_F630202 f ≤ 387 * B + 6000 := rm_pk (rM_ge hT630203 ht630225 hf630226).1 (rM_bd hB630206)
                  have r630228 : 0 < gm_F630202 6 (gm_F630202 1 q590092) := by rw [hf630226]; omega
                  have hm630229 : q590091 ∈ P630201 := RS_m hT630203 ht630224 (by decide)
                  refine rk10_e (show rk_10 gm_F630202 (F630202 q590091) from RS_o hT630203 ht630224) (fun q630231 q630232 p630233 p630234 p630235 p630236 p630237 p630238 p630239 p630240 p630241 p630242 p630243 p630244 p630245 p630246 p630247 he630230 hB630274 ht630248 ht630249 ht630250 ht630251 ht630252 ht630253 ht630254 ht630255 ht630256 ht630257 ht630258 ht630259 ht630260 ht630261 ht630262 ht630263 ht630264 ht630265 ht630266 ht630267 ht630268 ht630269 ht630270 ht630271 hB630275 => ?_)
                  have ac630276 : (fI (F630202 q590091) 11).toInt = p630235.toInt := by rw [he630230]; rfl
                  have bp630235 : gB p630235 0 100 := (hB630274.2.2.1)
                  have ac630277 : (fI (F630202 q590091) 14).toInt = p630238.toInt := by rw [he630230]; rfl
                  have bp630238 : gB p630238 0 2000 := (hB630274.2.2.2.1)
                  refine G_iload 0 dr_cX17_spill_90 rfl ?_
                  refine G_aload_n 1 dr_cX17_spill_92 rfl ?_
                  have hm630278 : q628689 ∈ P630201 := RS_m hT630203 ht630207 (by decide)
                  obtain ⟨q630280, q630281, p630282, p630283, he630279, ht630290, ht630284, ht630285, ht630286, ht630287, ht630288, bp630282, bp630283, r630289, r630291, r630292⟩ := show rk_2 gm_F630202 q628689 (F630202 q628689) from RS_o hT630203 ht630207
                  have hf630293 : gm_F630202 1 q630280 = f := (show gm_F630202 1 q630280 = gm_F630202 1 q628689 from ht630285).trans hf630208
                  have hf630294 : gm_F630202 1 q630281 = f := (show gm_F630202 1 q630281 = gm_F630202 1 q628689 from ht630287).trans hf630208
                  have r630295 : gm_F630202 6 (gm_F630202 1 q628689) = gm_F630202 6 f := by rw [hf630208]
                  have r630296 : gm_F630202 7 (gm_F630202 1 q628689) = gm_F630202 7 f := by rw [hf630208]
                  have r630297 : gm_F630202 19 (gm_F630202 1 q628689) = gm_F630202 19 f := by rw [hf630208]
                  have r630298 := r630289.resolve_left (by omega)
                  clear r630289
                  have r630299 : gm_F630202 2 (gm_F630202 14 q628689) = gm_F630202 2 q630280 := by rw [ht630290.1]
                  have fq630300 : fR (F630202 q628689) 0 = q630280 := by rw [he630279]; rfl
                  refine Gp_get 0 hm630278 he630279 dr_cX17_spill_93 (gk_X12 D I) (Nat.le_of_ble_eq_true rfl) wr_9_220 rfl ?_
                  have hm630301 : q630280 ∈ P630201 := RS_m hT630203 ht630284 (by decide)
                  obtain ⟨⟨p630303, p630304, q630305, he630302, r630306, r630307, r630308, r630310⟩, r630309⟩ := show rk_3 D I gm_F630202 el_F630202 F630202 q630280 from RS_o hT630203 ht630284
                  have bp630303 := gB_any p630303
                  have bp630304 : gB p630304 0 1000000 := ⟨by omega, by omega⟩
                  have fq630311 : p630304.toInt = (gm_F630202 2 q630280 : Int) := by omega
                  have fq630312 : fI (F630202 q630280) 2 = p630304 := by rw [he630302]; rfl
                  refine Gw_callV (As := []) (gV_ok D I) (cp_7_ArrayList_size l hl0 D I P630201 F630202 q630280 p630303 q630305 p630304 hm630301 he630302 (gB_w bp630304 (by decide) (by decide))) dr_cX17_spill_96 ⟨wr_10_200, wr_1_18, wr_9_160, by decide, rfl, (Nat.le_of_ble_eq_true rfl), (Nat.le_of_ble_eq_true rfl)⟩ wr_9_158 wr_9_159 hm630301 he630302 rfl (rm_zc pk630227) (rm_zs pk630227) (Nat.le_of_ble_eq_true rfl) (fun r630316 w630317 dc630313 ds630314 hp630315 => ?_) (fun _ _ _ _ _ z => z.elim)
                  obtain ⟨rfl, rfl, hdc, hds⟩ := hp630315
                  change G _ _ _ _ _ _ _ (.int p630304 :: _) _ _ _
                  refine G_widen (cs' := ((rPh gm_F630202 el_F630202 f - rPh γ0 el0 f) / 18)) (sl' := (rPh gm_F630202 el_F630202 f - rPh γ0 el0 f)) (rm_d0 hdc) (rm_d0 hds) ?_
                  refine G_icmp_gt 425 dr_cX17_spill_99 (by decide +kernel) (fun hc630318 => ?_) (fun hc630318 => ?_)
                  · have r630319 : p630304.toInt < g630200.toInt := gC_lt hc630318
                    have bg630200' : gB g630200 1 1000003 := ⟨by omega, by omega⟩
                    have hx630320 : tl_RModel_spill_90 D I γ0 el0 f P590089 F590090 q590091 F625265 q590092 g628546 q628689 P628547 F628548 gm_F628548 el_F628548 (0 : Int32) 425 F630202 P630201 gm_F630202 el_F630202 := kt90_630223 425 F630202 P630201 gm_F630202 el_F630202 (tl_RModel_spill_90_k1 D I γ0 el0 f P590089 F590090 q590091 F625265 q590092 g628546 q628689 P630201 F630202 gm_F630202 el_F630202 g630200 q630280 p630304 bg630200 hT630203 hs630204 x630211 x630212 x630213 x630214 x630216 x630217 x630218 x630219 x630220 x630221 x630222 fq630300 fq630311 fq630312 r630319)
                    obtain ⟨z630321, hz630321⟩ : ∃ z : Int32, z = g628546 + Int32.ofInt 1 := ⟨_, rfl⟩
                    have ez630321 : z630321.toInt = g628546.toInt + 1 := gI_inc hz630321 (by decide) bg628546' (by decide) (by decide)
                    have bz630321 : gB z630321 1 1000000 := ⟨by omega, by omega⟩
                    refine G_iinc (L' := [(2, .int z630321), (4, .int g630200), (3, .ref q628689), (0, .ref q590091), (1, .ref q590092)]) z630321 2 dr_cX17_spill_425 rfl hz630321.symm (Nat.le_of_ble_eq_true rfl) rfl ?_
                    refine G_goto 73 dr_cX17_spill_428 (by decide +kernel) ?_
                    refine G_lv (L' := [(2, .int z630321), (0, .ref q590091), (1, .ref q590092)]) [0, 3, 4] rfl ?_
                    have ac630322 : (fI (F630202 q590091) 11).toInt = p630235.toInt := by rw [he630230]; rfl
                    have ac630323 : (fI (F630202 q590091) 14).toInt = p630238.toInt := by rw [he630230]; rfl
                    exact ih73_628562 P630201 F630202 gm_F630202 el_F630202 z630321 (gB_w bz630321 (by decide) (by decide)) hT630203 hs630204 hph630205 hB630206 (by omega) (by omega) (by omega) (by omega) (by omega) (by omega) x630217 (sp_nx x630218 (by unfold rwL; rw [r630210]; omega) (by omega)) x630221 x630222 (fun k e1 e2 e3 e4 ht => kt73_628563 k e1 e2 e3 e4 (fun R c1 c2 c3 c4 c5 => c2 P628547 F628548 gm_F628548 el_F628548 g628546 p628623 q628620 q628689 p628671 F630202 P630201 gm_F630202 el_F630202 z630321 k e1 e2 e3 e4 bg628546 hT628549 hs628550 x628553 x628554 x628555 x628556 x628558 x628559 x628560 x628561 x628562 fq628645 r628667 fq628694 hx628690 fq628712 ht628718 hx630320 ez630321 (ht R c1 c2 c3 c4 c5))) (by omega)
                  · have r630324 : g630200.toInt ≤ p630304.toInt := gC_nlt hc630318
                    have bg630200' : gB g630200 0 1000000 := ⟨by omega, by omega⟩
                    have jn292_630354 : ∀ (P630327 : List Nat) (F630328 : Nat → va_E) (gm_F630328 el_F630328 : Nat → Nat → Nat) (g630325 : Int32) (q630326 : Nat), gB g630325 0 1000001 → RS D I P630327 F630328 gm_F630328 el_F630328 → rSk f [101] ([1, 3, 5, 6, 8, 9, 101] ++ npk) D I P590089 F590090 γ0 el0 P630327 F630328 gm_F630328 el_F630328 → rPh γ0 el0 f ≤ rPh gm_F630328 el_F630328 f → rBd gm_F630328 el_F630328 f B → rKd gm_F630328 q628689 2 → gm_F630328 1 q628689 = f → g628546.toInt.toNat < gm_F630328 2 (gm_F630328 14 q590092) → el_F630328 (gm_F630328 14 q590092) g628546.toInt.toNat = q628689 → rKd gm_F630328 q630326 1 → gm_F630328 1 q630326 = f → gm_F630328 6 f = γ0 6 f → gm_F630328 18 f = γ0 18 f → ((gm_F630328 7 f : Nat) : Int) = (fI (F630328 q590091) 11).toInt → (fI (F630328 q590091) 11).toInt = (fI (F625265 q590091) 11).toInt → ((gm_F630328 16 f : Nat) : Int) + 2001 ≤ (B : Int) + (fI (F630328 q590091) 14).toInt → 100 ≤ (fI (F630328 q590091) 14).toInt → (F630328 (γ0 9 19) = F625265 (γ0 9 19)) → rPl gm_F630328 el_F630328 F630328 q590092 (gm_F630328 6 f) (spX (cB (F590090 (γ0 9 3))) (cB (F625265 (γ0 9 19))) (g628546.toInt : Int).toNat (g630325.toInt : Int).toNat) → rAt gm_F630328 el_F630328 q590092 (g628546.toInt : Int).toNat (g630325.toInt : Int).toNat = q630326 → rS2 (cB (F590090 (γ0 9 3))) (cB (F625265 (γ0 9 19))) (F630328 q630326) → (g630325.toInt : Int) ≤ gm_F630328 2 (gm_F630328 14 q628689) → (g628546.toInt : Int) < gm_F630328 6 f → (gm_F630328 2 (gm_F630328 14 q628689) + 1 - (g630325.toInt : Int).toNat) < n90_630222 + 1 → eO g630325.toInt (gm_F630328 2 (gm_F630328 14 q628689) : Nat) (fI (F630328 q630326) 0).toInt → (F630328 (γ0 9 3) = F590090 (γ0 9 3)) → mKp (F590090 q590091) (F630328 q590091) → (∀ (k : Nat) (e1 : Nat → va_E) (e2 : List Nat) (e3 : Nat → Nat → Nat) (e4 : Nat → Nat → Nat), tj_RModel_spill_90_292 D I γ0 el0 f P590089 F590090 q590091 F625265 q590092 g628546 q628689 P630327 F630328 gm_F630328 el_F630328 g630325 q630326 k e1 e2 e3 e4 → tl_RModel_spill_90 D I γ0 el0 f P590089 F590090 q590091 F625265 q590092 g628546 q628689 P630201 F630202 gm_F630202 el_F630202 g630200 k e1 e2 e3 e4) → G (gV D I) l (gRm 9 195 (((387 * B + 6000) - rPh γ0 el0 f) / 18) ((387 * B + 6000) - rPh γ0 el0 f)) (gMA (gV D I) (pg_590099_SpillForgeModel_spill D I γ0 el0 f B P590089 F590090 q590091 q590092) gNA (((387 * B + 6000) - rPh γ0 el0 f) / 18) ((387 * B + 6000) - rPh γ0 el0 f)) ky_590099_SpillForgeModel_spill 292 [(0, .ref q590091), (1, .ref q590092), (2, .int g628546), (3, .ref q628689), (4, .int g630325), (5, .ref q630326)] [] (va_pl P630327 F630328) ((rPh gm_F630328 el_F630328 f - rPh γ0 el0 f) / 18) (rPh gm_F630328 el_F630328 f - rPh γ0 el0 f) := by
                      intro P630327 F630328 gm_F630328 el_F630328 g630325 q630326 bg630325 hT630329 hs630330 hph630331 hB630332 ht630333 hf630334 r630335 r630336 ht630337 hf630338 x630339 x630340 x630341 x630342 x630343 x630344 x630345 x630346 x630347 x630348 x630349 x630350 x630351 x630352 x630353 x630354 kj292_630355
                      clear bp630282 bp630283 r630291 r630292 r630295 r630296 r630297 r630298 r630299 r630306 r630307 r630308 r630310 r630309
                      have ht630356 : rKd gm_F630328 q590091 10 := rSk_k hs630330 hzq590091 (by decide) (by decide)
                      have ht630357 : rKd gm_F630328 q590092 9 := rSk_k hs630330 hzq590092 (by decide) (by decide)
                      have hf630358 : gm_F630328 1 q590092 = f := rSk_1 hs630330 hzq590092 (by decide) hf0
                      have pk630359 : rPh gm_F630328 el_F630328 f ≤ 387 * B + 6000 := rm_pk (rM_ge hT630329 ht630357 hf630358).1 (rM_bd hB630332)
                      have r630360 : 0 < gm_F630328 6 (gm_F630328 1 q590092) := by rw [hf630358]; omega
                      have hm630361 : q590091 ∈ P630327 := RS_m hT630329 ht630356 (by decide)
                      refine rk10_e (show rk_10 gm_F630328 (F630328 q590091) from RS_o hT630329 ht630356) (fun q630363 q630364 p630365 p630366 p630367 p630368 p630369 p630370 p630371 p630372 p630373 p630374 p630375 p630376 p630377 p630378 p630379 he630362 hB630406 ht630380 ht630381 ht630382 ht630383 ht630384 ht630385 ht630386 ht630387 ht630388 ht630389 ht630390 ht630391 ht630392 ht630393 ht630394 ht630395 ht630396 ht630397 ht630398 ht630399 ht630400 ht630401 ht630402 ht630403 hB630407 => ?_)
                      have ac630408 : (fI (F630328 q590091) 11).toInt = p630367.toInt := by rw [he630362]; rfl
                      have bp630367 : gB p630367 0 100 := (hB630406.2.2.1)
                      have ac630409 : (fI (F630328 q590091) 14).toInt = p630370.toInt := by rw [he630362]; rfl
                      have bp630370 : gB p630370 0 2000 := (hB630406.2.2.2.1)
                      have hm630410 : q630326 ∈ P630327 := RS_m hT630329 ht630337 (by decide)
                      obtain ⟨p630412, p630413, p630414, p630415, p630416, p630417, p630418, he630411, bp630412, bp630413, bp630416, bp630417, bp630418, r630419, r630420, r630421, r630422, r630423⟩ := show rk_1 gm_F630328 q630326 (F630328 q630326) from RS_o hT630329 ht630337
                      have bp630414 := gB_any p630414
                      have bp630415 := gB_any p630415
                      replace r630419 : gH _ := r630419
                      replace r630420 : gH _ := r630420
                      replace r630421 : gH _ := r630421
                      replace r630422 : gH _ := r630422
                      replace r630423 : gH _ := r630423
                      have r630424 : gm_F630328 7 (gm_F630328 1 q630326) = gm_F630328 7 f := by rw [hf630338]
                      refine G_aload 5 dr_cX17_spill_292 rfl ?_
                      have fq630425 : fI (F630328 q630326) 0 = p630412 := by rw [he630411]; rfl
                      refine Gw_callV (As := []) (gV_ok D I) (cp_410218_Row_sets l hl0 D I P630327 F630328 q630326 p630412 p630413 p630414 p630415 p630416 p630417 p630418 hm630410 he630411 bp630412 bp630413 bp630416 bp630417 bp630418) dr_cX17_spill_294 ⟨wr_10_181, wr_1_39, wr_10_184, by decide, rfl, (Nat.le_of_ble_eq_true rfl), (Nat.le_of_ble_eq_true rfl)⟩ wr_10_182 wr_10_183 hm630410 he630411 rfl (rm_zc pk630359) (rm_zs pk630359) (Nat.le_of_ble_eq_true rfl) (fun r630429 w630430 dc630426 ds630427 hp630428 => ?_) (fun _ _ _ _ _ z => z.elim)
                      obtain ⟨o630431, rfl, rfl, hdc, hds, bo630431, x630432, ht630433⟩ := hp630428
                      change G _ _ _ _ _ _ _ (.int o630431 :: _) _ _ _
                      refine G_widen (cs' := ((rPh gm_F630328 el_F630328 f - rPh γ0 el0 f) / 18)) (sl' := (rPh gm_F630328 el_F630328 f - rPh γ0 el0 f)) (rm_d0 hdc) (rm_d0 hds) ?_
                      refine G_if_eq 419 dr_cX17_spill_297 (by decide +kernel) (fun hc630434 => ?_) (fun hc630434 => ?_)
                      · have r630435 : o630431.toInt = 0 := gj_eq hc630434 (show Int32.toInt 0 = 0 by decide)
                        have bo630431' : gB o630431 0 0 := gB_t0 r630435
                        have rn630437 : rNx (nSp (cB (F590090 (γ0 9 3))) (cB (F625265 (γ0 9 19)))) (F630328 q630326) := rS2_n he630411 he630411 x630348 (fun h => (uS_0 x630432 (by omega) h).elim)
                        have pl630436 := sp_fin x630346 x630347 rn630437 (rfl : (g630325.toInt : Int).toNat + 1 = (g630325.toInt : Int).toNat + 1)
                        obtain ⟨z630438, hz630438⟩ : ∃ z : Int32, z = g630325 + Int32.ofInt 1 := ⟨_, rfl⟩
                        have ez630438 : z630438.toInt = g630325.toInt + 1 := gI_inc hz630438 (by decide) bg630325 (by decide) (by decide)
                        have bz630438 : gB z630438 1 1000002 := ⟨by omega, by omega⟩
                        refine G_iinc (L' := [(4, .int z630438), (0, .ref q590091), (1, .ref q590092), (2, .int g628546), (3, .ref q628689), (5, .ref q630326)]) z630438 4 dr_cX17_spill_419 rfl hz630438.symm (Nat.le_of_ble_eq_true rfl) rfl ?_
                        refine G_goto 90 dr_cX17_spill_422 (by decide +kernel) ?_
                        refine G_lv (L' := [(4, .int z630438), (3, .ref q628689), (2, .int g628546), (0, .ref q590091), (1, .ref q590092)]) [0, 4, 3, 1, 2] rfl ?_
                        have ac630439 : (fI (F630328 q590091) 11).toInt = p630367.toInt := by rw [he630362]; rfl
                        have ac630440 : (fI (F630328 q590091) 14).toInt = p630370.toInt := by rw [he630362]; rfl
                        exact ih90_630222 P630327 F630328 gm_F630328 el_F630328 z630438 (gB_w bz630438 (by decide) (by decide)) hT630329 hs630330 hph630331 hB630332 ht630333 hf630334 r630335 r630336 (by omega) (by omega) (by omega) (by omega) (by omega) (by omega) x630345 (by rw [(show (z630438.toInt : Int).toNat = ((g630325.toInt : Int).toNat + 1) from tn_eq1 (by omega) (by omega))]; exact pl630436) (by omega) (by omega) x630353 x630354 (fun k e1 e2 e3 e4 ht => kt90_630223 k e1 e2 e3 e4 (kj292_630355 k e1 e2 e3 e4 (tl_RModel_spill_90_k2 D I γ0 el0 f P590089 F590090 q590091 F625265 q590092 g628546 q628689 P630327 F630328 gm_F630328 el_F630328 g630325 q630326 p630412 o630431 z630438 k e1 e2 e3 e4 bg630325 hT630329 hs630330 x630339 x630340 x630341 x630342 x630344 x630345 x630346 x630347 x630348 x630349 x630350 x630352 x630353 x630354 fq630425 bo630431 ht630433 r630435 ez630438 ht))) (ms_g x630351 (by omega) (by omega) (by omega))
                      · have r630441 : o630431.toInt ≠ 0 := gj_neq hc630434 (show Int32.toInt 0 = 0 by decide)
                        have bo630431' : gB o630431 1 1 := gB_t1 bo630431 r630441
                        refine G_aload 5 dr_cX17_spill_300 rfl ?_
                        refine Gp_get 0 hm630410 he630411 dr_cX17_spill_302 (gk_X15 D I) (Nat.le_of_ble_eq_true rfl) wr_9_177 rfl ?_
                        refine G_bipush 21 dr_cX17_spill_305 (by decide +kernel) ?_
                        refine G_icmp_eq 419 dr_cX17_spill_307 (by decide +kernel) (fun hc630442 => ?_) (fun hc630442 => ?_)
                        · have r630443 : p630412.toInt = 21 := gj_eq hc630442 (show Int32.toInt 21 = 21 by decide)
                          have bp630412' : gB p630412 21 21 := ⟨by omega, by omega⟩
                          have rn630445 : rNx (nSp (cB (F590090 (γ0 9 3))) (cB (F625265 (γ0 9 19)))) (F630328 q630326) := rS2_n he630411 he630411 x630348 (fun _ => Or.inr ⟨rfl, Or.inl (by omega)⟩)
                          have pl630444 := sp_fin x630346 x630347 rn630445 (rfl : (g630325.toInt : Int).toNat + 1 = (g630325.toInt : Int).toNat + 1)
                          obtain ⟨z630446, hz630446⟩ : ∃ z : Int32, z = g630325 + Int32.ofInt 1 := ⟨_, rfl⟩
                          have ez630446 : z630446.toInt = g630325.toInt + 1 := gI_inc hz630446 (by decide) bg630325 (by decide) (by decide)
                          have bz630446 : gB z630446 1 1000002 := ⟨by omega, by omega⟩
                          refine G_iinc (L' := [(4, .int z630446), (0, .ref q590091), (1, .ref q590092), (2, .int g628546), (3, .ref q628689), (5, .ref q630326)]) z630446 4 dr_cX17_spill_419 rfl hz630446.symm (Nat.le_of_ble_eq_true rfl) rfl ?_
                          refine G_goto 90 dr_cX17_spill_422 (by decide +kernel) ?_
                          refine G_lv (L' := [(4, .int z630446), (3, .ref q628689), (2, .int g628546), (0, .ref q590091), (1, .ref q590092)]) [0, 4, 3, 1, 2] rfl ?_
                          have ac630447 : (fI (F630328 q590091) 11).toInt = p630367.toInt := by rw [he630362]; rfl
                          have ac630448 : (fI (F630328 q590091) 14).toInt = p630370.toInt := by rw [he630362]; rfl
                          exact ih90_630222 P630327 F630328 gm_F630328 el_F630328 z630446 (gB_w bz630446 (by decide) (by decide)) hT630329 hs630330 hph630331 hB630332 ht630333 hf630334 r630335 r630336 (by omega) (by omega) (by omega) (by omega) (by omega) (by omega) x630345 (by rw [(show (z630446.toInt : Int).toNat = ((g630325.toInt : Int).toNat + 1) from tn_eq1 (by omega) (by omega))]; exact pl630444) (by omega) (by omega) x630353 x630354 (fun k e1 e2 e3 e4 ht => kt90_630223 k e1 e2 e3 e4 (kj292_630355 k e1 e2 e3 e4 (tl_RModel_spill_90_k3 D I γ0 el0 f P590089 F590090 q590091 F625265 q590092 g628546 q628689 P630327 F630328 gm_F630328 el_F630328 g630325 q630326 p630412 o630431 z630446 k e1 e2 e3 e4 bg630325 hT630329 hs630330 x630339 x630340 x630341 x630342 x630344 x630345 x630346 x630347 x630348 x630349 x630350 x630352 x630353 x630354 fq630425 bo630431 ht630433 r630441 r630443 ez630446 ht))) (ms_g x630351 (by omega) (by omega) (by omega))
                        · have r630449 : p630412.toInt ≠ 21 := gj_neq hc630442 (show Int32.toInt 21 = 21 by decide)
                          refine G_aload_n 0 dr_cX17_spill_310 rfl ?_
                          have fq630450 : fR (F630328 q590091) 19 = (gm_F630328 9 19) := by rw [he630362]; rfl
                          refine Gp_get 19 hm630361 he630362 dr_cX17_spill_311 (gk_X17 D I) (Nat.le_of_ble_eq_true rfl) wr_7_93 rfl ?_
                          refine G_aload 5 dr_cX17_spill_314 rfl ?_
                          have fq630451 : fI (F630328 q630326) 1 = p630413 := by rw [he630411]; rfl
                          refine Gp_get 1 hm630410 he630411 dr_cX17_spill_316 (gk_X15 D I) (Nat.le_of_ble_eq_true rfl) wr_9_182 rfl ?_
                          have hm630452 : (gm_F630328 9 19) ∈ P630327 := RS_m hT630329 ht630395 (by decide)
                          obtain ⟨f630454, he630453, bf630454⟩ := show rk_21 I (F630328 (gm_F630328 9 19)) from RS_o hT630329 ht630395
                          refine Gp_iald 0 hm630452 he630453 dr_cX17_spill_319 rfl (gB_in bp630413 (by decide) (by decide)) (G_nam fun z630455 hz630455 => ?_)
                          have bz630455 : gB z630455 (-1) 1999 := by rw [hz630455]; exact bf630454 _
                          have c9_630456 : cB (F625265 (γ0 9 19)) = f630454 := by rw [← x630345, ← congrFun (rSk_9 hs630330) 19]; exact cB_of he630453
                          have hs630457 : (cB (F625265 (γ0 9 19)) p630413.toInt.toNat).toInt = z630455.toInt := by rw [c9_630456, hz630455]; rfl
                          refine G_if_ge 326 dr_cX17_spill_320 (by decide +kernel) (fun hc630459 => ?_) (fun hc630459 => ?_)
                          · have r630460 : 0 ≤ z630455.toInt := gj_leL hc630459 (show Int32.toInt 0 = 0 by decide)
                            have bz630455' : gB z630455 0 1999 := ⟨by omega, by omega⟩
                            refine G_aload_n 0 dr_cX17_spill_326 rfl ?_
                            refine Gp_get 19 hm630361 he630362 dr_cX17_spill_327 (gk_X17 D I) (Nat.le_of_ble_eq_true rfl) wr_7_93 rfl ?_
                            refine G_aload 5 dr_cX17_spill_330 rfl ?_
                            refine Gp_get 1 hm630410 he630411 dr_cX17_spill_332 (gk_X15 D I) (Nat.le_of_ble_eq_true rfl) wr_9_182 rfl ?_
                            refine Gp_iald 0 hm630452 he630453 dr_cX17_spill_335 rfl (gB_in bp630413 (by decide) (by decide)) (G_eqi (y := z630455) hz630455.symm ?_)
                            have r630461 := (spi625351.2.2.2 p630413.toInt.toNat (tn_lt (by omega) (by omega)) (by omega)).2.2
                            refine G_istore (L' := [(8, .int z630455), (0, .ref q590091), (1, .ref q590092), (2, .int g628546), (3, .ref q628689), (4, .int g630325), (5, .ref q630326)]) dr_cX17_spill_336 (Nat.le_of_ble_eq_true rfl) rfl ?_
                            refine G_aload_n 1 dr_cX17_spill_338 rfl ?_
                            have fq630462 : fI (F630328 q590091) 14 = p630370 := by rw [he630362]; rfl
                            refine Gp_get 14 hm630361 he630362 dr_cX17_spill_339 (gk_X17 D I) (Nat.le_of_ble_eq_true rfl) wr_7_88 rfl ?_
                            refine G_sipush 2000 dr_cX17_spill_342 (by decide +kernel) ?_
                            refine G_icmp_ne 350 dr_cX17_spill_345 (by decide +kernel) (fun hc630463 => ?_) (fun hc630463 => ?_)
                            · have r630464 : p630370.toInt ≠ 2000 := gj_neq hc630463 (show Int32.toInt 2000 = 2000 by decide)
                              have bp630370' : gB p630370 0 1999 := ⟨by omega, by omega⟩
                              have r630465 := eO_r x630352 (by rw [he630411]; rfl) (uS_1 x630432 (by omega))
                              refine G_aload 6 dr_cX17_spill_350 rfl ?_
                              refine G_aload_n 1 dr_cX17_spill_352 rfl ?_
                              refine Gp_get 14 hm630361 he630362 dr_cX17_spill_353 (gk_X17 D I) (Nat.le_of_ble_eq_true rfl) wr_7_88 rfl ?_
                              refine Gp_put 1 hm630410 he630411 dr_cX17_spill_356 (gk_X15 D I) (Nat.le_of_ble_eq_true rfl) wr_9_182 rfl rfl rfl (Nat.le_of_ble_eq_true rfl) (fun F630466 e630467 n630468 => ?_)
                              have r630469 := rk1_at hT630329 ht630337 he630411
                              have he630470 : F630466 q590091 = .inr (22, [.ref (gm_F630328 9 0), .ref (gm_F630328 9 1), .ref (gm_F630328 9 2), .ref (gm_F630328 9 3), .ref (gm_F630328 9 4), .ref (gm_F630328 9 5), .ref (gm_F630328 9 6), .ref (gm_F630328 9 7), .ref (gm_F630328 9 8), .int p630365, .int p630366, .int p630367, .int p630368, .int p630369, .int p630370, .ref (gm_F630328 9 15), .ref (gm_F630328 9 16), .ref (gm_F630328 9 17), .ref (gm_F630328 9 18), .ref (gm_F630328 9 19), .ref (gm_F630328 9 20), .ref (gm_F630328 9 21), .ref (gm_F630328 9 22), .int p630371, .int p630372, .int p630373, .int p630374, .int p630375, .ref q630363, .ref (gm_F630328 9 29), .int p630376, .ref (gm_F630328 9 31), .int p630377, .int p630378, .int p630379, .ref q630364]) := (n630468 q590091 (rn_oo he630362 he630411 (by decide))).trans he630362
                              have he630471 : F630466 (gm_F630328 9 19) = .inl (I .int, 2000, .inl f630454) := (n630468 (gm_F630328 9 19) (rn_ao he630453 he630411)).trans he630453
                              have he630472 : F630466 q630326 = .inr (20, [.int p630412, .int p630370, .int p630414, .int p630415, .int p630416, .int p630417, .int p630418]) := e630467
                              have mk630473 : mKp (F590090 q590091) (F630466 q590091) := mKp_tr x630354 (mKp_eq (n630468 q590091 (rn_ty ht630356 ht630337 (by decide))))
                              have kp630474 : F630466 (γ0 9 3) = F590090 (γ0 9 3) := (n630468 (γ0 9 3) (rn_ty (rSk_k hs630330 k0_3 (by decide) (by decide)) ht630337 (by decide))).trans x630353
                              have kp630475 : F630466 (γ0 9 19) = F625265 (γ0 9 19) := (n630468 (γ0 9 19) (rn_ty (rSk_k hs630330 k0_19 (by decide) (by decide)) ht630337 (by decide))).trans x630345
                              have fq630476 : F630466 q630326 = cF (F630328 q630326) 1 (.int p630370) := by rw [he630472, he630411]; rfl
                              have hT630477 : RS D I P630327 F630466 gm_F630328 el_F630328 := RS_set hT630329 n630468 ht630337 (by decide) ⟨p630412, p630370, p630414, p630415, p630416, p630417, p630418, he630472, bp630412, bp630370', bp630416, bp630417, bp630418, (gHe r630419), (gHe r630420), (gHe r630421), r630469.1, r630469.2⟩
                              have hs630479 := rSk_put hs630330 hT630477 n630468 ht630337 (by decide) (by decide) (Or.inr (Or.inl hf630338))
                              have hm630481 : q628689 ∈ P630327 := RS_m hT630477 ht630333 (by decide)
                              obtain ⟨q630483, q630484, p630485, p630486, he630482, ht630493, ht630487, ht630488, ht630489, ht630490, ht630491, bp630485, bp630486, r630492, r630494, r630495⟩ := show rk_2 gm_F630328 q628689 (F630466 q628689) from RS_o hT630477 ht630333
                              have hf630496 : gm_F630328 1 q630483 = f := (show gm_F630328 1 q630483 = gm_F630328 1 q628689 from ht630488).trans hf630334
                              have hf630497 : gm_F630328 1 q630484 = f := (show gm_F630328 1 q630484 = gm_F630328 1 q628689 from ht630490).trans hf630334
                              have r630498 : gm_F630328 6 (gm_F630328 1 q628689) = gm_F630328 6 f := by rw [hf630334]
                              have r630499 : gm_F630328 7 (gm_F630328 1 q628689) = gm_F630328 7 f := by rw [hf630334]
                              have r630500 : gm_F630328 19 (gm_F630328 1 q628689) = gm_F630328 19 f := by rw [hf630334]
                              have r630501 := r630492.resolve_left (by omega)
                              clear r630492
                              have r630502 : gm_F630328 2 (gm_F630328 14 q628689) = gm_F630328 2 q630483 := by rw [ht630493.1]
                              have pl630480 := sp_put hT630329 ht630357 hf630358 x630346 n630468 x630347 (show (g628546.toInt : Int).toNat < gm_F630328 6 f from tn_lt (by omega) (by omega)) (by unfold rwL; rw [r630336]; exact tn_le0 (by omega) (by omega))
                              have rn630504 : rNx (nSp (cB (F590090 (γ0 9 3))) (cB (F625265 (γ0 9 19)))) (F630466 q630326) := rS2_n he630411 he630472 x630348 (fun _ => Or.inl (by omega))
                              have pl630503 := sp_fin pl630480 x630347 rn630504 (rfl : (g630325.toInt : Int).toNat + 1 = (g630325.toInt : Int).toNat + 1)
                              refine G_aload_n 1 dr_cX17_spill_359 rfl ?_
                              refine G_dup dr_cX17_spill_360 rfl ?_
                              have fq630505 : fI (F630466 q590091) 14 = p630370 := by rw [he630470]; rfl
                              refine Gp_get 14 hm630361 he630470 dr_cX17_spill_361 (gk_X17 D I) (Nat.le_of_ble_eq_true rfl) wr_7_88 rfl ?_
                              refine G_iconst 1 dr_cX17_spill_364 (by decide +kernel) ?_
                              refine G_iadd dr_cX17_spill_365 (G_nam fun z630506 hz630506 => ?_)
                              have ez630506 : z630506.toInt = p630370.toInt + 1 := by rw [gI_add hz630506 bp630370' (gBl (show Int32.toInt 1 = 1 by decide)) (by decide) (by decide), show Int32.toInt 1 = 1 from by decide]
                              have bz630506 : gB z630506 1 2000 := gB_add (gI_add hz630506 bp630370' (gBl (show Int32.toInt 1 = 1 by decide)) (by decide) (by decide)) bp630370' (gBl (show Int32.toInt 1 = 1 by decide)) (by decide) (by decide)
                              refine Gp_put 14 hm630361 he630470 dr_cX17_spill_366 (gk_X17 D I) (Nat.le_of_ble_eq_true rfl) wr_7_88 rfl rfl rfl (Nat.le_of_ble_eq_true rfl) (fun F630507 e630508 n630509 => ?_)
                              have he630510 : F630507 q630326 = .inr (20, [.int p630412, .int p630370, .int p630414, .int p630415, .int p630416, .int p630417, .int p630418]) := (n630509 q630326 (rn_oo he630472 he630470 (by decide))).trans he630472
                              have he630511 : F630507 (gm_F630328 9 19) = .inl (I .int, 2000, .inl f630454) := (n630509 (gm_F630328 9 19) (rn_ao he630471 he630470)).trans he630471
                              have he630512 : F630507 q628689 = .inr (17, [.ref q630483, .ref q630484, .int p630485, .int p630486]) := (n630509 q628689 (rn_oo he630482 he630470 (by decide))).trans he630482
                              have he630513 : F630507 q590091 = .inr (22, [.ref (gm_F630328 9 0), .ref (gm_F630328 9 1), .ref (gm_F630328 9 2), .ref (gm_F630328 9 3), .ref (gm_F630328 9 4), .ref (gm_F630328 9 5), .ref (gm_F630328 9 6), .ref (gm_F630328 9 7), .ref (gm_F630328 9 8), .int p630365, .int p630366, .int p630367, .int p630368, .int p630369, .int z630506, .ref (gm_F630328 9 15), .ref (gm_F630328 9 16), .ref (gm_F630328 9 17), .ref (gm_F630328 9 18), .ref (gm_F630328 9 19), .ref (gm_F630328 9 20), .ref (gm_F630328 9 21), .ref (gm_F630328 9 22), .int p630371, .int p630372, .int p630373, .int p630374, .int p630375, .ref q630363, .ref (gm_F630328 9 29), .int p630376, .ref (gm_F630328 9 31), .int p630377, .int p630378, .int p630379, .ref q630364]) := e630508
                              have mk630514 : mKp (F590090 q590091) (F630507 q590091) := mKp_tr mk630473 (by rw [he630470, he630513]; exact ⟨rfl, rfl⟩)
                              have kp630515 : F630507 (γ0 9 3) = F590090 (γ0 9 3) := (n630509 (γ0 9 3) (rn_ty (rSk_k hs630479 k0_3 (by decide) (by decide)) ht630356 (by decide))).trans kp630474
                              have kp630516 : F630507 (γ0 9 19) = F625265 (γ0 9 19) := (n630509 (γ0 9 19) (rn_ty (rSk_k hs630479 k0_19 (by decide) (by decide)) ht630356 (by decide))).trans kp630475
                              have fq630517 : F630507 q590091 = cF (F630466 q590091) 14 (.int z630506) := by rw [he630513, he630470]; rfl
                              have hT630518 : RS D I P630327 F630507 gm_F630328 el_F630328 := RS_set hT630477 n630509 ht630356 (by decide) ⟨q630363, q630364, p630365, p630366, p630367, p630368, p630369, z630506, p630371, p630372, p630373, p630374, p630375, p630376, p630377, p630378, p630379, he630513, ⟨(hB630406.1), (hB630406.2.1), bp630367, (gB_w bz630506 (by decide) (by decide)), (hB630406.2.2.2.2.1), (hB630406.2.2.2.2.2.1), (hB630406.2.2.2.2.2.2.1), (hB630406.2.2.2.2.2.2.2.1), (hB630406.2.2.2.2.2.2.2.2)⟩, ht630380, ht630381, ht630382, ht630383, ht630384, ht630385, ht630386, ht630387, ht630388, ht630389, ht630390, ht630391, ht630392, ht630393, ht630394, ht630395, ht630396, ht630397, ht630398, ht630399, ht630400, ht630401, ht630402, ht630403, hB630407⟩
                              have hs630520 := rSk_put hs630479 hT630518 n630509 ht630356 (by decide) (by decide) (Or.inr (Or.inr (by decide)))
                              have pl630521 := rPl_fr hT630477 ht630357 hf630358 pl630503 (fun b hb _ => n630509 b (rn_ty (show rKd gm_F630328 b 1 from hb) ht630356 (by decide)))
                              have ac630522 : (fI (F630507 q590091) 11).toInt = p630367.toInt := by rw [he630513]; rfl
                              have ac630523 : (fI (F630507 q590091) 14).toInt = z630506.toInt := by rw [he630513]; rfl
                              refine G_aload_n 2 dr_cX17_spill_369 rfl ?_
                              have rg630524 := rM_ge hT630518 ht630357 hf630358
                              have rm630525 := rM_bd hB630332
                              have bd630526 := rBd_c hT630518 ht630357 hf630358 hB630332
                              have rc630527 := rc_at hT630518 ht630357 hf630358
                              obtain ⟨q630534, hl630535⟩ : ∃ z, z = gm_F630328 14 q628689 := ⟨_, rfl⟩
                              have hl630536 : gm_F630328 0 q630534 = 3 ∨ gm_F630328 0 q630534 = 103 := by rw [hl630535, ← r630336]; exact (RS_lst hT630518 rc630527.2.1 r630335).1
                              refine Gt_row (c := q590092) (f := f) hl0 dr_cX17_spill_370 ⟨wr_10_206, wr_1_15, wr_10_82, by decide, rfl, (Nat.le_of_ble_eq_true rfl), (Nat.le_of_ble_eq_true rfl)⟩ wr_10_80 wr_10_81 hT630518 ht630357 hf630358 (Nat.le_trans bd630526.2.2.1 (Nat.le_trans hBk (by decide))) (rm_cs hph630331 rg630524.2.1 rm630525 (by decide)) (rm_sl hph630331 rg630524.2.1 rm630525 rm_s18) (Nat.le_of_ble_eq_true rfl) (fun P630528 F630529 gm_F630529 el_F630529 q630530 dc630531 ds630532 hq630533 => ?_)
                              have hq630537 := hq630533
                              have pl630538 := rPl_row hT630518 ht630357 hf630358 hq630533 pl630521
                              obtain ⟨hk630539, x0630540, x1630541, x22630542, x8630543, h16630544, h18630545, hnu630546, hot630547, h45630548, hf0630549, ⟨hr1630550, hr2630551⟩, hM630552, hBB630553⟩ := hq630533
                              have hk630554 := rSk_of hk630539
                              obtain ⟨nu630555, nu630556, nu630557, nu630558⟩ := hnu630546
                              have hT630559 := hk630554.1
                              have hs630560 := rSk_tr hs630520 hk630554 (by decide) (by decide) (by decide)
                              have kp630561 : F630529 (γ0 9 3) = F590090 (γ0 9 3) := (rSk_F hk630554 (rSk_k hs630520 k0_3 (by decide) (by decide)) (by decide) (by decide)).trans kp630515
                              have kp630562 : F630529 (γ0 9 19) = F625265 (γ0 9 19) := (rSk_F hk630554 (rSk_k hs630520 k0_19 (by decide) (by decide)) (by decide) (by decide)).trans kp630516
                              have r630563 := rSk_F hk630554 ht630356 (by decide) (by decide)
                              have ht630564 : rKd gm_F630529 q590091 10 := rSk_k hk630554 ht630356 (by decide) (by decide)
                              have ht630565 : rKd gm_F630529 q590092 9 := rSk_k hk630554 ht630357 (by decide) (by decide)
                              have hf630566 : gm_F630529 1 q590092 = f := rSk_1 hk630554 ht630357 (by decide) hf630358
                              have ht630567 : rKd gm_F630529 q628689 2 := rSk_k hk630554 ht630333 (by decide) (by decide)
                              have hf630568 : gm_F630529 1 q628689 = f := rSk_1 hk630554 ht630333 (by decide) hf630334
                              have ht630569 : rKd gm_F630529 q630326 1 := rSk_k hk630554 ht630337 (by decide) (by decide)
                              have hf630570 : gm_F630529 1 q630326 = f := rSk_1 hk630554 ht630337 (by decide) hf630338
                              have ht630571 : rKd gm_F630529 q630483 3 := rSk_k hk630554 ht630487 (by decide) (by decide)
                              have hf630572 : gm_F630529 1 q630483 = f := rSk_1 hk630554 ht630487 (by decide) hf630496
                              have mk630573 : mKp (F590090 q590091) (F630529 q590091) := mKp_tr mk630514 (mKp_eq (rSk_F hk630554 ht630356 (by decide) (by decide)))
                              have r630574 := (rSk_s hk630554 ht630357 (by decide)).2.1
                              have r630575 := hot630547 _ (by rw [rc630527.2.1]; decide) (by rw [rc630527.2.1]; decide)
                              have r630576 : g628546.toInt.toNat < gm_F630529 2 (gm_F630529 14 q590092) := by rw [r630574, r630575.1]; exact r630335
                              have r630577 : el_F630529 (gm_F630529 14 q590092) g628546.toInt.toNat = q628689 := by rw [r630574, r630575.2]; exact r630336
                              have he630578 : F630529 q630326 = .inr (20, [.int p630412, .int p630370, .int p630414, .int p630415, .int p630416, .int p630417, .int p630418]) := (rSk_F hk630554 ht630337 (by decide) (by decide)).trans he630510
                              have hm630579 : q630326 ∈ P630528 := RS_m hT630559 ht630569 (by decide)
                              clear bp630485 bp630486 r630494 r630495 rg630524 rm630525 bd630526 rc630527
                              have hm630580 : q590091 ∈ P630528 := RS_m hT630559 ht630564 (by decide)
                              refine rk10_e (show rk_10 gm_F630529 (F630529 q590091) from RS_o hT630559 ht630564) (fun q630582 q630583 p630584 p630585 p630586 p630587 p630588 p630589 p630590 p630591 p630592 p630593 p630594 p630595 p630596 p630597 p630598 he630581 hB630625 ht630599 ht630600 ht630601 ht630602 ht630603 ht630604 ht630605 ht630606 ht630607 ht630608 ht630609 ht630610 ht630611 ht630612 ht630613 ht630614 ht630615 ht630616 ht630617 ht630618 ht630619 ht630620 ht630621 ht630622 hB630626 => ?_)
                              have r630627 : p630586.toInt = p630367.toInt := by have z : p630586 = p630367 := congrArg (fun e => fI e 11) (he630581.symm.trans (r630563.trans he630513)); rw [z]
                              have bp630586 : gB p630586 0 100 := (hB630625.2.2.1)
                              have r630628 : p630589.toInt = z630506.toInt := by have z : p630589 = z630506 := congrArg (fun e => fI e 14) (he630581.symm.trans (r630563.trans he630513)); rw [z]
                              have bp630589 : gB p630589 0 2000 := (hB630625.2.2.2.1)
                              have bp630589' : gB p630589 1 2000 := ⟨by omega, by omega⟩
                              have sz630629 := (rSk_s hk630554 ht630333 (by decide)).2.1
                              have sz630630 := congrArg (gm_F630529 2) sz630629
                              have sz630631 := (hot630547 q630534 (by omega) (by omega)).1
                              rw [hl630535] at sz630631
                              clear hl630536
                              have sz630632 := (hot630547 q630483 (rT0 ht630487 (by decide)) (by rw [show _ = 3 from ht630487]; decide)).1
                              have r630633 := hf0630549.2.2
                              have hB630634 : rBd gm_F630529 el_F630529 f B := hBB630553 B (by omega) hB630332
                              have ht630635 : rKd gm_F630529 q630530 101 := x0630540
                              have r630636 : gm_F630529 8 q630530 < gm_F630529 16 f := rm_x8 x8630543 h16630544 rfl
                              have hph630637 : rPh γ0 el0 f ≤ rPh gm_F630529 el_F630529 f := rm_ph hph630331 hr2630551
                              have pk630638 : rPh gm_F630529 el_F630529 f ≤ 387 * B + 6000 := rm_pk (rM_ge hT630559 ht630565 hf630566).1 (rM_bd hB630634)
                              have hm630639 : q630530 ∈ P630528 := RS_m hT630559 ht630635 (by decide)
                              obtain ⟨p630641, p630642, p630643, p630644, p630645, p630646, p630647, he630640, bp630641, bp630642, bp630645, bp630646, bp630647, r630648, r630649, r630650⟩ := show rkR (F630529 q630530) from RS_o hT630559 ht630635
                              have bp630643 := gB_any p630643
                              have bp630644 := gB_any p630644
                              replace r630648 : gH _ := r630648
                              replace r630649 : gH _ := r630649
                              replace r630650 : gH _ := r630650
                              have r630651 : gm_F630529 7 (gm_F630529 1 q630530) = gm_F630529 7 f := by rw [x1630541]
                              have r630652 : p630646.toInt = 0 := by have z := hf0630549.1; rw [he630640] at z; exact z
                              have bp630646' : gB p630646 0 0 := gB_t0 r630652
                              have r630653 : p630647.toInt = 0 := by have z := hf0630549.2.1; rw [he630640] at z; exact z
                              have bp630647' : gB p630647 0 0 := gB_t0 r630653
                              refine G_widen (cs' := ((rPh gm_F630529 el_F630529 f - rPh γ0 el0 f) / 18)) (sl' := (rPh gm_F630529 el_F630529 f - rPh γ0 el0 f)) (rm_wc hph630331 hr1630550) (rm_ws hph630331 hr2630551) ?_
                              refine G_astore (L' := [(9, .ref q630530), (8, .int z630455), (0, .ref q590091), (1, .ref q590092), (2, .int g628546), (3, .ref q628689), (4, .int g630325), (5, .ref q630326)]) dr_cX17_spill_373 (Nat.le_of_ble_eq_true rfl) rfl ?_
                              refine G_aload 0 dr_cX17_spill_375 rfl ?_
                              refine G_bipush 23 dr_cX17_spill_377 (by decide +kernel) ?_
                              refine Gp_put 0 hm630639 he630640 dr_cX17_spill_379 (gk_X15 D I) (Nat.le_of_ble_eq_true rfl) wr_9_177 rfl rfl rfl (Nat.le_of_ble_eq_true rfl) (fun F630654 e630655 n630656 => ?_)
                              have he630657 : F630654 q630326 = .inr (20, [.int p630412, .int p630370, .int p630414, .int p630415, .int p630416, .int p630417, .int p630418]) := (n630656 q630326 (rn_ty ht630569 ht630635 (by decide))).trans he630578
                              have he630658 : F630654 q590091 = .inr (22, [.ref (gm_F630529 9 0), .ref (gm_F630529 9 1), .ref (gm_F630529 9 2), .ref (gm_F630529 9 3), .ref (gm_F630529 9 4), .ref (gm_F630529 9 5), .ref (gm_F630529 9 6), .ref (gm_F630529 9 7), .ref (gm_F630529 9 8), .int p630584, .int p630585, .int p630586, .int p630587, .int p630588, .int p630589, .ref (gm_F630529 9 15), .ref (gm_F630529 9 16), .ref (gm_F630529 9 17), .ref (gm_F630529 9 18), .ref (gm_F630529 9 19), .ref (gm_F630529 9 20), .ref (gm_F630529 9 21), .ref (gm_F630529 9 22), .int p630590, .int p630591, .int p630592, .int p630593, .int p630594, .ref q630582, .ref (gm_F630529 9 29), .int p630595, .ref (gm_F630529 9 31), .int p630596, .int p630597, .int p630598, .ref q630583]) := (n630656 q590091 (rn_oo he630581 he630640 (by decide))).trans he630581
                              have he630659 : F630654 q630530 = .inr (20, [.int 23, .int p630642, .int p630643, .int p630644, .int p630645, .int p630646, .int p630647]) := e630655
                              have mk630660 : mKp (F590090 q590091) (F630654 q590091) := mKp_tr mk630573 (mKp_eq (n630656 q590091 (rn_ty ht630564 ht630635 (by decide))))
                              have kp630661 : F630654 (γ0 9 3) = F590090 (γ0 9 3) := (n630656 (γ0 9 3) (rn_ty (rSk_k hs630560 k0_3 (by decide) (by decide)) ht630635 (by decide))).trans kp630561
                              have kp630662 : F630654 (γ0 9 19) = F625265 (γ0 9 19) := (n630656 (γ0 9 19) (rn_ty (rSk_k hs630560 k0_19 (by decide) (by decide)) ht630635 (by decide))).trans kp630562
                              have fq630663 : F630654 q630530 = cF (F630529 q630530) 0 (.int 23) := by rw [he630659, he630640]; rfl
                              refine G_aload 0 dr_cX17_spill_382 rfl ?_
                              refine G_iload 1 dr_cX17_spill_384 rfl ?_
                              refine Gp_put 4 hm630639 he630659 dr_cX17_spill_386 (gk_X15 D I) (Nat.le_of_ble_eq_true rfl) wr_9_193 rfl rfl rfl (Nat.le_of_ble_eq_true rfl) (fun F630664 e630665 n630666 => ?_)
                              have he630667 : F630664 q630326 = .inr (20, [.int p630412, .int p630370, .int p630414, .int p630415, .int p630416, .int p630417, .int p630418]) := (n630666 q630326 (rn_ty ht630569 ht630635 (by decide))).trans he630657
                              have he630668 : F630664 q590091 = .inr (22, [.ref (gm_F630529 9 0), .ref (gm_F630529 9 1), .ref (gm_F630529 9 2), .ref (gm_F630529 9 3), .ref (gm_F630529 9 4), .ref (gm_F630529 9 5), .ref (gm_F630529 9 6), .ref (gm_F630529 9 7), .ref (gm_F630529 9 8), .int p630584, .int p630585, .int p630586, .int p630587, .int p630588, .int p630589, .ref (gm_F630529 9 15), .ref (gm_F630529 9 16), .ref (gm_F630529 9 17), .ref (gm_F630529 9 18), .ref (gm_F630529 9 19), .ref (gm_F630529 9 20), .ref (gm_F630529 9 21), .ref (gm_F630529 9 22), .int p630590, .int p630591, .int p630592, .int p630593, .int p630594, .ref q630582, .ref (gm_F630529 9 29), .int p630595, .ref (gm_F630529 9 31), .int p630596, .int p630597, .int p630598, .ref q630583]) := (n630666 q590091 (rn_oo he630658 he630659 (by decide))).trans he630658
                              have he630669 : F630664 q630530 = .inr (20, [.int 23, .int p630642, .int p630643, .int p630644, .int z630455, .int p630646, .int p630647]) := e630665
                              have mk630670 : mKp (F590090 q590091) (F630664 q590091) := mKp_tr mk630660 (mKp_eq (n630666 q590091 (rn_ty ht630564 ht630635 (by decide))))
                              have n630671 : ∀ b, b ≠ q630530 → F630664 b = F630529 b := fun b hb => (n630666 b hb).trans (n630656 b hb)
                              have kp630672 : F630664 (γ0 9 3) = F590090 (γ0 9 3) := (n630666 (γ0 9 3) (rn_ty (rSk_k hs630560 k0_3 (by decide) (by decide)) ht630635 (by decide))).trans kp630661
                              have kp630673 : F630664 (γ0 9 19) = F625265 (γ0 9 19) := (n630666 (γ0 9 19) (rn_ty (rSk_k hs630560 k0_19 (by decide) (by decide)) ht630635 (by decide))).trans kp630662
                              have fq630674 : F630664 q630530 = cF (F630654 q630530) 4 (.int z630455) := by rw [he630669, he630659]; rfl
                              refine G_aload 0 dr_cX17_spill_389 rfl ?_
                              refine G_aload 7 dr_cX17_spill_391 rfl ?_
                              have fq630675 : fI (F630664 q630326) 1 = p630370 := by rw [he630667]; rfl
                              refine Gp_get 1 hm630579 he630667 dr_cX17_spill_393 (gk_X15 D I) (Nat.le_of_ble_eq_true rfl) wr_9_182 rfl ?_
                              refine Gp_put 2 hm630639 he630669 dr_cX17_spill_396 (gk_X15 D I) (Nat.le_of_ble_eq_true rfl) wr_9_186 rfl rfl rfl (Nat.le_of_ble_eq_true rfl) (fun F630676 e630677 n630678 => ?_)
                              have he630679 : F630676 q630326 = .inr (20, [.int p630412, .int p630370, .int p630414, .int p630415, .int p630416, .int p630417, .int p630418]) := (n630678 q630326 (rn_ty ht630569 ht630635 (by decide))).trans he630667
                              have he630680 : F630676 q590091 = .inr (22, [.ref (gm_F630529 9 0), .ref (gm_F630529 9 1), .ref (gm_F630529 9 2), .ref (gm_F630529 9 3), .ref (gm_F630529 9 4), .ref (gm_F630529 9 5), .ref (gm_F630529 9 6), .ref (gm_F630529 9 7), .ref (gm_F630529 9 8), .int p630584, .int p630585, .int p630586, .int p630587, .int p630588, .int p630589, .ref (gm_F630529 9 15), .ref (gm_F630529 9 16), .ref (gm_F630529 9 17), .ref (gm_F630529 9 18), .ref (gm_F630529 9 19), .ref (gm_F630529 9 20), .ref (gm_F630529 9 21), .ref (gm_F630529 9 22), .int p630590, .int p630591, .int p630592, .int p630593, .int p630594, .ref q630582, .ref (gm_F630529 9 29), .int p630595, .ref (gm_F630529 9 31), .int p630596, .int p630597, .int p630598, .ref q630583]) := (n630678 q590091 (rn_oo he630668 he630669 (by decide))).trans he630668
                              have he630681 : F630676 q630530 = .inr (20, [.int 23, .int p630642, .int p630370, .int p630644, .int z630455, .int p630646, .int p630647]) := e630677
                              have mk630682 : mKp (F590090 q590091) (F630676 q590091) := mKp_tr mk630670 (mKp_eq (n630678 q590091 (rn_ty ht630564 ht630635 (by decide))))
                              have n630683 : ∀ b, b ≠ q630530 → F630676 b = F630529 b := fun b hb => (n630678 b hb).trans (n630671 b hb)
                              have kp630684 : F630676 (γ0 9 3) = F590090 (γ0 9 3) := (n630678 (γ0 9 3) (rn_ty (rSk_k hs630560 k0_3 (by decide) (by decide)) ht630635 (by decide))).trans kp630672
                              have kp630685 : F630676 (γ0 9 19) = F625265 (γ0 9 19) := (n630678 (γ0 9 19) (rn_ty (rSk_k hs630560 k0_19 (by decide) (by decide)) ht630635 (by decide))).trans kp630673
                              have fq630686 : F630676 q630530 = cF (F630664 q630530) 2 (.int p630370) := by rw [he630681, he630669]; rfl
                              refine G_aload 0 dr_cX17_spill_399 rfl ?_
                              refine G_iconst 1 dr_cX17_spill_401 (by decide +kernel) ?_
                              refine Gp_put 5 hm630639 he630681 dr_cX17_spill_402 (gk_X15 D I) (Nat.le_of_ble_eq_true rfl) wr_9_197 rfl rfl rfl (Nat.le_of_ble_eq_true rfl) (fun F630687 e630688 n630689 => ?_)
                              have he630690 : F630687 q630326 = .inr (20, [.int p630412, .int p630370, .int p630414, .int p630415, .int p630416, .int p630417, .int p630418]) := (n630689 q630326 (rn_ty ht630569 ht630635 (by decide))).trans he630679
                              have he630691 : F630687 q590091 = .inr (22, [.ref (gm_F630529 9 0), .ref (gm_F630529 9 1), .ref (gm_F630529 9 2), .ref (gm_F630529 9 3), .ref (gm_F630529 9 4), .ref (gm_F630529 9 5), .ref (gm_F630529 9 6), .ref (gm_F630529 9 7), .ref (gm_F630529 9 8), .int p630584, .int p630585, .int p630586, .int p630587, .int p630588, .int p630589, .ref (gm_F630529 9 15), .ref (gm_F630529 9 16), .ref (gm_F630529 9 17), .ref (gm_F630529 9 18), .ref (gm_F630529 9 19), .ref (gm_F630529 9 20), .ref (gm_F630529 9 21), .ref (gm_F630529 9 22), .int p630590, .int p630591, .int p630592, .int p630593, .int p630594, .ref q630582, .ref (gm_F630529 9 29), .int p630595, .ref (gm_F630529 9 31), .int p630596, .int p630597, .int p630598, .ref q630583]) := (n630689 q590091 (rn_oo he630680 he630681 (by decide))).trans he630680
                              have he630692 : F630687 q630530 = .inr (20, [.int 23, .int p630642, .int p630370, .int p630644, .int z630455, .int 1, .int p630647]) := e630688
                              have mk630693 : mKp (F590090 q590091) (F630687 q590091) := mKp_tr mk630682 (mKp_eq (n630689 q590091 (rn_ty ht630564 ht630635 (by decide))))
                              have n630694 : ∀ b, b ≠ q630530 → F630687 b = F630529 b := fun b hb => (n630689 b hb).trans (n630683 b hb)
                              have kp630695 : F630687 (γ0 9 3) = F590090 (γ0 9 3) := (n630689 (γ0 9 3) (rn_ty (rSk_k hs630560 k0_3 (by decide) (by decide)) ht630635 (by decide))).trans kp630684
                              have kp630696 : F630687 (γ0 9 19) = F625265 (γ0 9 19) := (n630689 (γ0 9 19) (rn_ty (rSk_k hs630560 k0_19 (by decide) (by decide)) ht630635 (by decide))).trans kp630685
                              have fq630697 : F630687 q630530 = cF (F630676 q630530) 5 (.int 1) := by rw [he630692, he630681]; rfl
                              obtain ⟨z630698, hz630698⟩ : ∃ z : Int32, z = g630325 + Int32.ofInt 1 := ⟨_, rfl⟩
                              have ez630698 : z630698.toInt = g630325.toInt + 1 := gI_inc hz630698 (by decide) bg630325 (by decide) (by decide)
                              have bz630698 : gB z630698 1 1000002 := ⟨by omega, by omega⟩
                              refine G_iinc (L' := [(4, .int z630698), (9, .ref q630530), (8, .int z630455), (0, .ref q590091), (1, .ref q590092), (2, .int g628546), (3, .ref q628689), (5, .ref q630326)]) z630698 6 dr_cX17_spill_405 rfl hz630698.symm (Nat.le_of_ble_eq_true rfl) rfl ?_
                              refine G_aload_n 6 dr_cX17_spill_408 rfl ?_
                              have hT630699 : RS D I P630528 F630687 gm_F630529 el_F630529 := RS_set hT630559 n630694 ht630635 (by decide) ⟨23, p630642, p630370, p630644, z630455, 1, p630647, he630692, (gB_w (gBl (show Int32.toInt 23 = 23 by decide)) (by decide) (by decide)), bp630642, bz630455', (gB_w (gBl (show Int32.toInt 1 = 1 by decide)) (by decide) (by decide)), (gB_w bp630647' (by decide) (by decide)), (Or.inr (by decide)), (Or.inr bp630370'), (gHe r630650)⟩
                              have hs630701 := rSk_put hs630560 hT630699 n630694 ht630635 (by decide) (by decide) (Or.inr (Or.inl x1630541))
                              have hm630702 : q628689 ∈ P630528 := RS_m hT630699 ht630567 (by decide)
                              obtain ⟨q630704, q630705, p630706, p630707, he630703, ht630714, ht630708, ht630709, ht630710, ht630711, ht630712, bp630706, bp630707, r630713, r630715, r630716⟩ := show rk_2 gm_F630529 q628689 (F630687 q628689) from RS_o hT630699 ht630567
                              have hf630717 : gm_F630529 1 q630704 = f := (show gm_F630529 1 q630704 = gm_F630529 1 q628689 from ht630709).trans hf630568
                              have hf630718 : gm_F630529 1 q630705 = f := (show gm_F630529 1 q630705 = gm_F630529 1 q628689 from ht630711).trans hf630568
                              have r630719 : gm_F630529 6 (gm_F630529 1 q628689) = gm_F630529 6 f := by rw [hf630568]
                              have r630720 : gm_F630529 7 (gm_F630529 1 q628689) = gm_F630529 7 f := by rw [hf630568]
                              have r630721 : gm_F630529 19 (gm_F630529 1 q628689) = gm_F630529 19 f := by rw [hf630568]
                              have r630722 := r630713.resolve_left (by omega)
                              clear r630713
                              have r630723 : gm_F630529 2 (gm_F630529 14 q628689) = gm_F630529 2 q630704 := by rw [ht630714.1]
                              have fq630724 : fR (F630687 q628689) 0 = q630704 := by rw [he630703]; rfl
                              refine Gp_get 0 hm630702 he630703 dr_cX17_spill_409 (gk_X12 D I) (Nat.le_of_ble_eq_true rfl) wr_9_220 rfl ?_
                              refine G_iload 0 dr_cX17_spill_412 rfl ?_
                              refine G_aload 1 dr_cX17_spill_414 rfl ?_
                              have pl630725 := rPl_fr hT630559 ht630565 hf630566 pl630538 (fun b hb _ => n630694 b (rn_ty (show rKd gm_F630529 b 1 from hb) ht630635 (by decide)))
                              have rg630726 := rM_ge hT630699 ht630565 hf630566
                              have rm630727 := rM_bd hB630634
                              have bd630728 := rBd_c hT630699 ht630565 hf630566 hB630634
                              have rc630729 := rc_at hT630699 ht630565 hf630566
                              have r630731 : gm_F630529 14 (el_F630529 (gm_F630529 14 q590092) g628546.toInt.toNat) = q630704 := by rw [r630577]; exact ht630714.1
                              have r630732 := rg630726.2.2 _ r630576
                              rw [r630731] at r630732
                              have r630733 := bd630728.2.2.2 _ r630576
                              rw [r630731] at r630733
                              have r630734 : gm_F630529 7 (gm_F630529 1 q630530) = gm_F630529 7 f := by rw [x1630541]
                              have hx630735 : rk_1 gm_F630529 q630530 (F630687 q630530) := ⟨23, p630642, p630370, p630644, z630455, 1, p630647, he630692, (gB_w (gBl (show Int32.toInt 23 = 23 by decide)) (by decide) (by decide)), bp630642, bz630455', (gB_w (gBl (show Int32.toInt 1 = 1 by decide)) (by decide) (by decide)), (gB_w bp630647' (by decide) (by decide)), (Or.inr (by decide)), (Or.inr bp630370'), (gHe r630650), (Or.inr (by omega)), (Or.inl x22630542)⟩
                              refine Gt_ins (c := q590092) (f := f) hl0 dr_cX17_spill_416 ⟨wr_10_207, wr_1_18, wr_10_210, by decide, rfl, (Nat.le_of_ble_eq_true rfl), (Nat.le_of_ble_eq_true rfl)⟩ wr_10_208 wr_10_209 hT630699 ht630708 hf630717 ht630635 x1630541 x22630542 r630636 (by omega) ht630565 hf630566 r630576 r630731 hx630735 (by omega) (by omega) (Nat.le_trans r630733 (Nat.le_trans hBk (by decide))) (rm_cs hph630637 r630732 rm630727 (by decide)) (rm_sl hph630637 r630732 rm630727 rm_s11) (Nat.le_of_ble_eq_true rfl) (fun P630736 F630730 gm_F630730 el_F630730 dc630737 ds630738 hq630739 => ?_)
                              have hq630740 := hq630739
                              have pl630741 := sp_ins (j1 := ((g630325.toInt : Int).toNat + 1) + 1) hT630699 ht630565 hf630566 hq630739 r630731 (tn_lt (by omega) (by omega)) (tn_le0 (by omega) (by omega)) (by rw [(show z630698.toInt.toNat = ((g630325.toInt : Int).toNat + 1) from tn_eq1 (by omega) (by omega))]; exact pl630725) (nm_sto he630692 (by decide)).1 (nm_sto he630692 (by decide)).2 (tn_ge (show 100 ≤ p630370.toInt by omega)) (congrArg (fun k => k + 1) (show z630698.toInt.toNat = ((g630325.toInt : Int).toNat + 1) from tn_eq1 (by omega) (by omega)).symm)
                              obtain ⟨hk630742, x0630743, h2630744, hel630745, hot630746, h16630747, h18630748, hnu630749, hFx630750, hr630751, hM630752, hBB630753⟩ := hq630739
                              have hk630754 := rSk_of hk630742
                              have r630755 : (fI (F630730 q590092) 3).toInt = (fI (F630687 q590092) 3).toInt := by rw [rSk_F hk630754 ht630565 (by decide) (by decide)]
                              obtain ⟨nu630756, nu630757, nu630758, nu630759⟩ := hnu630749
                              have hT630760 := hk630754.1
                              have hs630761 := rSk_tr hs630701 hk630754 (by decide) (by decide) (by decide)
                              have kp630762 : F630730 (γ0 9 3) = F590090 (γ0 9 3) := (rSk_F hk630754 (rSk_k hs630701 k0_3 (by decide) (by decide)) (by decide) (by decide)).trans kp630695
                              have kp630763 : F630730 (γ0 9 19) = F625265 (γ0 9 19) := (rSk_F hk630754 (rSk_k hs630701 k0_19 (by decide) (by decide)) (by decide) (by decide)).trans kp630696
                              have r630764 := rSk_F hk630754 ht630564 (by decide) (by decide)
                              have ht630765 : rKd gm_F630730 q590091 10 := rSk_k hk630754 ht630564 (by decide) (by decide)
                              have ht630766 : rKd gm_F630730 q590092 9 := rSk_k hk630754 ht630565 (by decide) (by decide)
                              have hf630767 : gm_F630730 1 q590092 = f := rSk_1 hk630754 ht630565 (by decide) hf630566
                              have ht630768 : rKd gm_F630730 q628689 2 := rSk_k hk630754 ht630567 (by decide) (by decide)
                              have hf630769 : gm_F630730 1 q628689 = f := rSk_1 hk630754 ht630567 (by decide) hf630568
                              have ht630770 : rKd gm_F630730 q630326 1 := rSk_k hk630754 ht630569 (by decide) (by decide)
                              have hf630771 : gm_F630730 1 q630326 = f := rSk_1 hk630754 ht630569 (by decide) hf630570
                              have ht630772 : rKd gm_F630730 q630483 3 := rSk_k hk630754 ht630571 (by decide) (by decide)
                              have hf630773 : gm_F630730 1 q630483 = f := rSk_1 hk630754 ht630571 (by decide) hf630572
                              have ht630774 : rKd gm_F630730 q630704 3 := rSk_k hk630754 ht630708 (by decide) (by decide)
                              have hf630775 : gm_F630730 1 q630704 = f := rSk_1 hk630754 ht630708 (by decide) hf630717
                              have mk630776 : mKp (F590090 q590091) (F630730 q590091) := mKp_tr mk630693 (mKp_eq (rSk_F hk630754 ht630564 (by decide) (by decide)))
                              have r630777 := (rSk_s hk630754 ht630565 (by decide)).2.1
                              have r630778 := hot630746 _ (by rw [rc630729.2.1]; decide) (fun q => by rw [q, show _ = 3 from ht630708] at rc630729; exact absurd rc630729.2.1 (by decide))
                              have r630779 : g628546.toInt.toNat < gm_F630730 2 (gm_F630730 14 q590092) := by rw [r630777, r630778.1]; exact r630576
                              have r630780 : el_F630730 (gm_F630730 14 q590092) g628546.toInt.toNat = q628689 := by rw [r630777, r630778.2]; exact r630577
                              have he630781 : F630730 q630326 = .inr (20, [.int p630412, .int p630370, .int p630414, .int p630415, .int p630416, .int p630417, .int p630418]) := (rSk_F hk630754 ht630569 (by decide) (by decide)).trans he630690
                              have hm630782 : q630326 ∈ P630736 := RS_m hT630760 ht630770 (by decide)
                              clear bp630641 bp630642 bp630645 bp630646 bp630647 bp630643 bp630644 bp630706 bp630707 r630715 r630716 rg630726 rm630727 bd630728 rc630729 r630732 r630733
                              clear r630648 r630649 r630650
                              have hm630783 : q590091 ∈ P630736 := RS_m hT630760 ht630765 (by decide)
                              refine rk10_e (show rk_10 gm_F630730 (F630730 q590091) from RS_o hT630760 ht630765) (fun q630785 q630786 p630787 p630788 p630789 p630790 p630791 p630792 p630793 p630794 p630795 p630796 p630797 p630798 p630799 p630800 p630801 he630784 hB630828 ht630802 ht630803 ht630804 ht630805 ht630806 ht630807 ht630808 ht630809 ht630810 ht630811 ht630812 ht630813 ht630814 ht630815 ht630816 ht630817 ht630818 ht630819 ht630820 ht630821 ht630822 ht630823 ht630824 ht630825 hB630829 => ?_)
                              have r630830 : p630789.toInt = p630586.toInt := by have z : p630789 = p630586 := congrArg (fun e => fI e 11) (he630784.symm.trans (r630764.trans he630691)); rw [z]
                              have bp630789 : gB p630789 0 100 := (hB630828.2.2.1)
                              have r630831 : p630792.toInt = p630589.toInt := by have z : p630792 = p630589 := congrArg (fun e => fI e 14) (he630784.symm.trans (r630764.trans he630691)); rw [z]
                              have bp630792 : gB p630792 0 2000 := (hB630828.2.2.2.1)
                              have bp630792' : gB p630792 1 2000 := ⟨by omega, by omega⟩
                              first | have sz630832 := (hot630746 q630483 (rT0 ht630571 (by decide)) (by assumption)).1 | skip
                              have ht630833 : rKd gm_F630730 q630530 1 := x0630743
                              have hB630834 : rBd gm_F630730 el_F630730 f B := hBB630753 B hB630634
                              have hph630835 : rPh γ0 el0 f ≤ rPh gm_F630730 el_F630730 f := rm_ph hph630637 hr630751.2
                              have pk630836 : rPh gm_F630730 el_F630730 f ≤ 387 * B + 6000 := rm_pk (rM_ge hT630760 ht630766 hf630767).1 (rM_bd hB630834)
                              refine G_widen (cs' := ((rPh gm_F630730 el_F630730 f - rPh γ0 el0 f) / 18)) (sl' := (rPh gm_F630730 el_F630730 f - rPh γ0 el0 f)) (rm_wc hph630637 hr630751.1) (rm_ws hph630637 hr630751.2) ?_
                              have r630837 : gm_F630730 14 q628689 = q630704 := ((rSk_s (rSk_of hk630742) ht630567 (by decide)).2.1).trans ht630714.1
                              have sz630838 : gm_F630730 2 (gm_F630730 14 q628689) = gm_F630730 2 q630704 := by rw [r630837]
                              obtain ⟨z630839, hz630839⟩ : ∃ z : Int32, z = z630698 + Int32.ofInt 1 := ⟨_, rfl⟩
                              have ez630839 : z630839.toInt = z630698.toInt + 1 := gI_inc hz630839 (by decide) bz630698 (by decide) (by decide)
                              have bz630839 : gB z630839 2 1000003 := ⟨by omega, by omega⟩
                              refine G_iinc (L' := [(4, .int z630839), (9, .ref q630530), (8, .int z630455), (0, .ref q590091), (1, .ref q590092), (2, .int g628546), (3, .ref q628689), (5, .ref q630326)]) z630839 0 dr_cX17_spill_419 rfl hz630839.symm (Nat.le_of_ble_eq_true rfl) rfl ?_
                              refine G_goto 90 dr_cX17_spill_422 (by decide +kernel) ?_
                              refine G_lv (L' := [(4, .int z630839), (3, .ref q628689), (2, .int g628546), (0, .ref q590091), (1, .ref q590092)]) [0, 6, 5, 3, 4] rfl ?_
                              have ac630840 : (fI (F630730 q590091) 11).toInt = p630789.toInt := by rw [he630784]; rfl
                              have ac630841 : (fI (F630730 q590091) 14).toInt = p630792.toInt := by rw [he630784]; rfl
                              exact ih90_630222 P630736 F630730 gm_F630730 el_F630730 z630839 (gB_w bz630839 (by decide) (by decide)) hT630760 hs630761 hph630835 hB630834 ht630768 hf630769 r630779 r630780 (by omega) (by omega) (by omega) (by omega) (by omega) (by omega) kp630763 (by rw [(show (z630839.toInt : Int).toNat = (((g630325.toInt : Int).toNat + 1) + 1) from tn_eq2 (by omega) (by omega))]; exact pl630741) (by omega) (by omega) kp630762 mk630776 (fun k e1 e2 e3 e4 ht => kt90_630223 k e1 e2 e3 e4 (kj292_630355 k e1 e2 e3 e4 (tl_RModel_spill_90_k4 D I γ0 el0 f P590089 F590090 q590091 F625265 q590092 g628546 q628689 P630327 F630328 gm_F630328 el_F630328 g630325 q630326 p630412 o630431 p630413 f630454 z630455 p630370 F630466 z630506 F630507 P630528 F630529 gm_F630529 el_F630529 q630530 dc630531 ds630532 F630654 F630664 F630676 F630687 z630698 q630704 P630736 F630730 gm_F630730 el_F630730 dc630737 ds630738 z630839 k e1 e2 e3 e4 bg630325 hT630329 hs630330 x630339 x630340 x630341 x630342 x630344 x630345 x630346 x630347 x630348 x630349 x630350 x630352 x630353 x630354 fq630425 bo630431 ht630433 r630441 r630449 fq630450 fq630451 he630453 hz630455 bz630455 r630460 fq630462 r630464 n630468 fq630476 fq630505 ez630506 n630509 fq630517 hq630537 n630656 fq630663 n630666 fq630674 fq630675 n630678 fq630686 n630689 fq630697 ez630698 fq630724 hq630740 ez630839 ht))) (ms_g x630351 (by omega) (by omega) (by omega))
                            · have r630842 : p630370.toInt = 2000 := gj_eq hc630463 (show Int32.toInt 2000 = 2000 by decide)
                              have bp630370' : gB p630370 2000 2000 := ⟨by omega, by omega⟩
                              have hx630843 : tl_RModel_spill_90 D I γ0 el0 f P590089 F590090 q590091 F625265 q590092 g628546 q628689 P628547 F628548 gm_F628548 el_F628548 (0 : Int32) 348 F630328 P630327 gm_F630328 el_F630328 := kt90_630223 348 F630328 P630327 gm_F630328 el_F630328 (kj292_630355 348 F630328 P630327 gm_F630328 el_F630328 (tl_RModel_spill_90_k5 D I γ0 el0 f P590089 F590090 q590091 F625265 q590092 g628546 q628689 P630327 F630328 gm_F630328 el_F630328 g630325 q630326 p630412 o630431 p630413 f630454 z630455 p630370 bg630325 hT630329 hs630330 x630339 x630340 x630341 x630342 x630344 x630345 x630346 x630347 x630348 x630349 x630350 x630352 x630353 x630354 fq630425 bo630431 ht630433 r630441 r630449 fq630450 fq630451 he630453 hz630455 bz630455 r630460 fq630462 r630842))
                              have hx630844 : tl_RModel_spill_73 D I γ0 el0 f P590089 F590090 q590091 F625265 q590092 P625264 F625265 gm_hg625354 el_F625265 (0 : Int32) 348 F630328 P630327 gm_F630328 el_F630328 := kt73_628563 348 F630328 P630327 gm_F630328 el_F630328 (fun R c1 c2 c3 c4 c5 => c3 P628547 F628548 gm_F628548 el_F628548 g628546 p628623 q628620 q628689 p628671 F630328 P630327 gm_F630328 el_F630328 bg628546 hT628549 hs628550 x628553 x628554 x628555 x628556 x628558 x628559 x628560 x628561 x628562 fq628645 r628667 fq628694 hx628690 fq628712 ht628718 hx630843)
                              refine G_iconst 0 dr_cX17_spill_348 (by decide +kernel) ?_
                              exact G_zretA FieldType.boolean dr_cX17_spill_349 rfl rfl (rm_zc pk630359) (rm_zs pk630359) ⟨P630327, F630328, gm_F630328, el_F630328, 0, rfl, rfl, hs630330, (rm_pp hph630331), hB630332, (gB_w (gBl (show Int32.toInt 0 = 0 by decide)) (by decide) (by decide)), (by have qa0 : Int32.toInt 0 = 0 := (by decide); omega), (Or.inl (by decide)), x630353, x630354, (fun R c1 c2 c3 c4 c5 c6 => c3 gm_0 el_0 F625265 P625264 gm_F625265 el_F625265 p625290 gm_hg625354 F630328 P630327 gm_F630328 el_F630328 hγ0 hel0 hx625348 fq625355 hg625354 hx630844)⟩
                          · have r630845 : z630455.toInt < 0 := gj_nleL hc630459 (show Int32.toInt 0 = 0 by decide)
                            have bz630455' : gB z630455 (-1) (-1) := ⟨by omega, by omega⟩
                            refine G_goto 419 dr_cX17_spill_323 (by decide +kernel) ?_
                            have rn630847 : rNx (nSp (cB (F590090 (γ0 9 3))) (cB (F625265 (γ0 9 19)))) (F630328 q630326) := rS2_n he630411 he630411 x630348 (fun _ => Or.inr ⟨rfl, Or.inr (by omega)⟩)
                            have pl630846 := sp_fin x630346 x630347 rn630847 (rfl : (g630325.toInt : Int).toNat + 1 = (g630325.toInt : Int).toNat + 1)
                            obtain ⟨z630848, hz630848⟩ : ∃ z : Int32, z = g630325 + Int32.ofInt 1 := ⟨_, rfl⟩
                            have ez630848 : z630848.toInt = g630325.toInt + 1 := gI_inc hz630848 (by decide) bg630325 (by decide) (by decide)
                            have bz630848 : gB z630848 1 1000002 := ⟨by omega, by omega⟩
                            refine G_iinc (L' := [(4, .int z630848), (0, .ref q590091), (1, .ref q590092), (2, .int g628546), (3, .ref q628689), (5, .ref q630326)]) z630848 4 dr_cX17_spill_419 rfl hz630848.symm (Nat.le_of_ble_eq_true rfl) rfl ?_
                            refine G_goto 90 dr_cX17_spill_422 (by decide +kernel) ?_
                            refine G_lv (L' := [(4, .int z630848), (3, .ref q628689), (2, .int g628546), (0, .ref q590091), (1, .ref q590092)]) [0, 4, 3, 1, 2] rfl ?_
                            have ac630849 : (fI (F630328 q590091) 11).toInt = p630367.toInt := by rw [he630362]; rfl
                            have ac630850 : (fI (F630328 q590091) 14).toInt = p630370.toInt := by rw [he630362]; rfl
                            exact ih90_630222 P630327 F630328 gm_F630328 el_F630328 z630848 (gB_w bz630848 (by decide) (by decide)) hT630329 hs630330 hph630331 hB630332 ht630333 hf630334 r630335 r630336 (by omega) (by omega) (by omega) (by omega) (by omega) (by omega) x630345 (by rw [(show (z630848.toInt : Int).toNat = ((g630325.toInt : Int).toNat + 1) from tn_eq1 (by omega) (by omega))]; exact pl630846) (by omega) (by omega) x630353 x630354 (fun k e1 e2 e3 e4 ht => kt90_630223 k e1 e2 e3 e4 (kj292_630355 k e1 e2 e3 e4 (tl_RModel_spill_90_k6 D I γ0 el0 f P590089 F590090 q590091 F625265 q590092 g628546 q628689 P630327 F630328 gm_F630328 el_F630328 g630325 q630326 p630412 o630431 p630413 f630454 z630455 z630848 k e1 e2 e3 e4 bg630325 hT630329 hs630330 x630339 x630340 x630341 x630342 x630344 x630345 x630346 x630347 x630348 x630349 x630350 x630352 x630353 x630354 fq630425 bo630431 ht630433 r630441 r630449 fq630450 fq630451 he630453 hz630455 bz630455 r630845 ez630848 ht))) (ms_g x630351 (by omega) (by omega) (by omega))
                    have jn236_630882 : ∀ (P630855 : List Nat) (F630856 : Nat → va_E) (gm_F630856 el_F630856 : Nat → Nat → Nat) (g630851 : Int32) (q630852 : Nat) (g630853 : Int32) (g630854 : Int32), gB g630851 0 1000001 → gB g630853 (-1) 1999 → gB g630854 (-1) 1999 → RS D I P630855 F630856 gm_F630856 el_F630856 → rSk f [101] ([1, 3, 5, 6, 8, 9, 101] ++ npk) D I P590089 F590090 γ0 el0 P630855 F630856 gm_F630856 el_F630856 → rPh γ0 el0 f ≤ rPh gm_F630856 el_F630856 f → rBd gm_F630856 el_F630856 f B → rKd gm_F630856 q628689 2 → gm_F630856 1 q628689 = f → g628546.toInt.toNat < gm_F630856 2 (gm_F630856 14 q590092) → el_F630856 (gm_F630856 14 q590092) g628546.toInt.toNat = q628689 → rKd gm_F630856 q630852 1 → gm_F630856 1 q630852 = f → gm_F630856 6 f = γ0 6 f → gm_F630856 18 f = γ0 18 f → ((gm_F630856 7 f : Nat) : Int) = (fI (F630856 q590091) 11).toInt → (fI (F630856 q590091) 11).toInt = (fI (F625265 q590091) 11).toInt → ((gm_F630856 16 f : Nat) : Int) + 2001 ≤ (B : Int) + (fI (F630856 q590091) 14).toInt → 100 ≤ (fI (F630856 q590091) 14).toInt → (F630856 (γ0 9 19) = F625265 (γ0 9 19)) → rPl gm_F630856 el_F630856 F630856 q590092 (gm_F630856 6 f) (spX (cB (F590090 (γ0 9 3))) (cB (F625265 (γ0 9 19))) (g628546.toInt : Int).toNat (g630851.toInt : Int).toNat) → rAt gm_F630856 el_F630856 q590092 (g628546.toInt : Int).toNat (g630851.toInt : Int).toNat = q630852 → rS1 (cB (F590090 (γ0 9 3))) (cB (F625265 (γ0 9 19))) (F630856 q630852) g630853.toInt g630854.toInt → (g630851.toInt : Int) ≤ gm_F630856 2 (gm_F630856 14 q628689) → (g628546.toInt : Int) < gm_F630856 6 f → (gm_F630856 2 (gm_F630856 14 q628689) + 1 - (g630851.toInt : Int).toNat) < n90_630222 + 1 → eO g630851.toInt (gm_F630856 2 (gm_F630856 14 q628689) : Nat) (fI (F630856 q630852) 0).toInt → (F630856 (γ0 9 3) = F590090 (γ0 9 3)) → mKp (F590090 q590091) (F630856 q590091) → (∀ (k : Nat) (e1 : Nat → va_E) (e2 : List Nat) (e3 : Nat → Nat → Nat) (e4 : Nat → Nat → Nat), tj_RModel_spill_90_236 D I γ0 el0 f P590089 F590090 q590091 F625265 q590092 g628546 q628689 P630855 F630856 gm_F630856 el_F630856 g630851 q630852 g630853 g630854 k e1 e2 e3 e4 → tl_RModel_spill_90 D I γ0 el0 f P590089 F590090 q590091 F625265 q590092 g628546 q628689 P630201 F630202 gm_F630202 el_F630202 g630200 k e1 e2 e3 e4) → G (gV D I) l (gRm 9 195 (((387 * B + 6000) - rPh γ0 el0 f) / 18) ((387 * B + 6000) - rPh γ0 el0 f)) (gMA (gV D I) (pg_590099_SpillForgeModel_spill D I γ0 el0 f B P590089 F590090 q590091 q590092) gNA (((387 * B + 6000) - rPh γ0 el0 f) / 18) ((387 * B + 6000) - rPh γ0 el0 f)) ky_590099_SpillForgeModel_spill 236 [(0, .ref q590091), (1, .ref q590092), (2, .int g628546), (3, .ref q628689), (4, .int g630851), (5, .ref q630852), (6, .int g630853), (7, .int g630854)] [] (va_pl P630855 F630856) ((rPh gm_F630856 el_F630856 f - rPh γ0 el0 f) / 18) (rPh gm_F630856 el_F630856 f - rPh γ0 el0 f) := by
                      intro P630855 F630856 gm_F630856 el_F630856 g630851 q630852 g630853 g630854 bg630851 bg630853 bg630854 hT630857 hs630858 hph630859 hB630860 ht630861 hf630862 r630863 r630864 ht630865 hf630866 x630867 x630868 x630869 x630870 x630871 x630872 x630873 x630874 x630875 x630876 x630877 x630878 x630879 x630880 x630881 x630882 kj236_630883
                      clear bp630282 bp630283 r630291 r630292 r630295 r630296 r630297 r630298 r630299 r630306 r630307 r630308 r630310 r630309
                      have ht630884 : rKd gm_F630856 q590091 10 := rSk_k hs630858 hzq590091 (by decide) (by decide)
                      have ht630885 : rKd gm_F630856 q590092 9 := rSk_k hs630858 hzq590092 (by decide) (by decide)
                      have hf630886 : gm_F630856 1 q590092 = f := rSk_1 hs630858 hzq590092 (by decide) hf0
                      have pk630887 : rPh gm_F630856 el_F630856 f ≤ 387 * B + 6000 := rm_pk (rM_ge hT630857 ht630885 hf630886).1 (rM_bd hB630860)
                      have r630888 : 0 < gm_F630856 6 (gm_F630856 1 q590092) := by rw [hf630886]; omega
                      have hm630889 : q590091 ∈ P630855 := RS_m hT630857 ht630884 (by decide)
                      refine rk10_e (show rk_10 gm_F630856 (F630856 q590091) from RS_o hT630857 ht630884) (fun q630891 q630892 p630893 p630894 p630895 p630896 p630897 p630898 p630899 p630900 p630901 p630902 p630903 p630904 p630905 p630906 p630907 he630890 hB630934 ht630908 ht630909 ht630910 ht630911 ht630912 ht630913 ht630914 ht630915 ht630916 ht630917 ht630918 ht630919 ht630920 ht630921 ht630922 ht630923 ht630924 ht630925 ht630926 ht630927 ht630928 ht630929 ht630930 ht630931 hB630935 => ?_)
                      have ac630936 : (fI (F630856 q590091) 11).toInt = p630895.toInt := by rw [he630890]; rfl
                      have bp630895 : gB p630895 0 100 := (hB630934.2.2.1)
                      have ac630937 : (fI (F630856 q590091) 14).toInt = p630898.toInt := by rw [he630890]; rfl
                      have bp630898 : gB p630898 0 2000 := (hB630934.2.2.2.1)
                      have hm630938 : q630852 ∈ P630855 := RS_m hT630857 ht630865 (by decide)
                      obtain ⟨p630940, p630941, p630942, p630943, p630944, p630945, p630946, he630939, bp630940, bp630941, bp630944, bp630945, bp630946, r630947, r630948, r630949, r630950, r630951⟩ := show rk_1 gm_F630856 q630852 (F630856 q630852) from RS_o hT630857 ht630865
                      have bp630942 := gB_any p630942
                      have bp630943 := gB_any p630943
                      replace r630947 : gH _ := r630947
                      replace r630948 : gH _ := r630948
                      replace r630949 : gH _ := r630949
                      replace r630950 : gH _ := r630950
                      replace r630951 : gH _ := r630951
                      have r630952 : gm_F630856 7 (gm_F630856 1 q630852) = gm_F630856 7 f := by rw [hf630866]
                      refine G_iload 7 dr_cX17_spill_236 rfl ?_
                      refine G_if_lt 292 dr_cX17_spill_238 (by decide +kernel) (fun hc630953 => ?_) (fun hc630953 => ?_)
                      · have r630954 : g630854.toInt < 0 := gj_lt hc630953 (show Int32.toInt 0 = 0 by decide)
                        have bg630854' : gB g630854 (-1) (-1) := ⟨by omega, by omega⟩
                        have ac630955 : (fI (F630856 q590091) 11).toInt = p630895.toInt := by rw [he630890]; rfl
                        have ac630956 : (fI (F630856 q590091) 14).toInt = p630898.toInt := by rw [he630890]; rfl
                        refine G_lv (L' := [(0, .ref q590091), (1, .ref q590092), (2, .int g628546), (3, .ref q628689), (4, .int g630851), (5, .ref q630852)]) [0, 1, 2, 3, 4, 5] rfl ?_
                        exact jn292_630354 P630855 F630856 gm_F630856 el_F630856 g630851 q630852 bg630851 hT630857 hs630858 hph630859 hB630860 ht630861 hf630862 r630863 r630864 ht630865 hf630866 (by omega) (by omega) (by omega) (by omega) (by omega) (by omega) x630873 (by exact x630874) (by exact x630875) (rS1_2 x630876 (Or.inl (by omega))) (by omega) (by omega) (ms_j x630879 (by omega) (by omega) (by omega)) (eO_j x630880 (by rw [he630939] <;> rfl) (by rw [he630939] <;> rfl) (by omega)) x630881 x630882 (fun k e1 e2 e3 e4 ht => kj236_630883 k e1 e2 e3 e4 (tl_RModel_spill_90_k7 D I γ0 el0 f P590089 F590090 q590091 F625265 q590092 g628546 q628689 P630855 F630856 gm_F630856 el_F630856 g630851 q630852 g630853 g630854 k e1 e2 e3 e4 bg630851 bg630853 bg630854 hT630857 hs630858 x630867 x630868 x630869 x630870 x630872 x630873 x630874 x630875 x630876 x630877 x630878 x630880 x630881 x630882 r630954 ht))
                      · have r630957 : 0 ≤ g630854.toInt := gj_nlt hc630953 (show Int32.toInt 0 = 0 by decide)
                        have bg630854' : gB g630854 0 1999 := ⟨by omega, by omega⟩
                        refine G_iload 7 dr_cX17_spill_241 rfl ?_
                        refine G_iload 6 dr_cX17_spill_243 rfl ?_
                        refine G_icmp_eq 292 dr_cX17_spill_245 (by decide +kernel) (fun hc630958 => ?_) (fun hc630958 => ?_)
                        · have r630959 : g630854.toInt = g630853.toInt := gC_eq hc630958
                          have bg630853' : gB g630853 0 1999 := ⟨by omega, by omega⟩
                          have ac630960 : (fI (F630856 q590091) 11).toInt = p630895.toInt := by rw [he630890]; rfl
                          have ac630961 : (fI (F630856 q590091) 14).toInt = p630898.toInt := by rw [he630890]; rfl
                          refine G_lv (L' := [(0, .ref q590091), (1, .ref q590092), (2, .int g628546), (3, .ref q628689), (4, .int g630851), (5, .ref q630852)]) [0, 1, 2, 3, 4, 5] rfl ?_
                          exact jn292_630354 P630855 F630856 gm_F630856 el_F630856 g630851 q630852 bg630851 hT630857 hs630858 hph630859 hB630860 ht630861 hf630862 r630863 r630864 ht630865 hf630866 (by omega) (by omega) (by omega) (by omega) (by omega) (by omega) x630873 (by exact x630874) (by exact x630875) (rS1_2 x630876 (Or.inr (Or.inl (by omega)))) (by omega) (by omega) (ms_j x630879 (by omega) (by omega) (by omega)) (eO_j x630880 (by rw [he630939] <;> rfl) (by rw [he630939] <;> rfl) (by omega)) x630881 x630882 (fun k e1 e2 e3 e4 ht => kj236_630883 k e1 e2 e3 e4 (tl_RModel_spill_90_k8 D I γ0 el0 f P590089 F590090 q590091 F625265 q590092 g628546 q628689 P630855 F630856 gm_F630856 el_F630856 g630851 q630852 g630853 g630854 k e1 e2 e3 e4 bg630851 bg630853 bg630854 hT630857 hs630858 x630867 x630868 x630869 x630870 x630872 x630873 x630874 x630875 x630876 x630877 x630878 x630880 x630881 x630882 r630957 r630959 ht))
                        · have r630962 : g630854.toInt ≠ g630853.toInt := gC_ne hc630958
                          refine G_aload_n 0 dr_cX17_spill_248 rfl ?_
                          have fq630963 : fR (F630856 q590091) 19 = (gm_F630856 9 19) := by rw [he630890]; rfl
                          refine Gp_get 19 hm630889 he630890 dr_cX17_spill_249 (gk_X17 D I) (Nat.le_of_ble_eq_true rfl) wr_7_93 rfl ?_
                          refine G_iload 7 dr_cX17_spill_252 rfl ?_
                          have hm630964 : (gm_F630856 9 19) ∈ P630855 := RS_m hT630857 ht630923 (by decide)
                          obtain ⟨f630966, he630965, bf630966⟩ := show rk_21 I (F630856 (gm_F630856 9 19)) from RS_o hT630857 ht630923
                          refine Gp_iald 0 hm630964 he630965 dr_cX17_spill_254 rfl (gB_in bg630854' (by decide) (by decide)) (G_nam fun z630967 hz630967 => ?_)
                          have bz630967 : gB z630967 (-1) 1999 := by rw [hz630967]; exact bf630966 _
                          have c9_630968 : cB (F625265 (γ0 9 19)) = f630966 := by rw [← x630873, ← congrFun (rSk_9 hs630858) 19]; exact cB_of he630965
                          have hs630969 : (cB (F625265 (γ0 9 19)) g630854.toInt.toNat).toInt = z630967.toInt := by rw [c9_630968, hz630967]; rfl
                          refine G_if_lt 292 dr_cX17_spill_255 (by decide +kernel) (fun hc630971 => ?_) (fun hc630971 => ?_)
                          · have r630972 : z630967.toInt < 0 := gj_lt hc630971 (show Int32.toInt 0 = 0 by decide)
                            have bz630967' : gB z630967 (-1) (-1) := ⟨by omega, by omega⟩
                            have ac630973 : (fI (F630856 q590091) 11).toInt = p630895.toInt := by rw [he630890]; rfl
                            have ac630974 : (fI (F630856 q590091) 14).toInt = p630898.toInt := by rw [he630890]; rfl
                            refine G_lv (L' := [(0, .ref q590091), (1, .ref q590092), (2, .int g628546), (3, .ref q628689), (4, .int g630851), (5, .ref q630852)]) [0, 1, 2, 3, 4, 5] rfl ?_
                            exact jn292_630354 P630855 F630856 gm_F630856 el_F630856 g630851 q630852 bg630851 hT630857 hs630858 hph630859 hB630860 ht630861 hf630862 r630863 r630864 ht630865 hf630866 (by omega) (by omega) (by omega) (by omega) (by omega) (by omega) x630873 (by exact x630874) (by exact x630875) (rS1_2 x630876 (Or.inr (Or.inr (by omega)))) (by omega) (by omega) (ms_j x630879 (by omega) (by omega) (by omega)) (eO_j x630880 (by rw [he630939] <;> rfl) (by rw [he630939] <;> rfl) (by omega)) x630881 x630882 (fun k e1 e2 e3 e4 ht => kj236_630883 k e1 e2 e3 e4 (tl_RModel_spill_90_k9 D I γ0 el0 f P590089 F590090 q590091 F625265 q590092 g628546 q628689 P630855 F630856 gm_F630856 el_F630856 g630851 q630852 g630853 g630854 f630966 z630967 k e1 e2 e3 e4 bg630851 bg630853 bg630854 hT630857 hs630858 x630867 x630868 x630869 x630870 x630872 x630873 x630874 x630875 x630876 x630877 x630878 x630880 x630881 x630882 r630957 r630962 fq630963 he630965 hz630967 bz630967 r630972 ht))
                          · have r630975 : 0 ≤ z630967.toInt := gj_nlt hc630971 (show Int32.toInt 0 = 0 by decide)
                            have bz630967' : gB z630967 0 1999 := ⟨by omega, by omega⟩
                            refine G_aload_n 0 dr_cX17_spill_258 rfl ?_
                            refine G_aload_n 1 dr_cX17_spill_259 rfl ?_
                            refine G_aload_n 3 dr_cX17_spill_260 rfl ?_
                            refine G_iload 4 dr_cX17_spill_261 rfl ?_
                            refine G_aload_n 0 dr_cX17_spill_263 rfl ?_
                            refine Gp_get 19 hm630889 he630890 dr_cX17_spill_264 (gk_X17 D I) (Nat.le_of_ble_eq_true rfl) wr_7_93 rfl ?_
                            refine G_iload 7 dr_cX17_spill_267 rfl ?_
                            refine Gp_iald 0 hm630964 he630965 dr_cX17_spill_269 rfl (gB_in bg630854' (by decide) (by decide)) (G_eqi (y := z630967) hz630967.symm ?_)
                            have hm630976 : q628689 ∈ P630855 := RS_m hT630857 ht630861 (by decide)
                            obtain ⟨q630978, q630979, p630980, p630981, he630977, ht630988, ht630982, ht630983, ht630984, ht630985, ht630986, bp630980, bp630981, r630987, r630989, r630990⟩ := show rk_2 gm_F630856 q628689 (F630856 q628689) from RS_o hT630857 ht630861
                            have hf630991 : gm_F630856 1 q630978 = f := (show gm_F630856 1 q630978 = gm_F630856 1 q628689 from ht630983).trans hf630862
                            have hf630992 : gm_F630856 1 q630979 = f := (show gm_F630856 1 q630979 = gm_F630856 1 q628689 from ht630985).trans hf630862
                            have r630993 : gm_F630856 6 (gm_F630856 1 q628689) = gm_F630856 6 f := by rw [hf630862]
                            have r630994 : gm_F630856 7 (gm_F630856 1 q628689) = gm_F630856 7 f := by rw [hf630862]
                            have r630995 : gm_F630856 19 (gm_F630856 1 q628689) = gm_F630856 19 f := by rw [hf630862]
                            have r630996 := r630987.resolve_left (by omega)
                            clear r630987
                            have r630997 : gm_F630856 2 (gm_F630856 14 q628689) = gm_F630856 2 q630978 := by rw [ht630988.1]
                            have hm630998 : q630978 ∈ P630855 := RS_m hT630857 ht630982 (by decide)
                            obtain ⟨⟨p631000, p631001, q631002, he630999, r631003, r631004, r631005, r631007⟩, r631006⟩ := show rk_3 D I gm_F630856 el_F630856 F630856 q630978 from RS_o hT630857 ht630982
                            have bp631000 := gB_any p631000
                            have bp631001 : gB p631001 0 1000000 := ⟨by omega, by omega⟩
                            have r631008 := (spi625351.2.2.2 g630854.toInt.toNat (tn_lt (by omega) (by omega)) (by omega)).2.2
                            have ac631009 : (fI (F630856 q590091) 11).toInt = p630895.toInt := by rw [he630890]; rfl
                            have ac631010 : (fI (F630856 q590091) 14).toInt = p630898.toInt := by rw [he630890]; rfl
                            have rg631011 := rM_ge hT630857 ht630885 hf630886
                            have rm631012 := rM_bd hB630860
                            have bd631013 := rBd_c hT630857 ht630885 hf630886 hB630860
                            have rc631014 := rc_at hT630857 ht630885 hf630886
                            refine Gw_callV (As := [.ref q590092, .ref q628689, .int g630851, .int z630967]) (gV_ok D I) (cg_409800_SpillForgeModel_load l hl0 D I gm_F630856 el_F630856 f B P630855 F630856 q590091 q590092 q628689 g630851 z630967 g628546.toInt.toNat hT630857 ht630884 ht630885 ht630861 hf630886 hB630860 hBk r630863 r630864 hf630862 ⟨by omega, by omega⟩ bz630967' (by omega) (by omega) (by omega) (by omega) (by omega)) dr_cX17_spill_270 ⟨wr_11_67, wr_1_14, wr_11_70, by decide, rfl, (Nat.le_of_ble_eq_true rfl), (Nat.le_of_ble_eq_true rfl)⟩ wr_11_69 wr_p_111 hm630889 he630890 rfl (rm_gc hph630859 pk630887) (rm_gs hph630859 pk630887) (Nat.le_of_ble_eq_true rfl) (fun r631018 w631019 dc631015 ds631016 hp631017 => ?_) (fun _ _ _ _ _ z => z.elim)
                            obtain ⟨P631031, F631032, gm_F631032, el_F631032, o631020, rfl, rfl, hk631033, ⟨hr631034, hr631035⟩, hB631036, bo631020, x631021, x631022, x631023, x631024, x631025, x631026, x631027, x631028, x631029, ht631030⟩ := hp631017
                            have hT631037 := hk631033.1
                            have hs631038 := rSk_tr hs630858 hk631033 (by decide) (by decide) (by decide)
                            have kp631039 : F631032 (γ0 9 3) = F590090 (γ0 9 3) := (rSk_F hk631033 (rSk_k hs630858 k0_3 (by decide) (by decide)) (by decide) (by decide)).trans x630881
                            have kp631040 : F631032 (γ0 9 19) = F625265 (γ0 9 19) := (rSk_F hk631033 (rSk_k hs630858 k0_19 (by decide) (by decide)) (by decide) (by decide)).trans x630873
                            have ht631041 : rKd gm_F631032 q590091 10 := rSk_k hk631033 ht630884 (by decide) (by decide)
                            have ht631042 : rKd gm_F631032 q590092 9 := rSk_k hk631033 ht630885 (by decide) (by decide)
                            have hf631043 : gm_F631032 1 q590092 = f := rSk_1 hk631033 ht630885 (by decide) hf630886
                            have ht631044 : rKd gm_F631032 q628689 2 := rSk_k hk631033 ht630861 (by decide) (by decide)
                            have hf631045 : gm_F631032 1 q628689 = f := rSk_1 hk631033 ht630861 (by decide) hf630862
                            have ht631046 : rKd gm_F631032 q630852 1 := rSk_k hk631033 ht630865 (by decide) (by decide)
                            have hf631047 : gm_F631032 1 q630852 = f := rSk_1 hk631033 ht630865 (by decide) hf630866
                            have ht631048 : rKd gm_F631032 q630978 3 := rSk_k hk631033 ht630982 (by decide) (by decide)
                            have hf631049 : gm_F631032 1 q630978 = f := rSk_1 hk631033 ht630982 (by decide) hf630991
                            have he631050 : F631032 q630852 = .inr (20, [.int p630940, .int p630941, .int p630942, .int p630943, .int p630944, .int p630945, .int p630946]) := (rSk_F hk631033 ht630865 (by decide) (by decide)).trans he630939
                            have hm631051 : q630852 ∈ P631031 := RS_m hT631037 ht631046 (by decide)
                            clear bp630980 bp630981 r630989 r630990 rg631011 rm631012 bd631013 rc631014
                            have mk631052 : mKp (F590090 q590091) (F631032 q590091) := mKp_tr x630882 x631029
                            have hph631053 : rPh γ0 el0 f ≤ rPh gm_F631032 el_F631032 f := rm_ph hph630859 hr631035
                            have pk631054 : rPh gm_F631032 el_F631032 f ≤ 387 * B + 6000 := rm_pk (rM_ge hT631037 ht631042 hf631043).1 (rM_bd hB631036)
                            change G _ _ _ _ _ _ _ (.int o631020 :: _) _ _ _
                            refine G_widen (cs' := ((rPh gm_F631032 el_F631032 f - rPh γ0 el0 f) / 18)) (sl' := (rPh gm_F631032 el_F631032 f - rPh γ0 el0 f)) (rm_wc hph630859 hr631034) (rm_ws hph630859 hr631035) ?_
                            have sz631055 := x631021
                            have r631056 : 0 < gm_F631032 6 (gm_F631032 1 q590092) := by rw [hf631043]; omega
                            have hm631057 : q590091 ∈ P631031 := RS_m hT631037 ht631041 (by decide)
                            refine rk10_e (show rk_10 gm_F631032 (F631032 q590091) from RS_o hT631037 ht631041) (fun q631059 q631060 p631061 p631062 p631063 p631064 p631065 p631066 p631067 p631068 p631069 p631070 p631071 p631072 p631073 p631074 p631075 he631058 hB631102 ht631076 ht631077 ht631078 ht631079 ht631080 ht631081 ht631082 ht631083 ht631084 ht631085 ht631086 ht631087 ht631088 ht631089 ht631090 ht631091 ht631092 ht631093 ht631094 ht631095 ht631096 ht631097 ht631098 ht631099 hB631103 => ?_)
                            have ac631104 : (fI (F631032 q590091) 11).toInt = p631063.toInt := by rw [he631058]; rfl
                            have bp631063 : gB p631063 0 100 := (hB631102.2.2.1)
                            have ac631105 : (fI (F631032 q590091) 14).toInt = p631066.toInt := by rw [he631058]; rfl
                            have bp631066 : gB p631066 0 2000 := (hB631102.2.2.2.1)
                            refine G_istore (L' := [(8, .int o631020), (0, .ref q590091), (1, .ref q590092), (2, .int g628546), (3, .ref q628689), (4, .int g630851), (5, .ref q630852), (6, .int g630853), (7, .int g630854)]) dr_cX17_spill_273 (Nat.le_of_ble_eq_true rfl) rfl ?_
                            refine G_iload 0 dr_cX17_spill_275 rfl ?_
                            refine G_if_ge 282 dr_cX17_spill_277 (by decide +kernel) (fun hc631106 => ?_) (fun hc631106 => ?_)
                            · have r631107 : 0 ≤ o631020.toInt := gj_leL hc631106 (show Int32.toInt 0 = 0 by decide)
                              have bo631020' : gB o631020 0 1999 := ⟨by omega, by omega⟩
                              have pl631109 := sp_ld (x631027.resolve_left (by omega)) x630874 (tn_ge (by omega)) (rfl : ((g630851.toInt : Int).toNat + 1) = (g630851.toInt : Int).toNat + 1)
                              have hp631110 : rAt gm_F631032 el_F631032 q590092 (g628546.toInt : Int).toNat ((g630851.toInt : Int).toNat + 1) = q630852 := ((x631028.resolve_left (by omega)) (g630851.toInt : Int).toNat (Nat.le_refl _)).trans x630875
                              have r631111 := x631025.resolve_left (by omega)
                              have x631025p := PLift.up x631025
                              have x631027p := PLift.up x631027
                              have x631028p := PLift.up x631028
                              clear x631025 x631027 x631028
                              obtain ⟨z631112, hz631112⟩ : ∃ z : Int32, z = g630851 + Int32.ofInt 1 := ⟨_, rfl⟩
                              have ez631112 : z631112.toInt = g630851.toInt + 1 := gI_inc hz631112 (by decide) bg630851 (by decide) (by decide)
                              have bz631112 : gB z631112 1 1000002 := ⟨by omega, by omega⟩
                              refine G_iinc (L' := [(4, .int z631112), (8, .int o631020), (0, .ref q590091), (1, .ref q590092), (2, .int g628546), (3, .ref q628689), (5, .ref q630852), (6, .int g630853), (7, .int g630854)]) z631112 5 dr_cX17_spill_282 rfl hz631112.symm (Nat.le_of_ble_eq_true rfl) rfl ?_
                              refine G_aload 6 dr_cX17_spill_285 rfl ?_
                              refine G_iload 1 dr_cX17_spill_287 rfl ?_
                              refine Gp_put 3 hm631051 he631050 dr_cX17_spill_289 (gk_X15 D I) (Nat.le_of_ble_eq_true rfl) wr_9_190 rfl rfl rfl (Nat.le_of_ble_eq_true rfl) (fun F631113 e631114 n631115 => ?_)
                              have r631116 := rk1_at hT631037 ht631046 he631050
                              have he631117 : F631113 q590091 = .inr (22, [.ref (gm_F631032 9 0), .ref (gm_F631032 9 1), .ref (gm_F631032 9 2), .ref (gm_F631032 9 3), .ref (gm_F631032 9 4), .ref (gm_F631032 9 5), .ref (gm_F631032 9 6), .ref (gm_F631032 9 7), .ref (gm_F631032 9 8), .int p631061, .int p631062, .int p631063, .int p631064, .int p631065, .int p631066, .ref (gm_F631032 9 15), .ref (gm_F631032 9 16), .ref (gm_F631032 9 17), .ref (gm_F631032 9 18), .ref (gm_F631032 9 19), .ref (gm_F631032 9 20), .ref (gm_F631032 9 21), .ref (gm_F631032 9 22), .int p631067, .int p631068, .int p631069, .int p631070, .int p631071, .ref q631059, .ref (gm_F631032 9 29), .int p631072, .ref (gm_F631032 9 31), .int p631073, .int p631074, .int p631075, .ref q631060]) := (n631115 q590091 (rn_oo he631058 he631050 (by decide))).trans he631058
                              have he631118 : F631113 q630852 = .inr (20, [.int p630940, .int p630941, .int p630942, .int o631020, .int p630944, .int p630945, .int p630946]) := e631114
                              have mk631119 : mKp (F590090 q590091) (F631113 q590091) := mKp_tr mk631052 (mKp_eq (n631115 q590091 (rn_ty ht631041 ht631046 (by decide))))
                              have kp631120 : F631113 (γ0 9 3) = F590090 (γ0 9 3) := (n631115 (γ0 9 3) (rn_ty (rSk_k hs631038 k0_3 (by decide) (by decide)) ht631046 (by decide))).trans kp631039
                              have kp631121 : F631113 (γ0 9 19) = F625265 (γ0 9 19) := (n631115 (γ0 9 19) (rn_ty (rSk_k hs631038 k0_19 (by decide) (by decide)) ht631046 (by decide))).trans kp631040
                              have fq631122 : F631113 q630852 = cF (F631032 q630852) 3 (.int o631020) := by rw [he631118, he631050]; rfl
                              have hT631123 : RS D I P631031 F631113 gm_F631032 el_F631032 := RS_set hT631037 n631115 ht631046 (by decide) ⟨p630940, p630941, p630942, o631020, p630944, p630945, p630946, he631118, bp630940, bp630941, bp630944, bp630945, bp630946, (gHe r630947), (gHe r630948), (Or.inr bo631020'), r631116.1, r631116.2⟩
                              have hs631125 := rSk_put hs631038 hT631123 n631115 ht631046 (by decide) (by decide) (Or.inr (Or.inl hf631047))
                              have hm631127 : q628689 ∈ P631031 := RS_m hT631123 ht631044 (by decide)
                              obtain ⟨q631129, q631130, p631131, p631132, he631128, ht631139, ht631133, ht631134, ht631135, ht631136, ht631137, bp631131, bp631132, r631138, r631140, r631141⟩ := show rk_2 gm_F631032 q628689 (F631113 q628689) from RS_o hT631123 ht631044
                              have hf631142 : gm_F631032 1 q631129 = f := (show gm_F631032 1 q631129 = gm_F631032 1 q628689 from ht631134).trans hf631045
                              have hf631143 : gm_F631032 1 q631130 = f := (show gm_F631032 1 q631130 = gm_F631032 1 q628689 from ht631136).trans hf631045
                              have r631144 : gm_F631032 6 (gm_F631032 1 q628689) = gm_F631032 6 f := by rw [hf631045]
                              have r631145 : gm_F631032 7 (gm_F631032 1 q628689) = gm_F631032 7 f := by rw [hf631045]
                              have r631146 : gm_F631032 19 (gm_F631032 1 q628689) = gm_F631032 19 f := by rw [hf631045]
                              have r631147 := r631138.resolve_left (by omega)
                              clear r631138
                              have r631148 : gm_F631032 2 (gm_F631032 14 q628689) = gm_F631032 2 q631129 := by rw [ht631139.1]
                              have pl631126 := sp_put hT631037 ht631042 hf631043 pl631109 n631115 hp631110 (show (g628546.toInt : Int).toNat < gm_F631032 6 f from tn_lt (by omega) (by omega)) (by unfold rwL; rw [x631024.2.2]; exact tn_le1 (by omega) (by omega))
                              have ac631149 : (fI (F631113 q590091) 11).toInt = p631063.toInt := by rw [he631117]; rfl
                              have ac631150 : (fI (F631113 q590091) 14).toInt = p631066.toInt := by rw [he631117]; rfl
                              refine G_lv (L' := [(0, .ref q590091), (1, .ref q590092), (2, .int g628546), (3, .ref q628689), (4, .int z631112), (5, .ref q630852)]) [2, 3, 4, 5, 0, 6] rfl ?_
                              exact jn292_630354 P631031 F631113 gm_F631032 el_F631032 z631112 q630852 ⟨by omega, by omega⟩ hT631123 hs631125 hph631053 hB631036 ht631044 hf631045 x631024.2.1 x631024.2.2 ht631046 hf631047 (by omega) (by omega) (by omega) (by omega) (by omega) (by omega) kp631121 (by rw [(show (z631112.toInt : Int).toNat = ((g630851.toInt : Int).toNat + 1) from tn_eq1 (by omega) (by omega))]; exact pl631126) (by rw [(show (z631112.toInt : Int).toNat = ((g630851.toInt : Int).toNat + 1) from tn_eq1 (by omega) (by omega))]; exact hp631110) (rS1_b he630939 he631118 (by omega) x630876) (by omega) (by omega) (ms_j x630879 (by omega) (by omega) (by omega)) (eO_j x630880 (by rw [he631118] <;> rfl) (by rw [he630939] <;> rfl) (by omega)) kp631120 mk631119 (fun k e1 e2 e3 e4 ht => kj236_630883 k e1 e2 e3 e4 (tl_RModel_spill_90_k10 D I γ0 el0 f P590089 F590090 q590091 F625265 q590092 g628546 q628689 P630855 F630856 gm_F630856 el_F630856 g630851 q630852 g630853 g630854 f630966 z630967 P631031 F631032 gm_F631032 el_F631032 o631020 z631112 F631113 k e1 e2 e3 e4 bg630851 bg630853 bg630854 hT630857 hs630858 x630867 x630868 x630869 x630870 x630872 x630873 x630874 x630875 x630876 x630877 x630878 x630880 x630881 x630882 r630957 r630962 fq630963 he630965 hz630967 bz630967 r630975 hk631033 x631021 x631022 x631023 x631024 x631025p.down x631026 x631027p.down x631028p.down x631029 ht631030 r631107 ez631112 n631115 fq631122 ht))
                            · have r631151 : o631020.toInt < 0 := gj_nleL hc631106 (show Int32.toInt 0 = 0 by decide)
                              have bo631020' : gB o631020 (-1) (-1) := ⟨by omega, by omega⟩
                              have hx631152 : tl_RModel_spill_90 D I γ0 el0 f P590089 F590090 q590091 F625265 q590092 g628546 q628689 P628547 F628548 gm_F628548 el_F628548 (0 : Int32) 280 F631032 P631031 gm_F631032 el_F631032 := kt90_630223 280 F631032 P631031 gm_F631032 el_F631032 (kj236_630883 280 F631032 P631031 gm_F631032 el_F631032 (tl_RModel_spill_90_k11 D I γ0 el0 f P590089 F590090 q590091 F625265 q590092 g628546 q628689 P630855 F630856 gm_F630856 el_F630856 g630851 q630852 g630853 g630854 f630966 z630967 P631031 F631032 gm_F631032 el_F631032 o631020 bg630851 bg630853 bg630854 hT630857 hs630858 x630867 x630868 x630869 x630870 x630872 x630873 x630874 x630875 x630876 x630877 x630878 x630880 x630881 x630882 r630957 r630962 fq630963 he630965 hz630967 bz630967 r630975 hk631033 x631021 x631022 x631023 x631024 x631025 x631026 x631027 x631028 x631029 ht631030 r631151))
                              have hx631153 : tl_RModel_spill_73 D I γ0 el0 f P590089 F590090 q590091 F625265 q590092 P625264 F625265 gm_hg625354 el_F625265 (0 : Int32) 280 F631032 P631031 gm_F631032 el_F631032 := kt73_628563 280 F631032 P631031 gm_F631032 el_F631032 (fun R c1 c2 c3 c4 c5 => c4 P628547 F628548 gm_F628548 el_F628548 g628546 p628623 q628620 q628689 p628671 F631032 P631031 gm_F631032 el_F631032 bg628546 hT628549 hs628550 x628553 x628554 x628555 x628556 x628558 x628559 x628560 x628561 x628562 fq628645 r628667 fq628694 hx628690 fq628712 ht628718 hx631152)
                              refine G_iconst 0 dr_cX17_spill_280 (by decide +kernel) ?_
                              exact G_zretA FieldType.boolean dr_cX17_spill_281 rfl rfl (rm_zc pk631054) (rm_zs pk631054) ⟨P631031, F631032, gm_F631032, el_F631032, 0, rfl, rfl, hs631038, (rm_pp hph631053), hB631036, (gB_w (gBl (show Int32.toInt 0 = 0 by decide)) (by decide) (by decide)), (by have qa0 : Int32.toInt 0 = 0 := (by decide); omega), (Or.inl (by decide)), kp631039, mk631052, (fun R c1 c2 c3 c4 c5 c6 => c4 gm_0 el_0 F625265 P625264 gm_F625265 el_F625265 p625290 gm_hg625354 F631032 P631031 gm_F631032 el_F631032 hγ0 hel0 hx625348 fq625355 hg625354 hx631153)⟩
                    refine G_iload 0 dr_cX17_spill_102 rfl ?_
                    refine G_aload_n 1 dr_cX17_spill_104 rfl ?_
                    refine Gp_get 0 hm630278 he630279 dr_cX17_spill_105 (gk_X12 D I) (Nat.le_of_ble_eq_true rfl) wr_9_220 rfl ?_
                    have fq631154 : p630304.toInt = (gm_F630202 2 q630280 : Int) := by omega
                    refine Gw_callV (As := []) (gV_ok D I) (cp_7_ArrayList_size l hl0 D I P630201 F630202 q630280 p630303 q630305 p630304 hm630301 he630302 (gB_w bp630304 (by decide) (by decide))) dr_cX17_spill_108 ⟨wr_10_200, wr_1_18, wr_9_160, by decide, rfl, (Nat.le_of_ble_eq_true rfl), (Nat.le_of_ble_eq_true rfl)⟩ wr_9_158 wr_9_159 hm630301 he630302 rfl (rm_zc pk630227) (rm_zs pk630227) (Nat.le_of_ble_eq_true rfl) (fun r631158 w631159 dc631155 ds631156 hp631157 => ?_) (fun _ _ _ _ _ z => z.elim)
                    obtain ⟨rfl, rfl, hdc, hds⟩ := hp631157
                    change G _ _ _ _ _ _ _ (.int p630304 :: _) _ _ _
                    refine G_widen (cs' := ((rPh gm_F630202 el_F630202 f - rPh γ0 el0 f) / 18)) (sl' := (rPh gm_F630202 el_F630202 f - rPh γ0 el0 f)) (rm_d0 hdc) (rm_d0 hds) ?_
                    refine G_icmp_ge 129 dr_cX17_spill_111 (by decide +kernel) (fun hc631160 => ?_) (fun hc631160 => ?_)
                    · have r631161 : p630304.toInt ≤ g630200.toInt := gC_le hc631160
                      refine G_aload_n 1 dr_cX17_spill_129 rfl ?_
                      have fq631162 : fR (F630202 q628689) 1 = q630281 := by rw [he630279]; rfl
                      refine Gp_get 1 hm630278 he630279 dr_cX17_spill_130 (gk_X12 D I) (Nat.le_of_ble_eq_true rfl) wr_9_223 rfl ?_
                      have fl631165 : p630304.toInt = gm_F630202 2 q630280 := r630306
                      have hp631163 : rAt gm_F630202 el_F630202 q590092 (g628546.toInt : Int).toNat (g630200.toInt : Int).toNat = q630281 := (rAt_e r630210 ht630290.1 (by omega)).trans ht630290.2.1
                      have hL631164 : (g630200.toInt : Int).toNat ≤ gm_F630202 2 (rwL gm_F630202 el_F630202 q590092 (g628546.toInt : Int).toNat) := by unfold rwL; rw [r630210, ht630290.1]; exact tn_le0 (by omega) (by omega)
                      have hm631166 : q630281 ∈ P630201 := RS_m hT630203 ht630286 (by decide)
                      obtain ⟨p631168, p631169, p631170, p631171, p631172, p631173, p631174, he631167, bp631168, bp631169, bp631172, bp631173, bp631174, r631175, r631176, r631177, r631178, r631179⟩ := show rk_1 gm_F630202 q630281 (F630202 q630281) from RS_o hT630203 ht630286
                      have bp631170 := gB_any p631170
                      have bp631171 := gB_any p631171
                      replace r631175 : gH _ := r631175
                      replace r631176 : gH _ := r631176
                      replace r631177 : gH _ := r631177
                      replace r631178 : gH _ := r631178
                      replace r631179 : gH _ := r631179
                      have r631180 : gm_F630202 7 (gm_F630202 1 q630281) = gm_F630202 7 f := by rw [hf630294]
                      have pl631181 := sp_hd x630218 hp631163 (show (g628546.toInt : Int).toNat < gm_F630202 6 f from tn_lt (by omega) (by omega)) hL631164
                      refine G_astore (L' := [(5, .ref q630281), (4, .int g630200), (3, .ref q628689), (2, .int g628546), (0, .ref q590091), (1, .ref q590092)]) dr_cX17_spill_133 (Nat.le_of_ble_eq_true rfl) rfl ?_
                      refine G_aload 0 dr_cX17_spill_135 rfl ?_
                      have fq631182 : fI (F630202 q630281) 0 = p631168 := by rw [he631167]; rfl
                      have fq631183 : fI (F630202 q630281) 5 = p631173 := by rw [he631167]; rfl
                      refine Gw_callV (As := []) (gV_ok D I) (cp_410173_Row_usesA l hl0 D I P630201 F630202 q630281 p631168 p631169 p631170 p631171 p631172 p631173 p631174 hm631166 he631167 bp631168 bp631169 bp631172 bp631173 bp631174) dr_cX17_spill_137 ⟨wr_10_192, wr_1_39, wr_10_195, by decide, rfl, (Nat.le_of_ble_eq_true rfl), (Nat.le_of_ble_eq_true rfl)⟩ wr_10_193 wr_10_194 hm631166 he631167 rfl (rm_zc pk630227) (rm_zs pk630227) (Nat.le_of_ble_eq_true rfl) (fun r631187 w631188 dc631184 ds631185 hp631186 => ?_) (fun _ _ _ _ _ z => z.elim)
                      obtain ⟨o631189, rfl, rfl, hdc, hds, bo631189, x631190, ht631191⟩ := hp631186
                      change G _ _ _ _ _ _ _ (.int o631189 :: _) _ _ _
                      refine G_widen (cs' := ((rPh gm_F630202 el_F630202 f - rPh γ0 el0 f) / 18)) (sl' := (rPh gm_F630202 el_F630202 f - rPh γ0 el0 f)) (rm_d0 hdc) (rm_d0 hds) ?_
                      refine G_if_eq 151 dr_cX17_spill_140 (by decide +kernel) (fun hc631192 => ?_) (fun hc631192 => ?_)
                      · have r631193 : o631189.toInt = 0 := gj_eq hc631192 (show Int32.toInt 0 = 0 by decide)
                        have bo631189' : gB o631189 0 0 := gB_t0 r631193
                        refine G_iconst (-1) dr_cX17_spill_151 (by decide +kernel) ?_
                        refine G_istore (L' := [(6, .int (-1)), (5, .ref q630281), (4, .int g630200), (3, .ref q628689), (2, .int g628546), (0, .ref q590091), (1, .ref q590092)]) dr_cX17_spill_152 (Nat.le_of_ble_eq_true rfl) rfl ?_
                        refine G_aload 1 dr_cX17_spill_154 rfl ?_
                        have fq631194 : fI (F630202 q630281) 6 = p631174 := by rw [he631167]; rfl
                        refine Gw_callV (As := []) (gV_ok D I) (cp_410197_Row_usesB l hl0 D I P630201 F630202 q630281 p631168 p631169 p631170 p631171 p631172 p631173 p631174 hm631166 he631167 bp631168 bp631169 bp631172 bp631173 bp631174) dr_cX17_spill_156 ⟨wr_10_196, wr_1_39, wr_10_199, by decide, rfl, (Nat.le_of_ble_eq_true rfl), (Nat.le_of_ble_eq_true rfl)⟩ wr_10_197 wr_10_198 hm631166 he631167 rfl (rm_zc pk630227) (rm_zs pk630227) (Nat.le_of_ble_eq_true rfl) (fun r631198 w631199 dc631195 ds631196 hp631197 => ?_) (fun _ _ _ _ _ z => z.elim)
                        obtain ⟨o631200, rfl, rfl, hdc, hds, bo631200, x631201, ht631202⟩ := hp631197
                        change G _ _ _ _ _ _ _ (.int o631200 :: _) _ _ _
                        refine G_widen (cs' := ((rPh gm_F630202 el_F630202 f - rPh γ0 el0 f) / 18)) (sl' := (rPh gm_F630202 el_F630202 f - rPh γ0 el0 f)) (rm_d0 hdc) (rm_d0 hds) ?_
                        refine G_if_eq 170 dr_cX17_spill_159 (by decide +kernel) (fun hc631203 => ?_) (fun hc631203 => ?_)
                        · have r631204 : o631200.toInt = 0 := gj_eq hc631203 (show Int32.toInt 0 = 0 by decide)
                          have bo631200' : gB o631200 0 0 := gB_t0 r631204
                          refine G_iconst (-1) dr_cX17_spill_170 (by decide +kernel) ?_
                          refine G_istore (L' := [(7, .int (-1)), (6, .int (-1)), (5, .ref q630281), (4, .int g630200), (3, .ref q628689), (2, .int g628546), (0, .ref q590091), (1, .ref q590092)]) dr_cX17_spill_171 (Nat.le_of_ble_eq_true rfl) rfl ?_
                          refine G_iload 1 dr_cX17_spill_173 rfl ?_
                          refine G_if_lt 236 dr_cX17_spill_175 (by decide +kernel) (fun _ => ?_) (fun hc => absurd hc (by decide))
                          have ac631205 : (fI (F630202 q590091) 11).toInt = p630235.toInt := by rw [he630230]; rfl
                          have ac631206 : (fI (F630202 q590091) 14).toInt = p630238.toInt := by rw [he630230]; rfl
                          refine G_lv (L' := [(0, .ref q590091), (1, .ref q590092), (2, .int g628546), (3, .ref q628689), (4, .int g630200), (5, .ref q630281), (6, .int (-1)), (7, .int (-1))]) [6, 7, 5, 4, 3, 2, 1, 0] rfl ?_
                          exact jn236_630882 P630201 F630202 gm_F630202 el_F630202 g630200 q630281 (-1) (-1) (gB_w bg630200' (by decide) (by decide)) (gB_w (gBl (show Int32.toInt (-1) = (-1) by decide)) (by decide) (by decide)) (gB_w (gBl (show Int32.toInt (-1) = (-1) by decide)) (by decide) (by decide)) hT630203 hs630204 hph630205 hB630206 ht630207 hf630208 r630209 r630210 ht630286 hf630294 (by have qa0 : Int32.toInt (-1) = (-1) := (by decide); omega) (by have qa0 : Int32.toInt (-1) = (-1) := (by decide); omega) (by have qa0 : Int32.toInt (-1) = (-1) := (by decide); omega) (by have qa0 : Int32.toInt (-1) = (-1) := (by decide); omega) (by have qa0 : Int32.toInt (-1) = (-1) := (by decide); omega) (by have qa0 : Int32.toInt (-1) = (-1) := (by decide); omega) x630217 (by exact pl631181.1) (by exact hp631163) (rS1_of he631167 he631167 pl631181.2 (fun h1 h2 h3 h4 => (uA_0 x631190 (by omega) h1 h2 h3 h4).elim) (fun h1 h2 h3 => (uB_0 x631201 (by omega) h1 h2 h3).elim)) (by have qa0 : Int32.toInt (-1) = (-1) := (by decide); omega) (by have qa0 : Int32.toInt (-1) = (-1) := (by decide); omega) (ms_j hm90_630222 (by omega) (by omega) (by omega)) (eO_c (op := p631168.toInt) (by rw [he631167] <;> rfl) (Or.inr ((gHe r631179).resolve_left (fun z => absurd (ht630288.2.symm.trans z) (by decide))))) x630221 x630222 (fun k e1 e2 e3 e4 ht => tl_RModel_spill_90_k12 D I γ0 el0 f P590089 F590090 q590091 F625265 q590092 g628546 q628689 P630201 F630202 gm_F630202 el_F630202 g630200 q630280 p630304 q630281 p631168 p631173 o631189 p631174 o631200 k e1 e2 e3 e4 bg630200 hT630203 hs630204 x630211 x630212 x630213 x630214 x630216 x630217 x630218 x630219 x630220 x630221 x630222 fq630300 fq630311 fq630312 r630324 fq631154 r631161 fq631162 fq631182 fq631183 bo631189 ht631191 r631193 fq631194 bo631200 ht631202 r631204 ht)
                        · have r631207 : o631200.toInt ≠ 0 := gj_neq hc631203 (show Int32.toInt 0 = 0 by decide)
                          have bo631200' : gB o631200 1 1 := gB_t1 bo631200 r631207
                          refine G_aload 1 dr_cX17_spill_162 rfl ?_
                          have fq631208 : fI (F630202 q630281) 3 = p631171 := by rw [he631167]; rfl
                          refine Gp_get 3 hm631166 he631167 dr_cX17_spill_164 (gk_X15 D I) (Nat.le_of_ble_eq_true rfl) wr_9_190 rfl ?_
                          have rb631209 : gB p631171 0 1999 := (gHe r631177).resolve_left (by have z := (uB_1 x631201 (by omega)).2.2; omega)
                          refine G_goto 171 dr_cX17_spill_167 (by decide +kernel) ?_
                          refine G_istore (L' := [(7, .int p631171), (6, .int (-1)), (5, .ref q630281), (4, .int g630200), (3, .ref q628689), (2, .int g628546), (0, .ref q590091), (1, .ref q590092)]) dr_cX17_spill_171 (Nat.le_of_ble_eq_true rfl) rfl ?_
                          refine G_iload 1 dr_cX17_spill_173 rfl ?_
                          refine G_if_lt 236 dr_cX17_spill_175 (by decide +kernel) (fun _ => ?_) (fun hc => absurd hc (by decide))
                          have ac631210 : (fI (F630202 q590091) 11).toInt = p630235.toInt := by rw [he630230]; rfl
                          have ac631211 : (fI (F630202 q590091) 14).toInt = p630238.toInt := by rw [he630230]; rfl
                          refine G_lv (L' := [(0, .ref q590091), (1, .ref q590092), (2, .int g628546), (3, .ref q628689), (4, .int g630200), (5, .ref q630281), (6, .int (-1)), (7, .int p631171)]) [6, 7, 5, 4, 3, 2, 1, 0] rfl ?_
                          exact jn236_630882 P630201 F630202 gm_F630202 el_F630202 g630200 q630281 (-1) p631171 (gB_w bg630200' (by decide) (by decide)) (gB_w (gBl (show Int32.toInt (-1) = (-1) by decide)) (by decide) (by decide)) (gB_w rb631209 (by decide) (by decide)) hT630203 hs630204 hph630205 hB630206 ht630207 hf630208 r630209 r630210 ht630286 hf630294 (by have qa0 : Int32.toInt (-1) = (-1) := (by decide); omega) (by have qa0 : Int32.toInt (-1) = (-1) := (by decide); omega) (by have qa0 : Int32.toInt (-1) = (-1) := (by decide); omega) (by have qa0 : Int32.toInt (-1) = (-1) := (by decide); omega) (by have qa0 : Int32.toInt (-1) = (-1) := (by decide); omega) (by have qa0 : Int32.toInt (-1) = (-1) := (by decide); omega) x630217 (by exact pl631181.1) (by exact hp631163) (rS1_of he631167 he631167 pl631181.2 (fun h1 h2 h3 h4 => (uA_0 x631190 (by omega) h1 h2 h3 h4).elim) (fun _ _ _ => Or.inr ⟨rfl, rfl, by omega, Or.inl (by have qa : Int32.toInt (-1) = -1 := (by decide); omega)⟩)) (by have qa0 : Int32.toInt (-1) = (-1) := (by decide); omega) (by have qa0 : Int32.toInt (-1) = (-1) := (by decide); omega) (ms_j hm90_630222 (by omega) (by omega) (by omega)) (eO_c (op := p631168.toInt) (by rw [he631167] <;> rfl) (Or.inr ((gHe r631179).resolve_left (fun z => absurd (ht630288.2.symm.trans z) (by decide))))) x630221 x630222 (fun k e1 e2 e3 e4 ht => tl_RModel_spill_90_k13 D I γ0 el0 f P590089 F590090 q590091 F625265 q590092 g628546 q628689 P630201 F630202 gm_F630202 el_F630202 g630200 q630280 p630304 q630281 p631168 p631173 o631189 p631174 o631200 p631171 k e1 e2 e3 e4 bg630200 hT630203 hs630204 x630211 x630212 x630213 x630214 x630216 x630217 x630218 x630219 x630220 x630221 x630222 fq630300 fq630311 fq630312 r630324 fq631154 r631161 fq631162 fq631182 fq631183 bo631189 ht631191 r631193 fq631194 bo631200 ht631202 r631207 fq631208 ht)
                      · have r631212 : o631189.toInt ≠ 0 := gj_neq hc631192 (show Int32.toInt 0 = 0 by decide)
                        have bo631189' : gB o631189 1 1 := gB_t1 bo631189 r631212
                        refine G_aload 0 dr_cX17_spill_143 rfl ?_
                        have fq631213 : fI (F630202 q630281) 2 = p631170 := by rw [he631167]; rfl
                        refine Gp_get 2 hm631166 he631167 dr_cX17_spill_145 (gk_X15 D I) (Nat.le_of_ble_eq_true rfl) wr_9_186 rfl ?_
                        have rb631214 : gB p631170 0 1999 := (gHe r631176).resolve_left (by have z := (uA_1 x631190 (by omega)).2.2.2; omega)
                        refine G_goto 152 dr_cX17_spill_148 (by decide +kernel) ?_
                        refine G_istore (L' := [(6, .int p631170), (5, .ref q630281), (4, .int g630200), (3, .ref q628689), (2, .int g628546), (0, .ref q590091), (1, .ref q590092)]) dr_cX17_spill_152 (Nat.le_of_ble_eq_true rfl) rfl ?_
                        refine G_aload 1 dr_cX17_spill_154 rfl ?_
                        have fq631215 : fI (F630202 q630281) 6 = p631174 := by rw [he631167]; rfl
                        refine Gw_callV (As := []) (gV_ok D I) (cp_410197_Row_usesB l hl0 D I P630201 F630202 q630281 p631168 p631169 p631170 p631171 p631172 p631173 p631174 hm631166 he631167 bp631168 bp631169 bp631172 bp631173 bp631174) dr_cX17_spill_156 ⟨wr_10_196, wr_1_39, wr_10_199, by decide, rfl, (Nat.le_of_ble_eq_true rfl), (Nat.le_of_ble_eq_true rfl)⟩ wr_10_197 wr_10_198 hm631166 he631167 rfl (rm_zc pk630227) (rm_zs pk630227) (Nat.le_of_ble_eq_true rfl) (fun r631219 w631220 dc631216 ds631217 hp631218 => ?_) (fun _ _ _ _ _ z => z.elim)
                        obtain ⟨o631221, rfl, rfl, hdc, hds, bo631221, x631222, ht631223⟩ := hp631218
                        change G _ _ _ _ _ _ _ (.int o631221 :: _) _ _ _
                        refine G_widen (cs' := ((rPh gm_F630202 el_F630202 f - rPh γ0 el0 f) / 18)) (sl' := (rPh gm_F630202 el_F630202 f - rPh γ0 el0 f)) (rm_d0 hdc) (rm_d0 hds) ?_
                        refine G_if_eq 170 dr_cX17_spill_159 (by decide +kernel) (fun hc631224 => ?_) (fun hc631224 => ?_)
                        · have r631225 : o631221.toInt = 0 := gj_eq hc631224 (show Int32.toInt 0 = 0 by decide)
                          have bo631221' : gB o631221 0 0 := gB_t0 r631225
                          refine G_iconst (-1) dr_cX17_spill_170 (by decide +kernel) ?_
                          refine G_istore (L' := [(7, .int (-1)), (6, .int p631170), (5, .ref q630281), (4, .int g630200), (3, .ref q628689), (2, .int g628546), (0, .ref q590091), (1, .ref q590092)]) dr_cX17_spill_171 (Nat.le_of_ble_eq_true rfl) rfl ?_
                          refine G_iload 1 dr_cX17_spill_173 rfl ?_
                          refine G_if_lt 236 dr_cX17_spill_175 (by decide +kernel) (fun hc => absurd (show False by have := gj_lt hc (show Int32.toInt 0 = 0 by decide); omega) not_false) (fun _ => ?_)
                          refine G_aload_n 6 dr_cX17_spill_178 rfl ?_
                          have fq631226 : fR (F630202 q590091) 19 = (gm_F630202 9 19) := by rw [he630230]; rfl
                          refine Gp_get 19 hm630229 he630230 dr_cX17_spill_179 (gk_X17 D I) (Nat.le_of_ble_eq_true rfl) wr_7_93 rfl ?_
                          refine G_iload 1 dr_cX17_spill_182 rfl ?_
                          have hm631227 : (gm_F630202 9 19) ∈ P630201 := RS_m hT630203 ht630263 (by decide)
                          obtain ⟨f631229, he631228, bf631229⟩ := show rk_21 I (F630202 (gm_F630202 9 19)) from RS_o hT630203 ht630263
                          refine Gp_iald 0 hm631227 he631228 dr_cX17_spill_184 rfl (gB_in rb631214 (by decide) (by decide)) (G_nam fun z631230 hz631230 => ?_)
                          have bz631230 : gB z631230 (-1) 1999 := by rw [hz631230]; exact bf631229 _
                          have c9_631231 : cB (F625265 (γ0 9 19)) = f631229 := by rw [← x630217, ← congrFun (rSk_9 hs630204) 19]; exact cB_of he631228
                          have hs631232 : (cB (F625265 (γ0 9 19)) p631170.toInt.toNat).toInt = z631230.toInt := by rw [c9_631231, hz631230]; rfl
                          refine G_if_lt 236 dr_cX17_spill_185 (by decide +kernel) (fun hc631234 => ?_) (fun hc631234 => ?_)
                          · have r631235 : z631230.toInt < 0 := gj_lt hc631234 (show Int32.toInt 0 = 0 by decide)
                            have bz631230' : gB z631230 (-1) (-1) := ⟨by omega, by omega⟩
                            have ac631236 : (fI (F630202 q590091) 11).toInt = p630235.toInt := by rw [he630230]; rfl
                            have ac631237 : (fI (F630202 q590091) 14).toInt = p630238.toInt := by rw [he630230]; rfl
                            refine G_lv (L' := [(0, .ref q590091), (1, .ref q590092), (2, .int g628546), (3, .ref q628689), (4, .int g630200), (5, .ref q630281), (6, .int p631170), (7, .int (-1))]) [6, 7, 5, 4, 3, 2, 1, 0] rfl ?_
                            exact jn236_630882 P630201 F630202 gm_F630202 el_F630202 g630200 q630281 p631170 (-1) (gB_w bg630200' (by decide) (by decide)) (gB_w rb631214 (by decide) (by decide)) (gB_w (gBl (show Int32.toInt (-1) = (-1) by decide)) (by decide) (by decide)) hT630203 hs630204 hph630205 hB630206 ht630207 hf630208 r630209 r630210 ht630286 hf630294 (by have qa0 : Int32.toInt (-1) = (-1) := (by decide); omega) (by have qa0 : Int32.toInt (-1) = (-1) := (by decide); omega) (by have qa0 : Int32.toInt (-1) = (-1) := (by decide); omega) (by have qa0 : Int32.toInt (-1) = (-1) := (by decide); omega) (by have qa0 : Int32.toInt (-1) = (-1) := (by decide); omega) (by have qa0 : Int32.toInt (-1) = (-1) := (by decide); omega) x630217 (by exact pl631181.1) (by exact hp631163) (rS1_of he631167 he631167 pl631181.2 (fun _ _ _ _ => Or.inr ⟨rfl, by omega⟩) (fun h1 h2 h3 => (uB_0 x631222 (by omega) h1 h2 h3).elim)) (by have qa0 : Int32.toInt (-1) = (-1) := (by decide); omega) (by have qa0 : Int32.toInt (-1) = (-1) := (by decide); omega) (ms_j hm90_630222 (by omega) (by omega) (by omega)) (eO_c (op := p631168.toInt) (by rw [he631167] <;> rfl) (Or.inr ((gHe r631179).resolve_left (fun z => absurd (ht630288.2.symm.trans z) (by decide))))) x630221 x630222 (fun k e1 e2 e3 e4 ht => tl_RModel_spill_90_k14 D I γ0 el0 f P590089 F590090 q590091 F625265 q590092 g628546 q628689 P630201 F630202 gm_F630202 el_F630202 g630200 q630280 p630304 q630281 p631168 p631173 o631189 p631170 p631174 o631221 f631229 z631230 k e1 e2 e3 e4 bg630200 hT630203 hs630204 x630211 x630212 x630213 x630214 x630216 x630217 x630218 x630219 x630220 x630221 x630222 fq630300 fq630311 fq630312 r630324 fq631154 r631161 fq631162 fq631182 fq631183 bo631189 ht631191 r631212 fq631213 fq631215 bo631221 ht631223 r631225 fq631226 he631228 hz631230 bz631230 r631235 ht)
                          · have r631238 : 0 ≤ z631230.toInt := gj_nlt hc631234 (show Int32.toInt 0 = 0 by decide)
                            have bz631230' : gB z631230 0 1999 := ⟨by omega, by omega⟩
                            refine G_aload_n 6 dr_cX17_spill_188 rfl ?_
                            refine G_aload_n 7 dr_cX17_spill_189 rfl ?_
                            refine G_aload_n 4 dr_cX17_spill_190 rfl ?_
                            refine G_iload 3 dr_cX17_spill_191 rfl ?_
                            refine G_aload_n 6 dr_cX17_spill_193 rfl ?_
                            refine Gp_get 19 hm630229 he630230 dr_cX17_spill_194 (gk_X17 D I) (Nat.le_of_ble_eq_true rfl) wr_7_93 rfl ?_
                            refine G_iload 1 dr_cX17_spill_197 rfl ?_
                            refine Gp_iald 0 hm631227 he631228 dr_cX17_spill_199 rfl (gB_in rb631214 (by decide) (by decide)) (G_eqi (y := z631230) hz631230.symm ?_)
                            have r631239 := (spi625351.2.2.2 p631170.toInt.toNat (tn_lt (by omega) (by omega)) (by omega)).2.2
                            have ac631240 : (fI (F630202 q590091) 11).toInt = p630235.toInt := by rw [he630230]; rfl
                            have ac631241 : (fI (F630202 q590091) 14).toInt = p630238.toInt := by rw [he630230]; rfl
                            have rg631242 := rM_ge hT630203 ht630225 hf630226
                            have rm631243 := rM_bd hB630206
                            have bd631244 := rBd_c hT630203 ht630225 hf630226 hB630206
                            have rc631245 := rc_at hT630203 ht630225 hf630226
                            refine Gw_callV (As := [.ref q590092, .ref q628689, .int g630200, .int z631230]) (gV_ok D I) (cg_409800_SpillForgeModel_load l hl0 D I gm_F630202 el_F630202 f B P630201 F630202 q590091 q590092 q628689 g630200 z631230 g628546.toInt.toNat hT630203 ht630224 ht630225 ht630207 hf630226 hB630206 hBk r630209 r630210 hf630208 bg630200' bz631230' (by have qa0 : Int32.toInt (-1) = (-1) := (by decide); omega) (by have qa0 : Int32.toInt (-1) = (-1) := (by decide); omega) (by have qa0 : Int32.toInt (-1) = (-1) := (by decide); omega) (by have qa0 : Int32.toInt (-1) = (-1) := (by decide); omega) (by have qa0 : Int32.toInt (-1) = (-1) := (by decide); omega)) dr_cX17_spill_200 ⟨wr_11_67, wr_1_14, wr_11_70, by decide, rfl, (Nat.le_of_ble_eq_true rfl), (Nat.le_of_ble_eq_true rfl)⟩ wr_11_69 wr_p_111 hm630229 he630230 rfl (rm_gc hph630205 pk630227) (rm_gs hph630205 pk630227) (Nat.le_of_ble_eq_true rfl) (fun r631249 w631250 dc631246 ds631247 hp631248 => ?_) (fun _ _ _ _ _ z => z.elim)
                            obtain ⟨P631262, F631263, gm_F631263, el_F631263, o631251, rfl, rfl, hk631264, ⟨hr631265, hr631266⟩, hB631267, bo631251, x631252, x631253, x631254, x631255, x631256, x631257, x631258, x631259, x631260, ht631261⟩ := hp631248
                            have hT631268 := hk631264.1
                            have hs631269 := rSk_tr hs630204 hk631264 (by decide) (by decide) (by decide)
                            have kp631270 : F631263 (γ0 9 3) = F590090 (γ0 9 3) := (rSk_F hk631264 (rSk_k hs630204 k0_3 (by decide) (by decide)) (by decide) (by decide)).trans x630221
                            have kp631271 : F631263 (γ0 9 19) = F625265 (γ0 9 19) := (rSk_F hk631264 (rSk_k hs630204 k0_19 (by decide) (by decide)) (by decide) (by decide)).trans x630217
                            have ht631272 : rKd gm_F631263 q590091 10 := rSk_k hk631264 ht630224 (by decide) (by decide)
                            have ht631273 : rKd gm_F631263 q590092 9 := rSk_k hk631264 ht630225 (by decide) (by decide)
                            have hf631274 : gm_F631263 1 q590092 = f := rSk_1 hk631264 ht630225 (by decide) hf630226
                            have ht631275 : rKd gm_F631263 q628689 2 := rSk_k hk631264 ht630207 (by decide) (by decide)
                            have hf631276 : gm_F631263 1 q628689 = f := rSk_1 hk631264 ht630207 (by decide) hf630208
                            have ht631277 : rKd gm_F631263 q630280 3 := rSk_k hk631264 ht630284 (by decide) (by decide)
                            have hf631278 : gm_F631263 1 q630280 = f := rSk_1 hk631264 ht630284 (by decide) hf630293
                            have ht631279 : rKd gm_F631263 q630281 1 := rSk_k hk631264 ht630286 (by decide) (by decide)
                            have hf631280 : gm_F631263 1 q630281 = f := rSk_1 hk631264 ht630286 (by decide) hf630294
                            have he631281 : F631263 q630281 = .inr (20, [.int p631168, .int p631169, .int p631170, .int p631171, .int p631172, .int p631173, .int p631174]) := (rSk_F hk631264 ht630286 (by decide) (by decide)).trans he631167
                            have hm631282 : q630281 ∈ P631262 := RS_m hT631268 ht631279 (by decide)
                            clear bp630282 bp630283 r630291 r630292 rg631242 rm631243 bd631244 rc631245
                            have mk631283 : mKp (F590090 q590091) (F631263 q590091) := mKp_tr x630222 x631260
                            have hph631284 : rPh γ0 el0 f ≤ rPh gm_F631263 el_F631263 f := rm_ph hph630205 hr631266
                            have pk631285 : rPh gm_F631263 el_F631263 f ≤ 387 * B + 6000 := rm_pk (rM_ge hT631268 ht631273 hf631274).1 (rM_bd hB631267)
                            change G _ _ _ _ _ _ _ (.int o631251 :: _) _ _ _
                            refine G_widen (cs' := ((rPh gm_F631263 el_F631263 f - rPh γ0 el0 f) / 18)) (sl' := (rPh gm_F631263 el_F631263 f - rPh γ0 el0 f)) (rm_wc hph630205 hr631265) (rm_ws hph630205 hr631266) ?_
                            have sz631286 := x631252
                            have r631287 : 0 < gm_F631263 6 (gm_F631263 1 q590092) := by rw [hf631274]; omega
                            have hm631288 : q590091 ∈ P631262 := RS_m hT631268 ht631272 (by decide)
                            refine rk10_e (show rk_10 gm_F631263 (F631263 q590091) from RS_o hT631268 ht631272) (fun q631290 q631291 p631292 p631293 p631294 p631295 p631296 p631297 p631298 p631299 p631300 p631301 p631302 p631303 p631304 p631305 p631306 he631289 hB631333 ht631307 ht631308 ht631309 ht631310 ht631311 ht631312 ht631313 ht631314 ht631315 ht631316 ht631317 ht631318 ht631319 ht631320 ht631321 ht631322 ht631323 ht631324 ht631325 ht631326 ht631327 ht631328 ht631329 ht631330 hB631334 => ?_)
                            have ac631335 : (fI (F631263 q590091) 11).toInt = p631294.toInt := by rw [he631289]; rfl
                            have bp631294 : gB p631294 0 100 := (hB631333.2.2.1)
                            have ac631336 : (fI (F631263 q590091) 14).toInt = p631297.toInt := by rw [he631289]; rfl
                            have bp631297 : gB p631297 0 2000 := (hB631333.2.2.2.1)
                            refine G_istore (L' := [(8, .int o631251), (7, .int (-1)), (6, .int p631170), (5, .ref q630281), (4, .int g630200), (3, .ref q628689), (2, .int g628546), (0, .ref q590091), (1, .ref q590092)]) dr_cX17_spill_203 (Nat.le_of_ble_eq_true rfl) rfl ?_
                            refine G_iload 0 dr_cX17_spill_205 rfl ?_
                            refine G_if_ge 212 dr_cX17_spill_207 (by decide +kernel) (fun hc631337 => ?_) (fun hc631337 => ?_)
                            · have r631338 : 0 ≤ o631251.toInt := gj_leL hc631337 (show Int32.toInt 0 = 0 by decide)
                              have bo631251' : gB o631251 0 1999 := ⟨by omega, by omega⟩
                              have pl631340 := sp_ld (x631258.resolve_left (by omega)) pl631181.1 (tn_ge (by omega)) (rfl : ((g630200.toInt : Int).toNat + 1) = (g630200.toInt : Int).toNat + 1)
                              have hp631341 : rAt gm_F631263 el_F631263 q590092 (g628546.toInt : Int).toNat ((g630200.toInt : Int).toNat + 1) = q630281 := ((x631259.resolve_left (by omega)) (g630200.toInt : Int).toNat (Nat.le_refl _)).trans hp631163
                              have r631342 := x631256.resolve_left (by omega)
                              have x631256p := PLift.up x631256
                              have x631258p := PLift.up x631258
                              have x631259p := PLift.up x631259
                              clear x631256 x631258 x631259
                              obtain ⟨z631343, hz631343⟩ : ∃ z : Int32, z = g630200 + Int32.ofInt 1 := ⟨_, rfl⟩
                              have ez631343 : z631343.toInt = g630200.toInt + 1 := gI_inc hz631343 (by decide) bg630200' (by decide) (by decide)
                              have bz631343 : gB z631343 1 1000001 := ⟨by omega, by omega⟩
                              refine G_iinc (L' := [(4, .int z631343), (8, .int o631251), (7, .int (-1)), (6, .int p631170), (5, .ref q630281), (3, .ref q628689), (2, .int g628546), (0, .ref q590091), (1, .ref q590092)]) z631343 4 dr_cX17_spill_212 rfl hz631343.symm (Nat.le_of_ble_eq_true rfl) rfl ?_
                              refine G_aload 4 dr_cX17_spill_215 rfl ?_
                              refine G_iload 1 dr_cX17_spill_217 rfl ?_
                              refine Gp_put 2 hm631282 he631281 dr_cX17_spill_219 (gk_X15 D I) (Nat.le_of_ble_eq_true rfl) wr_9_186 rfl rfl rfl (Nat.le_of_ble_eq_true rfl) (fun F631344 e631345 n631346 => ?_)
                              have r631347 := rk1_at hT631268 ht631279 he631281
                              have he631348 : F631344 q590091 = .inr (22, [.ref (gm_F631263 9 0), .ref (gm_F631263 9 1), .ref (gm_F631263 9 2), .ref (gm_F631263 9 3), .ref (gm_F631263 9 4), .ref (gm_F631263 9 5), .ref (gm_F631263 9 6), .ref (gm_F631263 9 7), .ref (gm_F631263 9 8), .int p631292, .int p631293, .int p631294, .int p631295, .int p631296, .int p631297, .ref (gm_F631263 9 15), .ref (gm_F631263 9 16), .ref (gm_F631263 9 17), .ref (gm_F631263 9 18), .ref (gm_F631263 9 19), .ref (gm_F631263 9 20), .ref (gm_F631263 9 21), .ref (gm_F631263 9 22), .int p631298, .int p631299, .int p631300, .int p631301, .int p631302, .ref q631290, .ref (gm_F631263 9 29), .int p631303, .ref (gm_F631263 9 31), .int p631304, .int p631305, .int p631306, .ref q631291]) := (n631346 q590091 (rn_oo he631289 he631281 (by decide))).trans he631289
                              have he631349 : F631344 q630281 = .inr (20, [.int p631168, .int p631169, .int o631251, .int p631171, .int p631172, .int p631173, .int p631174]) := e631345
                              have mk631350 : mKp (F590090 q590091) (F631344 q590091) := mKp_tr mk631283 (mKp_eq (n631346 q590091 (rn_ty ht631272 ht631279 (by decide))))
                              have kp631351 : F631344 (γ0 9 3) = F590090 (γ0 9 3) := (n631346 (γ0 9 3) (rn_ty (rSk_k hs631269 k0_3 (by decide) (by decide)) ht631279 (by decide))).trans kp631270
                              have kp631352 : F631344 (γ0 9 19) = F625265 (γ0 9 19) := (n631346 (γ0 9 19) (rn_ty (rSk_k hs631269 k0_19 (by decide) (by decide)) ht631279 (by decide))).trans kp631271
                              have fq631353 : F631344 q630281 = cF (F631263 q630281) 2 (.int o631251) := by rw [he631349, he631281]; rfl
                              refine G_iload 2 dr_cX17_spill_222 rfl ?_
                              refine G_iload 3 dr_cX17_spill_224 rfl ?_
                              refine G_icmp_ne 236 dr_cX17_spill_226 (by decide +kernel) (fun _ => ?_) (fun hc => absurd (show False by have := gj_eqL hc (show Int32.toInt (-1) = (-1) by decide); omega) not_false)
                              have hT631354 : RS D I P631262 F631344 gm_F631263 el_F631263 := RS_set hT631268 n631346 ht631279 (by decide) ⟨p631168, p631169, o631251, p631171, p631172, p631173, p631174, he631349, bp631168, bp631169, bp631172, bp631173, bp631174, (gHe r631175), (Or.inr bo631251'), (gHe r631177), r631347.1, r631347.2⟩
                              have hs631356 := rSk_put hs631269 hT631354 n631346 ht631279 (by decide) (by decide) (Or.inr (Or.inl hf631280))
                              have hm631358 : q628689 ∈ P631262 := RS_m hT631354 ht631275 (by decide)
                              obtain ⟨q631360, q631361, p631362, p631363, he631359, ht631370, ht631364, ht631365, ht631366, ht631367, ht631368, bp631362, bp631363, r631369, r631371, r631372⟩ := show rk_2 gm_F631263 q628689 (F631344 q628689) from RS_o hT631354 ht631275
                              have hf631373 : gm_F631263 1 q631360 = f := (show gm_F631263 1 q631360 = gm_F631263 1 q628689 from ht631365).trans hf631276
                              have hf631374 : gm_F631263 1 q631361 = f := (show gm_F631263 1 q631361 = gm_F631263 1 q628689 from ht631367).trans hf631276
                              have r631375 : gm_F631263 6 (gm_F631263 1 q628689) = gm_F631263 6 f := by rw [hf631276]
                              have r631376 : gm_F631263 7 (gm_F631263 1 q628689) = gm_F631263 7 f := by rw [hf631276]
                              have r631377 : gm_F631263 19 (gm_F631263 1 q628689) = gm_F631263 19 f := by rw [hf631276]
                              have r631378 := r631369.resolve_left (by omega)
                              clear r631369
                              have r631379 : gm_F631263 2 (gm_F631263 14 q628689) = gm_F631263 2 q631360 := by rw [ht631370.1]
                              have pl631357 := sp_put hT631268 ht631273 hf631274 pl631340 n631346 hp631341 (show (g628546.toInt : Int).toNat < gm_F631263 6 f from tn_lt (by omega) (by omega)) (by unfold rwL; rw [x631255.2.2]; exact tn_le1 (by omega) (by omega))
                              have ac631380 : (fI (F631344 q590091) 11).toInt = p631294.toInt := by rw [he631348]; rfl
                              have ac631381 : (fI (F631344 q590091) 14).toInt = p631297.toInt := by rw [he631348]; rfl
                              refine G_lv (L' := [(0, .ref q590091), (1, .ref q590092), (2, .int g628546), (3, .ref q628689), (4, .int z631343), (5, .ref q630281), (6, .int p631170), (7, .int (-1))]) [7, 8, 6, 5, 0, 4, 3, 2] rfl ?_
                              exact jn236_630882 P631262 F631344 gm_F631263 el_F631263 z631343 q630281 p631170 (-1) (gB_w bz631343 (by decide) (by decide)) (gB_w rb631214 (by decide) (by decide)) (gB_w (gBl (show Int32.toInt (-1) = (-1) by decide)) (by decide) (by decide)) hT631354 hs631356 hph631284 hB631267 ht631275 hf631276 x631255.2.1 x631255.2.2 ht631279 hf631280 (by have qa0 : Int32.toInt (-1) = (-1) := (by decide); omega) (by have qa0 : Int32.toInt (-1) = (-1) := (by decide); omega) (by have qa0 : Int32.toInt (-1) = (-1) := (by decide); omega) (by have qa0 : Int32.toInt (-1) = (-1) := (by decide); omega) (by have qa0 : Int32.toInt (-1) = (-1) := (by decide); omega) (by have qa0 : Int32.toInt (-1) = (-1) := (by decide); omega) kp631352 (by rw [(show (z631343.toInt : Int).toNat = ((g630200.toInt : Int).toNat + 1) from tn_eq1 (by omega) (by omega))]; exact pl631357) (by rw [(show (z631343.toInt : Int).toNat = ((g630200.toInt : Int).toNat + 1) from tn_eq1 (by omega) (by omega))]; exact hp631341) (rS1_of he631167 he631349 pl631181.2 (fun _ _ _ _ => Or.inl (by omega)) (fun h1 h2 h3 => (uB_0 x631222 (by omega) h1 h2 h3).elim)) (by have qa0 : Int32.toInt (-1) = (-1) := (by decide); omega) (by have qa0 : Int32.toInt (-1) = (-1) := (by decide); omega) (ms_j hm90_630222 (by omega) (by omega) (by omega)) (eO_c (op := p631168.toInt) (by rw [he631349] <;> rfl) (Or.inr ((gHe r631179).resolve_left (fun z => absurd (ht630288.2.symm.trans z) (by decide))))) kp631351 mk631350 (fun k e1 e2 e3 e4 ht => tl_RModel_spill_90_k15 D I γ0 el0 f P590089 F590090 q590091 F625265 q590092 g628546 q628689 P630201 F630202 gm_F630202 el_F630202 g630200 q630280 p630304 q630281 p631168 p631173 o631189 p631170 p631174 o631221 f631229 z631230 P631262 F631263 gm_F631263 el_F631263 o631251 z631343 F631344 k e1 e2 e3 e4 bg630200 hT630203 hs630204 x630211 x630212 x630213 x630214 x630216 x630217 x630218 x630219 x630220 x630221 x630222 fq630300 fq630311 fq630312 r630324 fq631154 r631161 fq631162 fq631182 fq631183 bo631189 ht631191 r631212 fq631213 fq631215 bo631221 ht631223 r631225 fq631226 he631228 hz631230 bz631230 r631238 hk631264 x631252 x631253 x631254 x631255 x631256p.down x631257 x631258p.down x631259p.down x631260 ht631261 r631338 ez631343 n631346 fq631353 ht)
                            · have r631382 : o631251.toInt < 0 := gj_nleL hc631337 (show Int32.toInt 0 = 0 by decide)
                              have bo631251' : gB o631251 (-1) (-1) := ⟨by omega, by omega⟩
                              have hx631383 : tl_RModel_spill_90 D I γ0 el0 f P590089 F590090 q590091 F625265 q590092 g628546 q628689 P628547 F628548 gm_F628548 el_F628548 (0 : Int32) 210 F631263 P631262 gm_F631263 el_F631263 := kt90_630223 210 F631263 P631262 gm_F631263 el_F631263 (tl_RModel_spill_90_k16 D I γ0 el0 f P590089 F590090 q590091 F625265 q590092 g628546 q628689 P630201 F630202 gm_F630202 el_F630202 g630200 q630280 p630304 q630281 p631168 p631173 o631189 p631170 p631174 o631221 f631229 z631230 P631262 F631263 gm_F631263 el_F631263 o631251 bg630200 hT630203 hs630204 x630211 x630212 x630213 x630214 x630216 x630217 x630218 x630219 x630220 x630221 x630222 fq630300 fq630311 fq630312 r630324 fq631154 r631161 fq631162 fq631182 fq631183 bo631189 ht631191 r631212 fq631213 fq631215 bo631221 ht631223 r631225 fq631226 he631228 hz631230 bz631230 r631238 hk631264 x631252 x631253 x631254 x631255 x631256 x631257 x631258 x631259 x631260 ht631261 r631382)
                              have hx631384 : tl_RModel_spill_73 D I γ0 el0 f P590089 F590090 q590091 F625265 q590092 P625264 F625265 gm_hg625354 el_F625265 (0 : Int32) 210 F631263 P631262 gm_F631263 el_F631263 := kt73_628563 210 F631263 P631262 gm_F631263 el_F631263 (fun R c1 c2 c3 c4 c5 => c5 P628547 F628548 gm_F628548 el_F628548 g628546 p628623 q628620 q628689 p628671 F631263 P631262 gm_F631263 el_F631263 bg628546 hT628549 hs628550 x628553 x628554 x628555 x628556 x628558 x628559 x628560 x628561 x628562 fq628645 r628667 fq628694 hx628690 fq628712 ht628718 hx631383)
                              refine G_iconst 0 dr_cX17_spill_210 (by decide +kernel) ?_
                              exact G_zretA FieldType.boolean dr_cX17_spill_211 rfl rfl (rm_zc pk631285) (rm_zs pk631285) ⟨P631262, F631263, gm_F631263, el_F631263, 0, rfl, rfl, hs631269, (rm_pp hph631284), hB631267, (gB_w (gBl (show Int32.toInt 0 = 0 by decide)) (by decide) (by decide)), (by have qa0 : Int32.toInt (-1) = (-1) := (by decide); have qa1 : Int32.toInt 0 = 0 := (by decide); omega), (Or.inl (by decide)), kp631270, mk631283, (fun R c1 c2 c3 c4 c5 c6 => c5 gm_0 el_0 F625265 P625264 gm_F625265 el_F625265 p625290 gm_hg625354 F631263 P631262 gm_F631263 el_F631263 hγ0 hel0 hx625348 fq625355 hg625354 hx631384)⟩
                        · have r631385 : o631221.toInt ≠ 0 := gj_neq hc631224 (show Int32.toInt 0 = 0 by decide)
                          have bo631221' : gB o631221 1 1 := gB_t1 bo631221 r631385
                          refine G_aload 1 dr_cX17_spill_162 rfl ?_
                          have fq631386 : fI (F630202 q630281) 3 = p631171 := by rw [he631167]; rfl
                          refine Gp_get 3 hm631166 he631167 dr_cX17_spill_164 (gk_X15 D I) (Nat.le_of_ble_eq_true rfl) wr_9_190 rfl ?_
                          have rb631387 : gB p631171 0 1999 := (gHe r631177).resolve_left (by have z := (uB_1 x631222 (by omega)).2.2; omega)
                          refine G_goto 171 dr_cX17_spill_167 (by decide +kernel) ?_
                          refine G_istore (L' := [(7, .int p631171), (6, .int p631170), (5, .ref q630281), (4, .int g630200), (3, .ref q628689), (2, .int g628546), (0, .ref q590091), (1, .ref q590092)]) dr_cX17_spill_171 (Nat.le_of_ble_eq_true rfl) rfl ?_
                          refine G_iload 1 dr_cX17_spill_173 rfl ?_
                          refine G_if_lt 236 dr_cX17_spill_175 (by decide +kernel) (fun hc => absurd (show False by have := gj_lt hc (show Int32.toInt 0 = 0 by decide); omega) not_false) (fun _ => ?_)
                          refine G_aload_n 6 dr_cX17_spill_178 rfl ?_
                          have fq631388 : fR (F630202 q590091) 19 = (gm_F630202 9 19) := by rw [he630230]; rfl
                          refine Gp_get 19 hm630229 he630230 dr_cX17_spill_179 (gk_X17 D I) (Nat.le_of_ble_eq_true rfl) wr_7_93 rfl ?_
                          refine G_iload 1 dr_cX17_spill_182 rfl ?_
                          have hm631389 : (gm_F630202 9 19) ∈ P630201 := RS_m hT630203 ht630263 (by decide)
                          obtain ⟨f631391, he631390, bf631391⟩ := show rk_21 I (F630202 (gm_F630202 9 19)) from RS_o hT630203 ht630263
                          refine Gp_iald 0 hm631389 he631390 dr_cX17_spill_184 rfl (gB_in rb631214 (by decide) (by decide)) (G_nam fun z631392 hz631392 => ?_)
                          have bz631392 : gB z631392 (-1) 1999 := by rw [hz631392]; exact bf631391 _
                          have c9_631393 : cB (F625265 (γ0 9 19)) = f631391 := by rw [← x630217, ← congrFun (rSk_9 hs630204) 19]; exact cB_of he631390
                          have hs631394 : (cB (F625265 (γ0 9 19)) p631170.toInt.toNat).toInt = z631392.toInt := by rw [c9_631393, hz631392]; rfl
                          refine G_if_lt 236 dr_cX17_spill_185 (by decide +kernel) (fun hc631396 => ?_) (fun hc631396 => ?_)
                          · have r631397 : z631392.toInt < 0 := gj_lt hc631396 (show Int32.toInt 0 = 0 by decide)
                            have bz631392' : gB z631392 (-1) (-1) := ⟨by omega, by omega⟩
                            have ac631398 : (fI (F630202 q590091) 11).toInt = p630235.toInt := by rw [he630230]; rfl
                            have ac631399 : (fI (F630202 q590091) 14).toInt = p630238.toInt := by rw [he630230]; rfl
                            refine G_lv (L' := [(0, .ref q590091), (1, .ref q590092), (2, .int g628546), (3, .ref q628689), (4, .int g630200), (5, .ref q630281), (6, .int p631170), (7, .int p631171)]) [6, 7, 5, 4, 3, 2, 1, 0] rfl ?_
                            exact jn236_630882 P630201 F630202 gm_F630202 el_F630202 g630200 q630281 p631170 p631171 (gB_w bg630200' (by decide) (by decide)) (gB_w rb631214 (by decide) (by decide)) (gB_w rb631387 (by decide) (by decide)) hT630203 hs630204 hph630205 hB630206 ht630207 hf630208 r630209 r630210 ht630286 hf630294 (by omega) (by omega) (by omega) (by omega) (by omega) (by omega) x630217 (by exact pl631181.1) (by exact hp631163) (rS1_of he631167 he631167 pl631181.2 (fun _ _ _ _ => Or.inr ⟨rfl, by omega⟩) (fun _ _ _ => Or.inr ⟨rfl, rfl, by omega, (Classical.em (p631171.toInt = p631170.toInt)).elim (fun e => Or.inr (by rw [e]; omega)) (fun e => Or.inl e)⟩)) (by omega) (by omega) (ms_j hm90_630222 (by omega) (by omega) (by omega)) (eO_c (op := p631168.toInt) (by rw [he631167] <;> rfl) (Or.inr ((gHe r631179).resolve_left (fun z => absurd (ht630288.2.symm.trans z) (by decide))))) x630221 x630222 (fun k e1 e2 e3 e4 ht => tl_RModel_spill_90_k17 D I γ0 el0 f P590089 F590090 q590091 F625265 q590092 g628546 q628689 P630201 F630202 gm_F630202 el_F630202 g630200 q630280 p630304 q630281 p631168 p631173 o631189 p631170 p631174 o631221 p631171 f631391 z631392 k e1 e2 e3 e4 bg630200 hT630203 hs630204 x630211 x630212 x630213 x630214 x630216 x630217 x630218 x630219 x630220 x630221 x630222 fq630300 fq630311 fq630312 r630324 fq631154 r631161 fq631162 fq631182 fq631183 bo631189 ht631191 r631212 fq631213 fq631215 bo631221 ht631223 r631385 fq631386 fq631388 he631390 hz631392 bz631392 r631397 ht)
                          · have r631400 : 0 ≤ z631392.toInt := gj_nlt hc631396 (show Int32.toInt 0 = 0 by decide)
                            have bz631392' : gB z631392 0 1999 := ⟨by omega, by omega⟩
                            refine G_aload_n 6 dr_cX17_spill_188 rfl ?_
                            refine G_aload_n 7 dr_cX17_spill_189 rfl ?_
                            refine G_aload_n 4 dr_cX17_spill_190 rfl ?_
                            refine G_iload 3 dr_cX17_spill_191 rfl ?_
                            refine G_aload_n 6 dr_cX17_spill_193 rfl ?_
                            refine Gp_get 19 hm630229 he630230 dr_cX17_spill_194 (gk_X17 D I) (Nat.le_of_ble_eq_true rfl) wr_7_93 rfl ?_
                            refine G_iload 1 dr_cX17_spill_197 rfl ?_
                            refine Gp_iald 0 hm631389 he631390 dr_cX17_spill_199 rfl (gB_in rb631214 (by decide) (by decide)) (G_eqi (y := z631392) hz631392.symm ?_)
                            have r631401 := (spi625351.2.2.2 p631170.toInt.toNat (tn_lt (by omega) (by omega)) (by omega)).2.2
                            have ac631402 : (fI (F630202 q590091) 11).toInt = p630235.toInt := by rw [he630230]; rfl
                            have ac631403 : (fI (F630202 q590091) 14).toInt = p630238.toInt := by rw [he630230]; rfl
                            have rg631404 := rM_ge hT630203 ht630225 hf630226
                            have rm631405 := rM_bd hB630206
                            have bd631406 := rBd_c hT630203 ht630225 hf630226 hB630206
                            have rc631407 := rc_at hT630203 ht630225 hf630226
                            refine Gw_callV (As := [.ref q590092, .ref q628689, .int g630200, .int z631392]) (gV_ok D I) (cg_409800_SpillForgeModel_load l hl0 D I gm_F630202 el_F630202 f B P630201 F630202 q590091 q590092 q628689 g630200 z631392 g628546.toInt.toNat hT630203 ht630224 ht630225 ht630207 hf630226 hB630206 hBk r630209 r630210 hf630208 bg630200' bz631392' (by omega) (by omega) (by omega) (by omega) (by omega)) dr_cX17_spill_200 ⟨wr_11_67, wr_1_14, wr_11_70, by decide, rfl, (Nat.le_of_ble_eq_true rfl), (Nat.le_of_ble_eq_true rfl)⟩ wr_11_69 wr_p_111 hm630229 he630230 rfl (rm_gc hph630205 pk630227) (rm_gs hph630205 pk630227) (Nat.le_of_ble_eq_true rfl) (fun r631411 w631412 dc631408 ds631409 hp631410 => ?_) (fun _ _ _ _ _ z => z.elim)
                            obtain ⟨P631424, F631425, gm_F631425, el_F631425, o631413, rfl, rfl, hk631426, ⟨hr631427, hr631428⟩, hB631429, bo631413, x631414, x631415, x631416, x631417, x631418, x631419, x631420, x631421, x631422, ht631423⟩ := hp631410
                            have hT631430 := hk631426.1
                            have hs631431 := rSk_tr hs630204 hk631426 (by decide) (by decide) (by decide)
                            have kp631432 : F631425 (γ0 9 3) = F590090 (γ0 9 3) := (rSk_F hk631426 (rSk_k hs630204 k0_3 (by decide) (by decide)) (by decide) (by decide)).trans x630221
                            have kp631433 : F631425 (γ0 9 19) = F625265 (γ0 9 19) := (rSk_F hk631426 (rSk_k hs630204 k0_19 (by decide) (by decide)) (by decide) (by decide)).trans x630217
                            have ht631434 : rKd gm_F631425 q590091 10 := rSk_k hk631426 ht630224 (by decide) (by decide)
                            have ht631435 : rKd gm_F631425 q590092 9 := rSk_k hk631426 ht630225 (by decide) (by decide)
                            have hf631436 : gm_F631425 1 q590092 = f := rSk_1 hk631426 ht630225 (by decide) hf630226
                            have ht631437 : rKd gm_F631425 q628689 2 := rSk_k hk631426 ht630207 (by decide) (by decide)
                            have hf631438 : gm_F631425 1 q628689 = f := rSk_1 hk631426 ht630207 (by decide) hf630208
                            have ht631439 : rKd gm_F631425 q630280 3 := rSk_k hk631426 ht630284 (by decide) (by decide)
                            have hf631440 : gm_F631425 1 q630280 = f := rSk_1 hk631426 ht630284 (by decide) hf630293
                            have ht631441 : rKd gm_F631425 q630281 1 := rSk_k hk631426 ht630286 (by decide) (by decide)
                            have hf631442 : gm_F631425 1 q630281 = f := rSk_1 hk631426 ht630286 (by decide) hf630294
                            have he631443 : F631425 q630281 = .inr (20, [.int p631168, .int p631169, .int p631170, .int p631171, .int p631172, .int p631173, .int p631174]) := (rSk_F hk631426 ht630286 (by decide) (by decide)).trans he631167
                            have hm631444 : q630281 ∈ P631424 := RS_m hT631430 ht631441 (by decide)
                            clear bp630282 bp630283 r630291 r630292 rg631404 rm631405 bd631406 rc631407
                            have mk631445 : mKp (F590090 q590091) (F631425 q590091) := mKp_tr x630222 x631422
                            have hph631446 : rPh γ0 el0 f ≤ rPh gm_F631425 el_F631425 f := rm_ph hph630205 hr631428
                            have pk631447 : rPh gm_F631425 el_F631425 f ≤ 387 * B + 6000 := rm_pk (rM_ge hT631430 ht631435 hf631436).1 (rM_bd hB631429)
                            change G _ _ _ _ _ _ _ (.int o631413 :: _) _ _ _
                            refine G_widen (cs' := ((rPh gm_F631425 el_F631425 f - rPh γ0 el0 f) / 18)) (sl' := (rPh gm_F631425 el_F631425 f - rPh γ0 el0 f)) (rm_wc hph630205 hr631427) (rm_ws hph630205 hr631428) ?_
                            have sz631448 := x631414
                            have r631449 : 0 < gm_F631425 6 (gm_F631425 1 q590092) := by rw [hf631436]; omega
                            have hm631450 : q590091 ∈ P631424 := RS_m hT631430 ht631434 (by decide)
                            refine rk10_e (show rk_10 gm_F631425 (F631425 q590091) from RS_o hT631430 ht631434) (fun q631452 q631453 p631454 p631455 p631456 p631457 p631458 p631459 p631460 p631461 p631462 p631463 p631464 p631465 p631466 p631467 p631468 he631451 hB631495 ht631469 ht631470 ht631471 ht631472 ht631473 ht631474 ht631475 ht631476 ht631477 ht631478 ht631479 ht631480 ht631481 ht631482 ht631483 ht631484 ht631485 ht631486 ht631487 ht631488 ht631489 ht631490 ht631491 ht631492 hB631496 => ?_)
                            have ac631497 : (fI (F631425 q590091) 11).toInt = p631456.toInt := by rw [he631451]; rfl
                            have bp631456 : gB p631456 0 100 := (hB631495.2.2.1)
                            have ac631498 : (fI (F631425 q590091) 14).toInt = p631459.toInt := by rw [he631451]; rfl
                            have bp631459 : gB p631459 0 2000 := (hB631495.2.2.2.1)
                            refine G_istore (L' := [(8, .int o631413), (7, .int p631171), (6, .int p631170), (5, .ref q630281), (4, .int g630200), (3, .ref q628689), (2, .int g628546), (0, .ref q590091), (1, .ref q590092)]) dr_cX17_spill_203 (Nat.le_of_ble_eq_true rfl) rfl ?_
                            refine G_iload 0 dr_cX17_spill_205 rfl ?_
                            refine G_if_ge 212 dr_cX17_spill_207 (by decide +kernel) (fun hc631499 => ?_) (fun hc631499 => ?_)
                            · have r631500 : 0 ≤ o631413.toInt := gj_leL hc631499 (show Int32.toInt 0 = 0 by decide)
                              have bo631413' : gB o631413 0 1999 := ⟨by omega, by omega⟩
                              have pl631502 := sp_ld (x631420.resolve_left (by omega)) pl631181.1 (tn_ge (by omega)) (rfl : ((g630200.toInt : Int).toNat + 1) = (g630200.toInt : Int).toNat + 1)
                              have hp631503 : rAt gm_F631425 el_F631425 q590092 (g628546.toInt : Int).toNat ((g630200.toInt : Int).toNat + 1) = q630281 := ((x631421.resolve_left (by omega)) (g630200.toInt : Int).toNat (Nat.le_refl _)).trans hp631163
                              have r631504 := x631418.resolve_left (by omega)
                              have x631418p := PLift.up x631418
                              have x631420p := PLift.up x631420
                              have x631421p := PLift.up x631421
                              clear x631418 x631420 x631421
                              obtain ⟨z631505, hz631505⟩ : ∃ z : Int32, z = g630200 + Int32.ofInt 1 := ⟨_, rfl⟩
                              have ez631505 : z631505.toInt = g630200.toInt + 1 := gI_inc hz631505 (by decide) bg630200' (by decide) (by decide)
                              have bz631505 : gB z631505 1 1000001 := ⟨by omega, by omega⟩
                              refine G_iinc (L' := [(4, .int z631505), (8, .int o631413), (7, .int p631171), (6, .int p631170), (5, .ref q630281), (3, .ref q628689), (2, .int g628546), (0, .ref q590091), (1, .ref q590092)]) z631505 4 dr_cX17_spill_212 rfl hz631505.symm (Nat.le_of_ble_eq_true rfl) rfl ?_
                              refine G_aload 4 dr_cX17_spill_215 rfl ?_
                              refine G_iload 1 dr_cX17_spill_217 rfl ?_
                              refine Gp_put 2 hm631444 he631443 dr_cX17_spill_219 (gk_X15 D I) (Nat.le_of_ble_eq_true rfl) wr_9_186 rfl rfl rfl (Nat.le_of_ble_eq_true rfl) (fun F631506 e631507 n631508 => ?_)
                              have r631509 := rk1_at hT631430 ht631441 he631443
                              have he631510 : F631506 q590091 = .inr (22, [.ref (gm_F631425 9 0), .ref (gm_F631425 9 1), .ref (gm_F631425 9 2), .ref (gm_F631425 9 3), .ref (gm_F631425 9 4), .ref (gm_F631425 9 5), .ref (gm_F631425 9 6), .ref (gm_F631425 9 7), .ref (gm_F631425 9 8), .int p631454, .int p631455, .int p631456, .int p631457, .int p631458, .int p631459, .ref (gm_F631425 9 15), .ref (gm_F631425 9 16), .ref (gm_F631425 9 17), .ref (gm_F631425 9 18), .ref (gm_F631425 9 19), .ref (gm_F631425 9 20), .ref (gm_F631425 9 21), .ref (gm_F631425 9 22), .int p631460, .int p631461, .int p631462, .int p631463, .int p631464, .ref q631452, .ref (gm_F631425 9 29), .int p631465, .ref (gm_F631425 9 31), .int p631466, .int p631467, .int p631468, .ref q631453]) := (n631508 q590091 (rn_oo he631451 he631443 (by decide))).trans he631451
                              have he631511 : F631506 q630281 = .inr (20, [.int p631168, .int p631169, .int o631413, .int p631171, .int p631172, .int p631173, .int p631174]) := e631507
                              have mk631512 : mKp (F590090 q590091) (F631506 q590091) := mKp_tr mk631445 (mKp_eq (n631508 q590091 (rn_ty ht631434 ht631441 (by decide))))
                              have kp631513 : F631506 (γ0 9 3) = F590090 (γ0 9 3) := (n631508 (γ0 9 3) (rn_ty (rSk_k hs631431 k0_3 (by decide) (by decide)) ht631441 (by decide))).trans kp631432
                              have kp631514 : F631506 (γ0 9 19) = F625265 (γ0 9 19) := (n631508 (γ0 9 19) (rn_ty (rSk_k hs631431 k0_19 (by decide) (by decide)) ht631441 (by decide))).trans kp631433
                              have fq631515 : F631506 q630281 = cF (F631425 q630281) 2 (.int o631413) := by rw [he631511, he631443]; rfl
                              refine G_iload 2 dr_cX17_spill_222 rfl ?_
                              refine G_iload 3 dr_cX17_spill_224 rfl ?_
                              refine G_icmp_ne 236 dr_cX17_spill_226 (by decide +kernel) (fun hc631516 => ?_) (fun hc631516 => ?_)
                              · have r631517 : p631171.toInt ≠ p631170.toInt := gC_ne hc631516
                                have hT631518 : RS D I P631424 F631506 gm_F631425 el_F631425 := RS_set hT631430 n631508 ht631441 (by decide) ⟨p631168, p631169, o631413, p631171, p631172, p631173, p631174, he631511, bp631168, bp631169, bp631172, bp631173, bp631174, (gHe r631175), (Or.inr bo631413'), (gHe r631177), r631509.1, r631509.2⟩
                                have hs631520 := rSk_put hs631431 hT631518 n631508 ht631441 (by decide) (by decide) (Or.inr (Or.inl hf631442))
                                have hm631522 : q628689 ∈ P631424 := RS_m hT631518 ht631437 (by decide)
                                obtain ⟨q631524, q631525, p631526, p631527, he631523, ht631534, ht631528, ht631529, ht631530, ht631531, ht631532, bp631526, bp631527, r631533, r631535, r631536⟩ := show rk_2 gm_F631425 q628689 (F631506 q628689) from RS_o hT631518 ht631437
                                have hf631537 : gm_F631425 1 q631524 = f := (show gm_F631425 1 q631524 = gm_F631425 1 q628689 from ht631529).trans hf631438
                                have hf631538 : gm_F631425 1 q631525 = f := (show gm_F631425 1 q631525 = gm_F631425 1 q628689 from ht631531).trans hf631438
                                have r631539 : gm_F631425 6 (gm_F631425 1 q628689) = gm_F631425 6 f := by rw [hf631438]
                                have r631540 : gm_F631425 7 (gm_F631425 1 q628689) = gm_F631425 7 f := by rw [hf631438]
                                have r631541 : gm_F631425 19 (gm_F631425 1 q628689) = gm_F631425 19 f := by rw [hf631438]
                                have r631542 := r631533.resolve_left (by omega)
                                clear r631533
                                have r631543 : gm_F631425 2 (gm_F631425 14 q628689) = gm_F631425 2 q631524 := by rw [ht631534.1]
                                have pl631521 := sp_put hT631430 ht631435 hf631436 pl631502 n631508 hp631503 (show (g628546.toInt : Int).toNat < gm_F631425 6 f from tn_lt (by omega) (by omega)) (by unfold rwL; rw [x631417.2.2]; exact tn_le1 (by omega) (by omega))
                                have ac631544 : (fI (F631506 q590091) 11).toInt = p631456.toInt := by rw [he631510]; rfl
                                have ac631545 : (fI (F631506 q590091) 14).toInt = p631459.toInt := by rw [he631510]; rfl
                                refine G_lv (L' := [(0, .ref q590091), (1, .ref q590092), (2, .int g628546), (3, .ref q628689), (4, .int z631505), (5, .ref q630281), (6, .int p631170), (7, .int p631171)]) [7, 8, 6, 5, 0, 4, 3, 2] rfl ?_
                                exact jn236_630882 P631424 F631506 gm_F631425 el_F631425 z631505 q630281 p631170 p631171 (gB_w bz631505 (by decide) (by decide)) (gB_w rb631214 (by decide) (by decide)) (gB_w rb631387 (by decide) (by decide)) hT631518 hs631520 hph631446 hB631429 ht631437 hf631438 x631417.2.1 x631417.2.2 ht631441 hf631442 (by omega) (by omega) (by omega) (by omega) (by omega) (by omega) kp631514 (by rw [(show (z631505.toInt : Int).toNat = ((g630200.toInt : Int).toNat + 1) from tn_eq1 (by omega) (by omega))]; exact pl631521) (by rw [(show (z631505.toInt : Int).toNat = ((g630200.toInt : Int).toNat + 1) from tn_eq1 (by omega) (by omega))]; exact hp631503) (rS1_of he631167 he631511 pl631181.2 (fun _ _ _ _ => Or.inl (by omega)) (fun _ _ _ => Or.inr ⟨rfl, rfl, by omega, Or.inl (by omega)⟩)) (by omega) (by omega) (ms_j hm90_630222 (by omega) (by omega) (by omega)) (eO_c (op := p631168.toInt) (by rw [he631511] <;> rfl) (Or.inr ((gHe r631179).resolve_left (fun z => absurd (ht630288.2.symm.trans z) (by decide))))) kp631513 mk631512 (fun k e1 e2 e3 e4 ht => tl_RModel_spill_90_k18 D I γ0 el0 f P590089 F590090 q590091 F625265 q590092 g628546 q628689 P630201 F630202 gm_F630202 el_F630202 g630200 q630280 p630304 q630281 p631168 p631173 o631189 p631170 p631174 o631221 p631171 f631391 z631392 P631424 F631425 gm_F631425 el_F631425 o631413 z631505 F631506 k e1 e2 e3 e4 bg630200 hT630203 hs630204 x630211 x630212 x630213 x630214 x630216 x630217 x630218 x630219 x630220 x630221 x630222 fq630300 fq630311 fq630312 r630324 fq631154 r631161 fq631162 fq631182 fq631183 bo631189 ht631191 r631212 fq631213 fq631215 bo631221 ht631223 r631385 fq631386 fq631388 he631390 hz631392 bz631392 r631400 hk631426 x631414 x631415 x631416 x631417 x631418p.down x631419 x631420p.down x631421p.down x631422 ht631423 r631500 ez631505 n631508 fq631515 r631517 ht)
                              · have r631546 : p631171.toInt = p631170.toInt := gC_eq hc631516
                                refine G_aload 4 dr_cX17_spill_229 rfl ?_
                                refine G_iload 1 dr_cX17_spill_231 rfl ?_
                                refine Gp_put 3 hm631444 he631511 dr_cX17_spill_233 (gk_X15 D I) (Nat.le_of_ble_eq_true rfl) wr_9_190 rfl rfl rfl (Nat.le_of_ble_eq_true rfl) (fun F631547 e631548 n631549 => ?_)
                                have he631550 : F631547 q590091 = .inr (22, [.ref (gm_F631425 9 0), .ref (gm_F631425 9 1), .ref (gm_F631425 9 2), .ref (gm_F631425 9 3), .ref (gm_F631425 9 4), .ref (gm_F631425 9 5), .ref (gm_F631425 9 6), .ref (gm_F631425 9 7), .ref (gm_F631425 9 8), .int p631454, .int p631455, .int p631456, .int p631457, .int p631458, .int p631459, .ref (gm_F631425 9 15), .ref (gm_F631425 9 16), .ref (gm_F631425 9 17), .ref (gm_F631425 9 18), .ref (gm_F631425 9 19), .ref (gm_F631425 9 20), .ref (gm_F631425 9 21), .ref (gm_F631425 9 22), .int p631460, .int p631461, .int p631462, .int p631463, .int p631464, .ref q631452, .ref (gm_F631425 9 29), .int p631465, .ref (gm_F631425 9 31), .int p631466, .int p631467, .int p631468, .ref q631453]) := (n631549 q590091 (rn_oo he631510 he631511 (by decide))).trans he631510
                                have he631551 : F631547 q630281 = .inr (20, [.int p631168, .int p631169, .int o631413, .int o631413, .int p631172, .int p631173, .int p631174]) := e631548
                                have mk631552 : mKp (F590090 q590091) (F631547 q590091) := mKp_tr mk631512 (mKp_eq (n631549 q590091 (rn_ty ht631434 ht631441 (by decide))))
                                have n631553 : ∀ b, b ≠ q630281 → F631547 b = F631425 b := fun b hb => (n631549 b hb).trans (n631508 b hb)
                                have kp631554 : F631547 (γ0 9 3) = F590090 (γ0 9 3) := (n631549 (γ0 9 3) (rn_ty (rSk_k hs631431 k0_3 (by decide) (by decide)) ht631441 (by decide))).trans kp631513
                                have kp631555 : F631547 (γ0 9 19) = F625265 (γ0 9 19) := (n631549 (γ0 9 19) (rn_ty (rSk_k hs631431 k0_19 (by decide) (by decide)) ht631441 (by decide))).trans kp631514
                                have fq631556 : F631547 q630281 = cF (F631506 q630281) 3 (.int o631413) := by rw [he631551, he631511]; rfl
                                have hT631557 : RS D I P631424 F631547 gm_F631425 el_F631425 := RS_set hT631430 n631553 ht631441 (by decide) ⟨p631168, p631169, o631413, o631413, p631172, p631173, p631174, he631551, bp631168, bp631169, bp631172, bp631173, bp631174, (gHe r631175), (Or.inr bo631413'), (Or.inr bo631413'), r631509.1, r631509.2⟩
                                have hs631559 := rSk_put hs631431 hT631557 n631553 ht631441 (by decide) (by decide) (Or.inr (Or.inl hf631442))
                                have hm631561 : q628689 ∈ P631424 := RS_m hT631557 ht631437 (by decide)
                                obtain ⟨q631563, q631564, p631565, p631566, he631562, ht631573, ht631567, ht631568, ht631569, ht631570, ht631571, bp631565, bp631566, r631572, r631574, r631575⟩ := show rk_2 gm_F631425 q628689 (F631547 q628689) from RS_o hT631557 ht631437
                                have hf631576 : gm_F631425 1 q631563 = f := (show gm_F631425 1 q631563 = gm_F631425 1 q628689 from ht631568).trans hf631438
                                have hf631577 : gm_F631425 1 q631564 = f := (show gm_F631425 1 q631564 = gm_F631425 1 q628689 from ht631570).trans hf631438
                                have r631578 : gm_F631425 6 (gm_F631425 1 q628689) = gm_F631425 6 f := by rw [hf631438]
                                have r631579 : gm_F631425 7 (gm_F631425 1 q628689) = gm_F631425 7 f := by rw [hf631438]
                                have r631580 : gm_F631425 19 (gm_F631425 1 q628689) = gm_F631425 19 f := by rw [hf631438]
                                have r631581 := r631572.resolve_left (by omega)
                                clear r631572
                                have r631582 : gm_F631425 2 (gm_F631425 14 q628689) = gm_F631425 2 q631563 := by rw [ht631573.1]
                                have pl631560 := sp_put hT631430 ht631435 hf631436 pl631502 n631553 hp631503 (show (g628546.toInt : Int).toNat < gm_F631425 6 f from tn_lt (by omega) (by omega)) (by unfold rwL; rw [x631417.2.2]; exact tn_le1 (by omega) (by omega))
                                have ac631583 : (fI (F631547 q590091) 11).toInt = p631456.toInt := by rw [he631550]; rfl
                                have ac631584 : (fI (F631547 q590091) 14).toInt = p631459.toInt := by rw [he631550]; rfl
                                refine G_lv (L' := [(0, .ref q590091), (1, .ref q590092), (2, .int g628546), (3, .ref q628689), (4, .int z631505), (5, .ref q630281), (6, .int p631170), (7, .int p631171)]) [7, 8, 6, 5, 0, 4, 3, 2] rfl ?_
                                exact jn236_630882 P631424 F631547 gm_F631425 el_F631425 z631505 q630281 p631170 p631171 (gB_w bz631505 (by decide) (by decide)) (gB_w rb631214 (by decide) (by decide)) (gB_w rb631387 (by decide) (by decide)) hT631557 hs631559 hph631446 hB631429 ht631437 hf631438 x631417.2.1 x631417.2.2 ht631441 hf631442 (by omega) (by omega) (by omega) (by omega) (by omega) (by omega) kp631555 (by rw [(show (z631505.toInt : Int).toNat = ((g630200.toInt : Int).toNat + 1) from tn_eq1 (by omega) (by omega))]; exact pl631560) (by rw [(show (z631505.toInt : Int).toNat = ((g630200.toInt : Int).toNat + 1) from tn_eq1 (by omega) (by omega))]; exact hp631503) (rS1_of he631167 he631551 pl631181.2 (fun _ _ _ _ => Or.inl (by omega)) (fun _ _ _ => Or.inl (by omega))) (by omega) (by omega) (ms_j hm90_630222 (by omega) (by omega) (by omega)) (eO_c (op := p631168.toInt) (by rw [he631551] <;> rfl) (Or.inr ((gHe r631179).resolve_left (fun z => absurd (ht630288.2.symm.trans z) (by decide))))) kp631554 mk631552 (fun k e1 e2 e3 e4 ht => tl_RModel_spill_90_k19 D I γ0 el0 f P590089 F590090 q590091 F625265 q590092 g628546 q628689 P630201 F630202 gm_F630202 el_F630202 g630200 q630280 p630304 q630281 p631168 p631173 o631189 p631170 p631174 o631221 p631171 f631391 z631392 P631424 F631425 gm_F631425 el_F631425 o631413 z631505 F631506 F631547 k e1 e2 e3 e4 bg630200 hT630203 hs630204 x630211 x630212 x630213 x630214 x630216 x630217 x630218 x630219 x630220 x630221 x630222 fq630300 fq630311 fq630312 r630324 fq631154 r631161 fq631162 fq631182 fq631183 bo631189 ht631191 r631212 fq631213 fq631215 bo631221 ht631223 r631385 fq631386 fq631388 he631390 hz631392 bz631392 r631400 hk631426 x631414 x631415 x631416 x631417 x631418p.down x631419 x631420p.down x631421p.down x631422 ht631423 r631500 ez631505 n631508 fq631515 r631546 n631549 fq631556 ht)
                            · have r631585 : o631413.toInt < 0 := gj_nleL hc631499 (show Int32.toInt 0 = 0 by decide)
                              have bo631413' : gB o631413 (-1) (-1) := ⟨by omega, by omega⟩
                              have hx631586 : tl_RModel_spill_90 D I γ0 el0 f P590089 F590090 q590091 F625265 q590092 g628546 q628689 P628547 F628548 gm_F628548 el_F628548 (0 : Int32) 210 F631425 P631424 gm_F631425 el_F631425 := kt90_630223 210 F631425 P631424 gm_F631425 el_F631425 (tl_RModel_spill_90_k20 D I γ0 el0 f P590089 F590090 q590091 F625265 q590092 g628546 q628689 P630201 F630202 gm_F630202 el_F630202 g630200 q630280 p630304 q630281 p631168 p631173 o631189 p631170 p631174 o631221 f631391 z631392 P631424 F631425 gm_F631425 el_F631425 o631413 bg630200 hT630203 hs630204 x630211 x630212 x630213 x630214 x630216 x630217 x630218 x630219 x630220 x630221 x630222 fq630300 fq630311 fq630312 r630324 fq631154 r631161 fq631162 fq631182 fq631183 bo631189 ht631191 r631212 fq631213 fq631215 bo631221 ht631223 r631385 fq631388 he631390 hz631392 bz631392 r631400 hk631426 x631414 x631415 x631416 x631417 x631418 x631419 x631420 x631421 x631422 ht631423 r631585)
                              have hx631587 : tl_RModel_spill_73 D I γ0 el0 f P590089 F590090 q590091 F625265 q590092 P625264 F625265 gm_hg625354 el_F625265 (0 : Int32) 210 F631425 P631424 gm_F631425 el_F631425 := kt73_628563 210 F631425 P631424 gm_F631425 el_F631425 (fun R c1 c2 c3 c4 c5 => c5 P628547 F628548 gm_F628548 el_F628548 g628546 p628623 q628620 q628689 p628671 F631425 P631424 gm_F631425 el_F631425 bg628546 hT628549 hs628550 x628553 x628554 x628555 x628556 x628558 x628559 x628560 x628561 x628562 fq628645 r628667 fq628694 hx628690 fq628712 ht628718 hx631586)
                              refine G_iconst 0 dr_cX17_spill_210 (by decide +kernel) ?_
                              exact G_zretA FieldType.boolean dr_cX17_spill_211 rfl rfl (rm_zc pk631447) (rm_zs pk631447) ⟨P631424, F631425, gm_F631425, el_F631425, 0, rfl, rfl, hs631431, (rm_pp hph631446), hB631429, (gB_w (gBl (show Int32.toInt 0 = 0 by decide)) (by decide) (by decide)), (by have qa0 : Int32.toInt 0 = 0 := (by decide); omega), (Or.inl (by decide)), kp631432, mk631445, (fun R c1 c2 c3 c4 c5 c6 => c5 gm_0 el_0 F625265 P625264 gm_F625265 el_F625265 p625290 gm_hg625354 F631425 P631424 gm_F631425 el_F631425 hγ0 hel0 hx625348 fq625355 hg625354 hx631587)⟩
                    · have r631588 : g630200.toInt < p630304.toInt := gC_nle hc631160
                      have bg630200'' : gB g630200 0 999999 := ⟨by omega, by omega⟩
                      have bp630304' : gB p630304 1 1000000 := ⟨by omega, by omega⟩
                      refine G_aload_n 1 dr_cX17_spill_114 rfl ?_
                      refine Gp_get 0 hm630278 he630279 dr_cX17_spill_115 (gk_X12 D I) (Nat.le_of_ble_eq_true rfl) wr_9_220 rfl ?_
                      refine G_iload 0 dr_cX17_spill_118 rfl ?_
                      obtain ⟨r631589, r631590, n631597, f631598, r631591, r631592, r631593, r631594, r631595, r631596⟩ := rLC_n r630308 (by omega)
                      have hm631599 : q630305 ∈ P630201 := RS_m hT630203 r631589 (by decide)
                      obtain ⟨q631600, hx631601⟩ : ∃ x, x = el_F630202 q630280 g630200.toInt.toNat := ⟨_, rfl⟩
                      have hx631602 : f631598 g630200.toNatClampNeg = some q631600 := (r631595 _ (show g630200.toInt.toNat < gm_F630202 2 q630280 by first | assumption | omega)).trans (by rw [hx631601])
                      have ht631603 : rKd gm_F630202 q631600 1 := by rw [hx631601]; exact (r630309 _ (show g630200.toInt.toNat < gm_F630202 2 q630280 by first | assumption | omega)).1
                      have ht631604 : rFm gm_F630202 q631600 q630280 := by rw [hx631601]; exact (r630309 _ (show g630200.toInt.toNat < gm_F630202 2 q630280 by first | assumption | omega)).2.1
                      have hf631605 : gm_F630202 1 q631600 = f := (show gm_F630202 1 q631600 = gm_F630202 1 q630280 from ht631604).trans hf630293
                      refine Gw_callV (As := [.int g630200]) (gV_ok D I) (cp_22_ArrayList_get l hl0 D I P630201 F630202 q630280 q630305 g630200 p630303 p630304 f631598 n631597 q631600 hm630301 hm631599 he630302 r631591 (gB_w bg630200'' (by decide) (by decide)) (gB_w bp630304' (by decide) (by decide)) (by omega) (by omega) (by assumption) (by omega)) dr_cX17_spill_120 ⟨wr_10_201, wr_1_18, wr_10_65, by decide, rfl, (Nat.le_of_ble_eq_true rfl), (Nat.le_of_ble_eq_true rfl)⟩ wr_10_63 wr_10_64 hm630301 he630302 rfl (rm_zc pk630227) (rm_zs pk630227) (Nat.le_of_ble_eq_true rfl) (fun r631609 w631610 dc631606 ds631607 hp631608 => ?_) (fun _ _ _ _ _ z => z.elim)
                      obtain ⟨rfl, rfl, hdc, hds, ht631611⟩ := hp631608
                      change G _ _ _ _ _ _ _ (.ref q631600 :: _) _ _ _
                      refine G_widen (cs' := ((rPh gm_F630202 el_F630202 f - rPh γ0 el0 f) / 18)) (sl' := (rPh gm_F630202 el_F630202 f - rPh γ0 el0 f)) (rm_d0 hdc) (rm_d0 hds) ?_
                      have hm631612 : q631600 ∈ P630201 := RS_m hT630203 ht631603 (by decide)
                      obtain ⟨p631614, p631615, p631616, p631617, p631618, p631619, p631620, he631613, bp631614, bp631615, bp631618, bp631619, bp631620, r631621, r631622, r631623, r631624, r631625⟩ := show rk_1 gm_F630202 q631600 (F630202 q631600) from RS_o hT630203 ht631603
                      have bp631616 := gB_any p631616
                      have bp631617 := gB_any p631617
                      replace r631621 : gH _ := r631621
                      replace r631622 : gH _ := r631622
                      replace r631623 : gH _ := r631623
                      replace r631624 : gH _ := r631624
                      replace r631625 : gH _ := r631625
                      have r631626 : gm_F630202 7 (gm_F630202 1 q631600) = gm_F630202 7 f := by rw [hf631605]
                      refine Gp_cast hm631612 he631613 rfl dr_cX17_spill_123 wr_10_202 (gr_cast 1 rfl) ?_
                      refine G_goto 133 dr_cX17_spill_126 (by decide +kernel) ?_
                      have fl631629 : p630304.toInt = gm_F630202 2 q630280 := r630306
                      have hp631627 : rAt gm_F630202 el_F630202 q590092 (g628546.toInt : Int).toNat (g630200.toInt : Int).toNat = q631600 := (rAt_r r630210 ht630290.1 (by omega)).trans (by rw [hx631601])
                      have hL631628 : (g630200.toInt : Int).toNat ≤ gm_F630202 2 (rwL gm_F630202 el_F630202 q590092 (g628546.toInt : Int).toNat) := by unfold rwL; rw [r630210, ht630290.1]; exact tn_le0 (by omega) (by omega)
                      have pl631630 := sp_hd x630218 hp631627 (show (g628546.toInt : Int).toNat < gm_F630202 6 f from tn_lt (by omega) (by omega)) hL631628
                      refine G_astore (L' := [(5, .ref q631600), (4, .int g630200), (3, .ref q628689), (2, .int g628546), (0, .ref q590091), (1, .ref q590092)]) dr_cX17_spill_133 (Nat.le_of_ble_eq_true rfl) rfl ?_
                      refine G_aload 0 dr_cX17_spill_135 rfl ?_
                      have fq631631 : fI (F630202 q631600) 0 = p631614 := by rw [he631613]; rfl
                      have fq631632 : fI (F630202 q631600) 5 = p631619 := by rw [he631613]; rfl
                      refine Gw_callV (As := []) (gV_ok D I) (cp_410173_Row_usesA l hl0 D I P630201 F630202 q631600 p631614 p631615 p631616 p631617 p631618 p631619 p631620 hm631612 he631613 bp631614 bp631615 bp631618 bp631619 bp631620) dr_cX17_spill_137 ⟨wr_10_192, wr_1_39, wr_10_195, by decide, rfl, (Nat.le_of_ble_eq_true rfl), (Nat.le_of_ble_eq_true rfl)⟩ wr_10_193 wr_10_194 hm631612 he631613 rfl (rm_zc pk630227) (rm_zs pk630227) (Nat.le_of_ble_eq_true rfl) (fun r631636 w631637 dc631633 ds631634 hp631635 => ?_) (fun _ _ _ _ _ z => z.elim)
                      obtain ⟨o631638, rfl, rfl, hdc, hds, bo631638, x631639, ht631640⟩ := hp631635
                      change G _ _ _ _ _ _ _ (.int o631638 :: _) _ _ _
                      refine G_widen (cs' := ((rPh gm_F630202 el_F630202 f - rPh γ0 el0 f) / 18)) (sl' := (rPh gm_F630202 el_F630202 f - rPh γ0 el0 f)) (rm_d0 hdc) (rm_d0 hds) ?_
                      refine G_if_eq 151 dr_cX17_spill_140 (by decide +kernel) (fun hc631641 => ?_) (fun hc631641 => ?_)
                      · have r631642 : o631638.toInt = 0 := gj_eq hc631641 (show Int32.toInt 0 = 0 by decide)
                        have bo631638' : gB o631638 0 0 := gB_t0 r631642
                        refine G_iconst (-1) dr_cX17_spill_151 (by decide +kernel) ?_
                        refine G_istore (L' := [(6, .int (-1)), (5, .ref q631600), (4, .int g630200), (3, .ref q628689), (2, .int g628546), (0, .ref q590091), (1, .ref q590092)]) dr_cX17_spill_152 (Nat.le_of_ble_eq_true rfl) rfl ?_
                        refine G_aload 1 dr_cX17_spill_154 rfl ?_
                        have fq631643 : fI (F630202 q631600) 6 = p631620 := by rw [he631613]; rfl
                        refine Gw_callV (As := []) (gV_ok D I) (cp_410197_Row_usesB l hl0 D I P630201 F630202 q631600 p631614 p631615 p631616 p631617 p631618 p631619 p631620 hm631612 he631613 bp631614 bp631615 bp631618 bp631619 bp631620) dr_cX17_spill_156 ⟨wr_10_196, wr_1_39, wr_10_199, by decide, rfl, (Nat.le_of_ble_eq_true rfl), (Nat.le_of_ble_eq_true rfl)⟩ wr_10_197 wr_10_198 hm631612 he631613 rfl (rm_zc pk630227) (rm_zs pk630227) (Nat.le_of_ble_eq_true rfl) (fun r631647 w631648 dc631644 ds631645 hp631646 => ?_) (fun _ _ _ _ _ z => z.elim)
                        obtain ⟨o631649, rfl, rfl, hdc, hds, bo631649, x631650, ht631651⟩ := hp631646
                        change G _ _ _ _ _ _ _ (.int o631649 :: _) _ _ _
                        refine G_widen (cs' := ((rPh gm_F630202 el_F630202 f - rPh γ0 el0 f) / 18)) (sl' := (rPh gm_F630202 el_F630202 f - rPh γ0 el0 f)) (rm_d0 hdc) (rm_d0 hds) ?_
                        refine G_if_eq 170 dr_cX17_spill_159 (by decide +kernel) (fun hc631652 => ?_) (fun hc631652 => ?_)
                        · have r631653 : o631649.toInt = 0 := gj_eq hc631652 (show Int32.toInt 0 = 0 by decide)
                          have bo631649' : gB o631649 0 0 := gB_t0 r631653
                          refine G_iconst (-1) dr_cX17_spill_170 (by decide +kernel) ?_
                          refine G_istore (L' := [(7, .int (-1)), (6, .int (-1)), (5, .ref q631600), (4, .int g630200), (3, .ref q628689), (2, .int g628546), (0, .ref q590091), (1, .ref q590092)]) dr_cX17_spill_171 (Nat.le_of_ble_eq_true rfl) rfl ?_
                          refine G_iload 1 dr_cX17_spill_173 rfl ?_
                          refine G_if_lt 236 dr_cX17_spill_175 (by decide +kernel) (fun _ => ?_) (fun hc => absurd hc (by decide))
                          have ac631654 : (fI (F630202 q590091) 11).toInt = p630235.toInt := by rw [he630230]; rfl
                          have ac631655 : (fI (F630202 q590091) 14).toInt = p630238.toInt := by rw [he630230]; rfl
                          refine G_lv (L' := [(0, .ref q590091), (1, .ref q590092), (2, .int g628546), (3, .ref q628689), (4, .int g630200), (5, .ref q631600), (6, .int (-1)), (7, .int (-1))]) [6, 7, 5, 4, 3, 2, 1, 0] rfl ?_
                          exact jn236_630882 P630201 F630202 gm_F630202 el_F630202 g630200 q631600 (-1) (-1) (gB_w bg630200'' (by decide) (by decide)) (gB_w (gBl (show Int32.toInt (-1) = (-1) by decide)) (by decide) (by decide)) (gB_w (gBl (show Int32.toInt (-1) = (-1) by decide)) (by decide) (by decide)) hT630203 hs630204 hph630205 hB630206 ht630207 hf630208 r630209 r630210 ht631603 hf631605 (by have qa0 : Int32.toInt (-1) = (-1) := (by decide); omega) (by have qa0 : Int32.toInt (-1) = (-1) := (by decide); omega) (by have qa0 : Int32.toInt (-1) = (-1) := (by decide); omega) (by have qa0 : Int32.toInt (-1) = (-1) := (by decide); omega) (by have qa0 : Int32.toInt (-1) = (-1) := (by decide); omega) (by have qa0 : Int32.toInt (-1) = (-1) := (by decide); omega) x630217 (by exact pl631630.1) (by exact hp631627) (rS1_of he631613 he631613 pl631630.2 (fun h1 h2 h3 h4 => (uA_0 x631639 (by omega) h1 h2 h3 h4).elim) (fun h1 h2 h3 => (uB_0 x631650 (by omega) h1 h2 h3).elim)) (by have qa0 : Int32.toInt (-1) = (-1) := (by decide); omega) (by have qa0 : Int32.toInt (-1) = (-1) := (by decide); omega) (ms_j hm90_630222 (by omega) (by omega) (by omega)) (eO_l (by omega)) x630221 x630222 (fun k e1 e2 e3 e4 ht => tl_RModel_spill_90_k21 D I γ0 el0 f P590089 F590090 q590091 F625265 q590092 g628546 q628689 P630201 F630202 gm_F630202 el_F630202 g630200 q630280 p630304 q631600 p631614 p631619 o631638 p631620 o631649 k e1 e2 e3 e4 bg630200 hT630203 hs630204 x630211 x630212 x630213 x630214 x630216 x630217 x630218 x630219 x630220 x630221 x630222 fq630300 fq630311 fq630312 r630324 fq631154 r631588 hx631601 ht631611 fq631631 fq631632 bo631638 ht631640 r631642 fq631643 bo631649 ht631651 r631653 ht)
                        · have r631656 : o631649.toInt ≠ 0 := gj_neq hc631652 (show Int32.toInt 0 = 0 by decide)
                          have bo631649' : gB o631649 1 1 := gB_t1 bo631649 r631656
                          refine G_aload 1 dr_cX17_spill_162 rfl ?_
                          have fq631657 : fI (F630202 q631600) 3 = p631617 := by rw [he631613]; rfl
                          refine Gp_get 3 hm631612 he631613 dr_cX17_spill_164 (gk_X15 D I) (Nat.le_of_ble_eq_true rfl) wr_9_190 rfl ?_
                          have rb631658 : gB p631617 0 1999 := (gHe r631623).resolve_left (by have z := (uB_1 x631650 (by omega)).2.2; omega)
                          refine G_goto 171 dr_cX17_spill_167 (by decide +kernel) ?_
                          refine G_istore (L' := [(7, .int p631617), (6, .int (-1)), (5, .ref q631600), (4, .int g630200), (3, .ref q628689), (2, .int g628546), (0, .ref q590091), (1, .ref q590092)]) dr_cX17_spill_171 (Nat.le_of_ble_eq_true rfl) rfl ?_
                          refine G_iload 1 dr_cX17_spill_173 rfl ?_
                          refine G_if_lt 236 dr_cX17_spill_175 (by decide +kernel) (fun _ => ?_) (fun hc => absurd hc (by decide))
                          have ac631659 : (fI (F630202 q590091) 11).toInt = p630235.toInt := by rw [he630230]; rfl
                          have ac631660 : (fI (F630202 q590091) 14).toInt = p630238.toInt := by rw [he630230]; rfl
                          refine G_lv (L' := [(0, .ref q590091), (1, .ref q590092), (2, .int g628546), (3, .ref q628689), (4, .int g630200), (5, .ref q631600), (6, .int (-1)), (7, .int p631617)]) [6, 7, 5, 4, 3, 2, 1, 0] rfl ?_
                          exact jn236_630882 P630201 F630202 gm_F630202 el_F630202 g630200 q631600 (-1) p631617 (gB_w bg630200'' (by decide) (by decide)) (gB_w (gBl (show Int32.toInt (-1) = (-1) by decide)) (by decide) (by decide)) (gB_w rb631658 (by decide) (by decide)) hT630203 hs630204 hph630205 hB630206 ht630207 hf630208 r630209 r630210 ht631603 hf631605 (by have qa0 : Int32.toInt (-1) = (-1) := (by decide); omega) (by have qa0 : Int32.toInt (-1) = (-1) := (by decide); omega) (by have qa0 : Int32.toInt (-1) = (-1) := (by decide); omega) (by have qa0 : Int32.toInt (-1) = (-1) := (by decide); omega) (by have qa0 : Int32.toInt (-1) = (-1) := (by decide); omega) (by have qa0 : Int32.toInt (-1) = (-1) := (by decide); omega) x630217 (by exact pl631630.1) (by exact hp631627) (rS1_of he631613 he631613 pl631630.2 (fun h1 h2 h3 h4 => (uA_0 x631639 (by omega) h1 h2 h3 h4).elim) (fun _ _ _ => Or.inr ⟨rfl, rfl, by omega, Or.inl (by have qa : Int32.toInt (-1) = -1 := (by decide); omega)⟩)) (by have qa0 : Int32.toInt (-1) = (-1) := (by decide); omega) (by have qa0 : Int32.toInt (-1) = (-1) := (by decide); omega) (ms_j hm90_630222 (by omega) (by omega) (by omega)) (eO_l (by omega)) x630221 x630222 (fun k e1 e2 e3 e4 ht => tl_RModel_spill_90_k22 D I γ0 el0 f P590089 F590090 q590091 F625265 q590092 g628546 q628689 P630201 F630202 gm_F630202 el_F630202 g630200 q630280 p630304 q631600 p631614 p631619 o631638 p631620 o631649 p631617 k e1 e2 e3 e4 bg630200 hT630203 hs630204 x630211 x630212 x630213 x630214 x630216 x630217 x630218 x630219 x630220 x630221 x630222 fq630300 fq630311 fq630312 r630324 fq631154 r631588 hx631601 ht631611 fq631631 fq631632 bo631638 ht631640 r631642 fq631643 bo631649 ht631651 r631656 fq631657 ht)
                      · have r631661 : o631638.toInt ≠ 0 := gj_neq hc631641 (show Int32.toInt 0 = 0 by decide)
                        have bo631638' : gB o631638 1 1 := gB_t1 bo631638 r631661
                        refine G_aload 0 dr_cX17_spill_143 rfl ?_
                        have fq631662 : fI (F630202 q631600) 2 = p631616 := by rw [he631613]; rfl
                        refine Gp_get 2 hm631612 he631613 dr_cX17_spill_145 (gk_X15 D I) (Nat.le_of_ble_eq_true rfl) wr_9_186 rfl ?_
                        have rb631663 : gB p631616 0 1999 := (gHe r631622).resolve_left (by have z := (uA_1 x631639 (by omega)).2.2.2; omega)
                        refine G_goto 152 dr_cX17_spill_148 (by decide +kernel) ?_
                        refine G_istore (L' := [(6, .int p631616), (5, .ref q631600), (4, .int g630200), (3, .ref q628689), (2, .int g628546), (0, .ref q590091), (1, .ref q590092)]) dr_cX17_spill_152 (Nat.le_of_ble_eq_true rfl) rfl ?_
                        refine G_aload 1 dr_cX17_spill_154 rfl ?_
                        have fq631664 : fI (F630202 q631600) 6 = p631620 := by rw [he631613]; rfl
                        refine Gw_callV (As := []) (gV_ok D I) (cp_410197_Row_usesB l hl0 D I P630201 F630202 q631600 p631614 p631615 p631616 p631617 p631618 p631619 p631620 hm631612 he631613 bp631614 bp631615 bp631618 bp631619 bp631620) dr_cX17_spill_156 ⟨wr_10_196, wr_1_39, wr_10_199, by decide, rfl, (Nat.le_of_ble_eq_true rfl), (Nat.le_of_ble_eq_true rfl)⟩ wr_10_197 wr_10_198 hm631612 he631613 rfl (rm_zc pk630227) (rm_zs pk630227) (Nat.le_of_ble_eq_true rfl) (fun r631668 w631669 dc631665 ds631666 hp631667 => ?_) (fun _ _ _ _ _ z => z.elim)
                        obtain ⟨o631670, rfl, rfl, hdc, hds, bo631670, x631671, ht631672⟩ := hp631667
                        change G _ _ _ _ _ _ _ (.int o631670 :: _) _ _ _
                        refine G_widen (cs' := ((rPh gm_F630202 el_F630202 f - rPh γ0 el0 f) / 18)) (sl' := (rPh gm_F630202 el_F630202 f - rPh γ0 el0 f)) (rm_d0 hdc) (rm_d0 hds) ?_
                        refine G_if_eq 170 dr_cX17_spill_159 (by decide +kernel) (fun hc631673 => ?_) (fun hc631673 => ?_)
                        · have r631674 : o631670.toInt = 0 := gj_eq hc631673 (show Int32.toInt 0 = 0 by decide)
                          have bo631670' : gB o631670 0 0 := gB_t0 r631674
                          refine G_iconst (-1) dr_cX17_spill_170 (by decide +kernel) ?_
                          refine G_istore (L' := [(7, .int (-1)), (6, .int p631616), (5, .ref q631600), (4, .int g630200), (3, .ref q628689), (2, .int g628546), (0, .ref q590091), (1, .ref q590092)]) dr_cX17_spill_171 (Nat.le_of_ble_eq_true rfl) rfl ?_
                          refine G_iload 1 dr_cX17_spill_173 rfl ?_
                          refine G_if_lt 236 dr_cX17_spill_175 (by decide +kernel) (fun hc => absurd (show False by have := gj_lt hc (show Int32.toInt 0 = 0 by decide); omega) not_false) (fun _ => ?_)
                          refine G_aload_n 6 dr_cX17_spill_178 rfl ?_
                          have fq631675 : fR (F630202 q590091) 19 = (gm_F630202 9 19) := by rw [he630230]; rfl
                          refine Gp_get 19 hm630229 he630230 dr_cX17_spill_179 (gk_X17 D I) (Nat.le_of_ble_eq_true rfl) wr_7_93 rfl ?_
                          refine G_iload 1 dr_cX17_spill_182 rfl ?_
                          have hm631676 : (gm_F630202 9 19) ∈ P630201 := RS_m hT630203 ht630263 (by decide)
                          obtain ⟨f631678, he631677, bf631678⟩ := show rk_21 I (F630202 (gm_F630202 9 19)) from RS_o hT630203 ht630263
                          refine Gp_iald 0 hm631676 he631677 dr_cX17_spill_184 rfl (gB_in rb631663 (by decide) (by decide)) (G_nam fun z631679 hz631679 => ?_)
                          have bz631679 : gB z631679 (-1) 1999 := by rw [hz631679]; exact bf631678 _
                          have c9_631680 : cB (F625265 (γ0 9 19)) = f631678 := by rw [← x630217, ← congrFun (rSk_9 hs630204) 19]; exact cB_of he631677
                          have hs631681 : (cB (F625265 (γ0 9 19)) p631616.toInt.toNat).toInt = z631679.toInt := by rw [c9_631680, hz631679]; rfl
                          refine G_if_lt 236 dr_cX17_spill_185 (by decide +kernel) (fun hc631683 => ?_) (fun hc631683 => ?_)
                          · have r631684 : z631679.toInt < 0 := gj_lt hc631683 (show Int32.toInt 0 = 0 by decide)
                            have bz631679' : gB z631679 (-1) (-1) := ⟨by omega, by omega⟩
                            have ac631685 : (fI (F630202 q590091) 11).toInt = p630235.toInt := by rw [he630230]; rfl
                            have ac631686 : (fI (F630202 q590091) 14).toInt = p630238.toInt := by rw [he630230]; rfl
                            refine G_lv (L' := [(0, .ref q590091), (1, .ref q590092), (2, .int g628546), (3, .ref q628689), (4, .int g630200), (5, .ref q631600), (6, .int p631616), (7, .int (-1))]) [6, 7, 5, 4, 3, 2, 1, 0] rfl ?_
                            exact jn236_630882 P630201 F630202 gm_F630202 el_F630202 g630200 q631600 p631616 (-1) (gB_w bg630200'' (by decide) (by decide)) (gB_w rb631663 (by decide) (by decide)) (gB_w (gBl (show Int32.toInt (-1) = (-1) by decide)) (by decide) (by decide)) hT630203 hs630204 hph630205 hB630206 ht630207 hf630208 r630209 r630210 ht631603 hf631605 (by have qa0 : Int32.toInt (-1) = (-1) := (by decide); omega) (by have qa0 : Int32.toInt (-1) = (-1) := (by decide); omega) (by have qa0 : Int32.toInt (-1) = (-1) := (by decide); omega) (by have qa0 : Int32.toInt (-1) = (-1) := (by decide); omega) (by have qa0 : Int32.toInt (-1) = (-1) := (by decide); omega) (by have qa0 : Int32.toInt (-1) = (-1) := (by decide); omega) x630217 (by exact pl631630.1) (by exact hp631627) (rS1_of he631613 he631613 pl631630.2 (fun _ _ _ _ => Or.inr ⟨rfl, by omega⟩) (fun h1 h2 h3 => (uB_0 x631671 (by omega) h1 h2 h3).elim)) (by have qa0 : Int32.toInt (-1) = (-1) := (by decide); omega) (by have qa0 : Int32.toInt (-1) = (-1) := (by decide); omega) (ms_j hm90_630222 (by omega) (by omega) (by omega)) (eO_l (by omega)) x630221 x630222 (fun k e1 e2 e3 e4 ht => tl_RModel_spill_90_k23 D I γ0 el0 f P590089 F590090 q590091 F625265 q590092 g628546 q628689 P630201 F630202 gm_F630202 el_F630202 g630200 q630280 p630304 q631600 p631614 p631619 o631638 p631616 p631620 o631670 f631678 z631679 k e1 e2 e3 e4 bg630200 hT630203 hs630204 x630211 x630212 x630213 x630214 x630216 x630217 x630218 x630219 x630220 x630221 x630222 fq630300 fq630311 fq630312 r630324 fq631154 r631588 hx631601 ht631611 fq631631 fq631632 bo631638 ht631640 r631661 fq631662 fq631664 bo631670 ht631672 r631674 fq631675 he631677 hz631679 bz631679 r631684 ht)
                          · have r631687 : 0 ≤ z631679.toInt := gj_nlt hc631683 (show Int32.toInt 0 = 0 by decide)
                            have bz631679' : gB z631679 0 1999 := ⟨by omega, by omega⟩
                            refine G_aload_n 6 dr_cX17_spill_188 rfl ?_
                            refine G_aload_n 7 dr_cX17_spill_189 rfl ?_
                            refine G_aload_n 4 dr_cX17_spill_190 rfl ?_
                            refine G_iload 3 dr_cX17_spill_191 rfl ?_
                            refine G_aload_n 6 dr_cX17_spill_193 rfl ?_
                            refine Gp_get 19 hm630229 he630230 dr_cX17_spill_194 (gk_X17 D I) (Nat.le_of_ble_eq_true rfl) wr_7_93 rfl ?_
                            refine G_iload 1 dr_cX17_spill_197 rfl ?_
                            refine Gp_iald 0 hm631676 he631677 dr_cX17_spill_199 rfl (gB_in rb631663 (by decide) (by decide)) (G_eqi (y := z631679) hz631679.symm ?_)
                            have r631688 := (spi625351.2.2.2 p631616.toInt.toNat (tn_lt (by omega) (by omega)) (by omega)).2.2
                            have ac631689 : (fI (F630202 q590091) 11).toInt = p630235.toInt := by rw [he630230]; rfl
                            have ac631690 : (fI (F630202 q590091) 14).toInt = p630238.toInt := by rw [he630230]; rfl
                            have rg631691 := rM_ge hT630203 ht630225 hf630226
                            have rm631692 := rM_bd hB630206
                            have bd631693 := rBd_c hT630203 ht630225 hf630226 hB630206
                            have rc631694 := rc_at hT630203 ht630225 hf630226
                            refine Gw_callV (As := [.ref q590092, .ref q628689, .int g630200, .int z631679]) (gV_ok D I) (cg_409800_SpillForgeModel_load l hl0 D I gm_F630202 el_F630202 f B P630201 F630202 q590091 q590092 q628689 g630200 z631679 g628546.toInt.toNat hT630203 ht630224 ht630225 ht630207 hf630226 hB630206 hBk r630209 r630210 hf630208 (gB_w bg630200'' (by decide) (by decide)) bz631679' (by have qa0 : Int32.toInt (-1) = (-1) := (by decide); omega) (by have qa0 : Int32.toInt (-1) = (-1) := (by decide); omega) (by have qa0 : Int32.toInt (-1) = (-1) := (by decide); omega) (by have qa0 : Int32.toInt (-1) = (-1) := (by decide); omega) (by have qa0 : Int32.toInt (-1) = (-1) := (by decide); omega)) dr_cX17_spill_200 ⟨wr_11_67, wr_1_14, wr_11_70, by decide, rfl, (Nat.le_of_ble_eq_true rfl), (Nat.le_of_ble_eq_true rfl)⟩ wr_11_69 wr_p_111 hm630229 he630230 rfl (rm_gc hph630205 pk630227) (rm_gs hph630205 pk630227) (Nat.le_of_ble_eq_true rfl) (fun r631698 w631699 dc631695 ds631696 hp631697 => ?_) (fun _ _ _ _ _ z => z.elim)
                            obtain ⟨P631711, F631712, gm_F631712, el_F631712, o631700, rfl, rfl, hk631713, ⟨hr631714, hr631715⟩, hB631716, bo631700, x631701, x631702, x631703, x631704, x631705, x631706, x631707, x631708, x631709, ht631710⟩ := hp631697
                            have hT631717 := hk631713.1
                            have hs631718 := rSk_tr hs630204 hk631713 (by decide) (by decide) (by decide)
                            have kp631719 : F631712 (γ0 9 3) = F590090 (γ0 9 3) := (rSk_F hk631713 (rSk_k hs630204 k0_3 (by decide) (by decide)) (by decide) (by decide)).trans x630221
                            have kp631720 : F631712 (γ0 9 19) = F625265 (γ0 9 19) := (rSk_F hk631713 (rSk_k hs630204 k0_19 (by decide) (by decide)) (by decide) (by decide)).trans x630217
                            have ht631721 : rKd gm_F631712 q590091 10 := rSk_k hk631713 ht630224 (by decide) (by decide)
                            have ht631722 : rKd gm_F631712 q590092 9 := rSk_k hk631713 ht630225 (by decide) (by decide)
                            have hf631723 : gm_F631712 1 q590092 = f := rSk_1 hk631713 ht630225 (by decide) hf630226
                            have ht631724 : rKd gm_F631712 q628689 2 := rSk_k hk631713 ht630207 (by decide) (by decide)
                            have hf631725 : gm_F631712 1 q628689 = f := rSk_1 hk631713 ht630207 (by decide) hf630208
                            have ht631726 : rKd gm_F631712 q630280 3 := rSk_k hk631713 ht630284 (by decide) (by decide)
                            have hf631727 : gm_F631712 1 q630280 = f := rSk_1 hk631713 ht630284 (by decide) hf630293
                            have ht631728 : rKd gm_F631712 q631600 1 := rSk_k hk631713 ht631603 (by decide) (by decide)
                            have hf631729 : gm_F631712 1 q631600 = f := rSk_1 hk631713 ht631603 (by decide) hf631605
                            have he631730 : F631712 q631600 = .inr (20, [.int p631614, .int p631615, .int p631616, .int p631617, .int p631618, .int p631619, .int p631620]) := (rSk_F hk631713 ht631603 (by decide) (by decide)).trans he631613
                            have hm631731 : q631600 ∈ P631711 := RS_m hT631717 ht631728 (by decide)
                            clear bp630282 bp630283 r630291 r630292 rg631691 rm631692 bd631693 rc631694
                            have mk631732 : mKp (F590090 q590091) (F631712 q590091) := mKp_tr x630222 x631709
                            have hph631733 : rPh γ0 el0 f ≤ rPh gm_F631712 el_F631712 f := rm_ph hph630205 hr631715
                            have pk631734 : rPh gm_F631712 el_F631712 f ≤ 387 * B + 6000 := rm_pk (rM_ge hT631717 ht631722 hf631723).1 (rM_bd hB631716)
                            change G _ _ _ _ _ _ _ (.int o631700 :: _) _ _ _
                            refine G_widen (cs' := ((rPh gm_F631712 el_F631712 f - rPh γ0 el0 f) / 18)) (sl' := (rPh gm_F631712 el_F631712 f - rPh γ0 el0 f)) (rm_wc hph630205 hr631714) (rm_ws hph630205 hr631715) ?_
                            have sz631735 := x631701
                            have r631736 : 0 < gm_F631712 6 (gm_F631712 1 q590092) := by rw [hf631723]; omega
                            have hm631737 : q590091 ∈ P631711 := RS_m hT631717 ht631721 (by decide)
                            refine rk10_e (show rk_10 gm_F631712 (F631712 q590091) from RS_o hT631717 ht631721) (fun q631739 q631740 p631741 p631742 p631743 p631744 p631745 p631746 p631747 p631748 p631749 p631750 p631751 p631752 p631753 p631754 p631755 he631738 hB631782 ht631756 ht631757 ht631758 ht631759 ht631760 ht631761 ht631762 ht631763 ht631764 ht631765 ht631766 ht631767 ht631768 ht631769 ht631770 ht631771 ht631772 ht631773 ht631774 ht631775 ht631776 ht631777 ht631778 ht631779 hB631783 => ?_)
                            have ac631784 : (fI (F631712 q590091) 11).toInt = p631743.toInt := by rw [he631738]; rfl
                            have bp631743 : gB p631743 0 100 := (hB631782.2.2.1)
                            have ac631785 : (fI (F631712 q590091) 14).toInt = p631746.toInt := by rw [he631738]; rfl
                            have bp631746 : gB p631746 0 2000 := (hB631782.2.2.2.1)
                            refine G_istore (L' := [(8, .int o631700), (7, .int (-1)), (6, .int p631616), (5, .ref q631600), (4, .int g630200), (3, .ref q628689), (2, .int g628546), (0, .ref q590091), (1, .ref q590092)]) dr_cX17_spill_203 (Nat.le_of_ble_eq_true rfl) rfl ?_
                            refine G_iload 0 dr_cX17_spill_205 rfl ?_
                            refine G_if_ge 212 dr_cX17_spill_207 (by decide +kernel) (fun hc631786 => ?_) (fun hc631786 => ?_)
                            · have r631787 : 0 ≤ o631700.toInt := gj_leL hc631786 (show Int32.toInt 0 = 0 by decide)
                              have bo631700' : gB o631700 0 1999 := ⟨by omega, by omega⟩
                              have pl631789 := sp_ld (x631707.resolve_left (by omega)) pl631630.1 (tn_ge (by omega)) (rfl : ((g630200.toInt : Int).toNat + 1) = (g630200.toInt : Int).toNat + 1)
                              have hp631790 : rAt gm_F631712 el_F631712 q590092 (g628546.toInt : Int).toNat ((g630200.toInt : Int).toNat + 1) = q631600 := ((x631708.resolve_left (by omega)) (g630200.toInt : Int).toNat (Nat.le_refl _)).trans hp631627
                              have r631791 := x631705.resolve_left (by omega)
                              have x631705p := PLift.up x631705
                              have x631707p := PLift.up x631707
                              have x631708p := PLift.up x631708
                              clear x631705 x631707 x631708
                              obtain ⟨z631792, hz631792⟩ : ∃ z : Int32, z = g630200 + Int32.ofInt 1 := ⟨_, rfl⟩
                              have ez631792 : z631792.toInt = g630200.toInt + 1 := gI_inc hz631792 (by decide) bg630200'' (by decide) (by decide)
                              have bz631792 : gB z631792 1 1000000 := ⟨by omega, by omega⟩
                              refine G_iinc (L' := [(4, .int z631792), (8, .int o631700), (7, .int (-1)), (6, .int p631616), (5, .ref q631600), (3, .ref q628689), (2, .int g628546), (0, .ref q590091), (1, .ref q590092)]) z631792 4 dr_cX17_spill_212 rfl hz631792.symm (Nat.le_of_ble_eq_true rfl) rfl ?_
                              refine G_aload 4 dr_cX17_spill_215 rfl ?_
                              refine G_iload 1 dr_cX17_spill_217 rfl ?_
                              refine Gp_put 2 hm631731 he631730 dr_cX17_spill_219 (gk_X15 D I) (Nat.le_of_ble_eq_true rfl) wr_9_186 rfl rfl rfl (Nat.le_of_ble_eq_true rfl) (fun F631793 e631794 n631795 => ?_)
                              have r631796 := rk1_at hT631717 ht631728 he631730
                              have he631797 : F631793 q590091 = .inr (22, [.ref (gm_F631712 9 0), .ref (gm_F631712 9 1), .ref (gm_F631712 9 2), .ref (gm_F631712 9 3), .ref (gm_F631712 9 4), .ref (gm_F631712 9 5), .ref (gm_F631712 9 6), .ref (gm_F631712 9 7), .ref (gm_F631712 9 8), .int p631741, .int p631742, .int p631743, .int p631744, .int p631745, .int p631746, .ref (gm_F631712 9 15), .ref (gm_F631712 9 16), .ref (gm_F631712 9 17), .ref (gm_F631712 9 18), .ref (gm_F631712 9 19), .ref (gm_F631712 9 20), .ref (gm_F631712 9 21), .ref (gm_F631712 9 22), .int p631747, .int p631748, .int p631749, .int p631750, .int p631751, .ref q631739, .ref (gm_F631712 9 29), .int p631752, .ref (gm_F631712 9 31), .int p631753, .int p631754, .int p631755, .ref q631740]) := (n631795 q590091 (rn_oo he631738 he631730 (by decide))).trans he631738
                              have he631798 : F631793 q631600 = .inr (20, [.int p631614, .int p631615, .int o631700, .int p631617, .int p631618, .int p631619, .int p631620]) := e631794
                              have mk631799 : mKp (F590090 q590091) (F631793 q590091) := mKp_tr mk631732 (mKp_eq (n631795 q590091 (rn_ty ht631721 ht631728 (by decide))))
                              have kp631800 : F631793 (γ0 9 3) = F590090 (γ0 9 3) := (n631795 (γ0 9 3) (rn_ty (rSk_k hs631718 k0_3 (by decide) (by decide)) ht631728 (by decide))).trans kp631719
                              have kp631801 : F631793 (γ0 9 19) = F625265 (γ0 9 19) := (n631795 (γ0 9 19) (rn_ty (rSk_k hs631718 k0_19 (by decide) (by decide)) ht631728 (by decide))).trans kp631720
                              have fq631802 : F631793 q631600 = cF (F631712 q631600) 2 (.int o631700) := by rw [he631798, he631730]; rfl
                              refine G_iload 2 dr_cX17_spill_222 rfl ?_
                              refine G_iload 3 dr_cX17_spill_224 rfl ?_
                              refine G_icmp_ne 236 dr_cX17_spill_226 (by decide +kernel) (fun _ => ?_) (fun hc => absurd (show False by have := gj_eqL hc (show Int32.toInt (-1) = (-1) by decide); omega) not_false)
                              have hT631803 : RS D I P631711 F631793 gm_F631712 el_F631712 := RS_set hT631717 n631795 ht631728 (by decide) ⟨p631614, p631615, o631700, p631617, p631618, p631619, p631620, he631798, bp631614, bp631615, bp631618, bp631619, bp631620, (gHe r631621), (Or.inr bo631700'), (gHe r631623), r631796.1, r631796.2⟩
                              have hs631805 := rSk_put hs631718 hT631803 n631795 ht631728 (by decide) (by decide) (Or.inr (Or.inl hf631729))
                              have hm631807 : q628689 ∈ P631711 := RS_m hT631803 ht631724 (by decide)
                              obtain ⟨q631809, q631810, p631811, p631812, he631808, ht631819, ht631813, ht631814, ht631815, ht631816, ht631817, bp631811, bp631812, r631818, r631820, r631821⟩ := show rk_2 gm_F631712 q628689 (F631793 q628689) from RS_o hT631803 ht631724
                              have hf631822 : gm_F631712 1 q631809 = f := (show gm_F631712 1 q631809 = gm_F631712 1 q628689 from ht631814).trans hf631725
                              have hf631823 : gm_F631712 1 q631810 = f := (show gm_F631712 1 q631810 = gm_F631712 1 q628689 from ht631816).trans hf631725
                              have r631824 : gm_F631712 6 (gm_F631712 1 q628689) = gm_F631712 6 f := by rw [hf631725]
                              have r631825 : gm_F631712 7 (gm_F631712 1 q628689) = gm_F631712 7 f := by rw [hf631725]
                              have r631826 : gm_F631712 19 (gm_F631712 1 q628689) = gm_F631712 19 f := by rw [hf631725]
                              have r631827 := r631818.resolve_left (by omega)
                              clear r631818
                              have r631828 : gm_F631712 2 (gm_F631712 14 q628689) = gm_F631712 2 q631809 := by rw [ht631819.1]
                              have pl631806 := sp_put hT631717 ht631722 hf631723 pl631789 n631795 hp631790 (show (g628546.toInt : Int).toNat < gm_F631712 6 f from tn_lt (by omega) (by omega)) (by unfold rwL; rw [x631704.2.2]; exact tn_le1 (by omega) (by omega))
                              have ac631829 : (fI (F631793 q590091) 11).toInt = p631743.toInt := by rw [he631797]; rfl
                              have ac631830 : (fI (F631793 q590091) 14).toInt = p631746.toInt := by rw [he631797]; rfl
                              refine G_lv (L' := [(0, .ref q590091), (1, .ref q590092), (2, .int g628546), (3, .ref q628689), (4, .int z631792), (5, .ref q631600), (6, .int p631616), (7, .int (-1))]) [7, 8, 6, 5, 0, 4, 3, 2] rfl ?_
                              exact jn236_630882 P631711 F631793 gm_F631712 el_F631712 z631792 q631600 p631616 (-1) (gB_w bz631792 (by decide) (by decide)) (gB_w rb631663 (by decide) (by decide)) (gB_w (gBl (show Int32.toInt (-1) = (-1) by decide)) (by decide) (by decide)) hT631803 hs631805 hph631733 hB631716 ht631724 hf631725 x631704.2.1 x631704.2.2 ht631728 hf631729 (by have qa0 : Int32.toInt (-1) = (-1) := (by decide); omega) (by have qa0 : Int32.toInt (-1) = (-1) := (by decide); omega) (by have qa0 : Int32.toInt (-1) = (-1) := (by decide); omega) (by have qa0 : Int32.toInt (-1) = (-1) := (by decide); omega) (by have qa0 : Int32.toInt (-1) = (-1) := (by decide); omega) (by have qa0 : Int32.toInt (-1) = (-1) := (by decide); omega) kp631801 (by rw [(show (z631792.toInt : Int).toNat = ((g630200.toInt : Int).toNat + 1) from tn_eq1 (by omega) (by omega))]; exact pl631806) (by rw [(show (z631792.toInt : Int).toNat = ((g630200.toInt : Int).toNat + 1) from tn_eq1 (by omega) (by omega))]; exact hp631790) (rS1_of he631613 he631798 pl631630.2 (fun _ _ _ _ => Or.inl (by omega)) (fun h1 h2 h3 => (uB_0 x631671 (by omega) h1 h2 h3).elim)) (by have qa0 : Int32.toInt (-1) = (-1) := (by decide); omega) (by have qa0 : Int32.toInt (-1) = (-1) := (by decide); omega) (ms_j hm90_630222 (by omega) (by omega) (by omega)) (eO_l (by omega)) kp631800 mk631799 (fun k e1 e2 e3 e4 ht => tl_RModel_spill_90_k24 D I γ0 el0 f P590089 F590090 q590091 F625265 q590092 g628546 q628689 P630201 F630202 gm_F630202 el_F630202 g630200 q630280 p630304 q631600 p631614 p631619 o631638 p631616 p631620 o631670 f631678 z631679 P631711 F631712 gm_F631712 el_F631712 o631700 z631792 F631793 k e1 e2 e3 e4 bg630200 hT630203 hs630204 x630211 x630212 x630213 x630214 x630216 x630217 x630218 x630219 x630220 x630221 x630222 fq630300 fq630311 fq630312 r630324 fq631154 r631588 hx631601 ht631611 fq631631 fq631632 bo631638 ht631640 r631661 fq631662 fq631664 bo631670 ht631672 r631674 fq631675 he631677 hz631679 bz631679 r631687 hk631713 x631701 x631702 x631703 x631704 x631705p.down x631706 x631707p.down x631708p.down x631709 ht631710 r631787 ez631792 n631795 fq631802 ht)
                            · have r631831 : o631700.toInt < 0 := gj_nleL hc631786 (show Int32.toInt 0 = 0 by decide)
                              have bo631700' : gB o631700 (-1) (-1) := ⟨by omega, by omega⟩
                              have hx631832 : tl_RModel_spill_90 D I γ0 el0 f P590089 F590090 q590091 F625265 q590092 g628546 q628689 P628547 F628548 gm_F628548 el_F628548 (0 : Int32) 210 F631712 P631711 gm_F631712 el_F631712 := kt90_630223 210 F631712 P631711 gm_F631712 el_F631712 (tl_RModel_spill_90_k25 D I γ0 el0 f P590089 F590090 q590091 F625265 q590092 g628546 q628689 P630201 F630202 gm_F630202 el_F630202 g630200 q630280 p630304 q631600 p631614 p631619 o631638 p631616 p631620 o631670 f631678 z631679 P631711 F631712 gm_F631712 el_F631712 o631700 bg630200 hT630203 hs630204 x630211 x630212 x630213 x630214 x630216 x630217 x630218 x630219 x630220 x630221 x630222 fq630300 fq630311 fq630312 r630324 fq631154 r631588 hx631601 ht631611 fq631631 fq631632 bo631638 ht631640 r631661 fq631662 fq631664 bo631670 ht631672 r631674 fq631675 he631677 hz631679 bz631679 r631687 hk631713 x631701 x631702 x631703 x631704 x631705 x631706 x631707 x631708 x631709 ht631710 r631831)
                              have hx631833 : tl_RModel_spill_73 D I γ0 el0 f P590089 F590090 q590091 F625265 q590092 P625264 F625265 gm_hg625354 el_F625265 (0 : Int32) 210 F631712 P631711 gm_F631712 el_F631712 := kt73_628563 210 F631712 P631711 gm_F631712 el_F631712 (fun R c1 c2 c3 c4 c5 => c5 P628547 F628548 gm_F628548 el_F628548 g628546 p628623 q628620 q628689 p628671 F631712 P631711 gm_F631712 el_F631712 bg628546 hT628549 hs628550 x628553 x628554 x628555 x628556 x628558 x628559 x628560 x628561 x628562 fq628645 r628667 fq628694 hx628690 fq628712 ht628718 hx631832)
                              refine G_iconst 0 dr_cX17_spill_210 (by decide +kernel) ?_
                              exact G_zretA FieldType.boolean dr_cX17_spill_211 rfl rfl (rm_zc pk631734) (rm_zs pk631734) ⟨P631711, F631712, gm_F631712, el_F631712, 0, rfl, rfl, hs631718, (rm_pp hph631733), hB631716, (gB_w (gBl (show Int32.toInt 0 = 0 by decide)) (by decide) (by decide)), (by have qa0 : Int32.toInt (-1) = (-1) := (by decide); have qa1 : Int32.toInt 0 = 0 := (by decide); omega), (Or.inl (by decide)), kp631719, mk631732, (fun R c1 c2 c3 c4 c5 c6 => c5 gm_0 el_0 F625265 P625264 gm_F625265 el_F625265 p625290 gm_hg625354 F631712 P631711 gm_F631712 el_F631712 hγ0 hel0 hx625348 fq625355 hg625354 hx631833)⟩
                        · have r631834 : o631670.toInt ≠ 0 := gj_neq hc631673 (show Int32.toInt 0 = 0 by decide)
                          have bo631670' : gB o631670 1 1 := gB_t1 bo631670 r631834
                          refine G_aload 1 dr_cX17_spill_162 rfl ?_
                          have fq631835 : fI (F630202 q631600) 3 = p631617 := by rw [he631613]; rfl
                          refine Gp_get 3 hm631612 he631613 dr_cX17_spill_164 (gk_X15 D I) (Nat.le_of_ble_eq_true rfl) wr_9_190 rfl ?_
                          have rb631836 : gB p631617 0 1999 := (gHe r631623).resolve_left (by have z := (uB_1 x631671 (by omega)).2.2; omega)
                          refine G_goto 171 dr_cX17_spill_167 (by decide +kernel) ?_
                          refine G_istore (L' := [(7, .int p631617), (6, .int p631616), (5, .ref q631600), (4, .int g630200), (3, .ref q628689), (2, .int g628546), (0, .ref q590091), (1, .ref q590092)]) dr_cX17_spill_171 (Nat.le_of_ble_eq_true rfl) rfl ?_
                          refine G_iload 1 dr_cX17_spill_173 rfl ?_
                          refine G_if_lt 236 dr_cX17_spill_175 (by decide +kernel) (fun hc => absurd (show False by have := gj_lt hc (show Int32.toInt 0 = 0 by decide); omega) not_false) (fun _ => ?_)
                          refine G_aload_n 6 dr_cX17_spill_178 rfl ?_
                          have fq631837 : fR (F630202 q590091) 19 = (gm_F630202 9 19) := by rw [he630230]; rfl
                          refine Gp_get 19 hm630229 he630230 dr_cX17_spill_179 (gk_X17 D I) (Nat.le_of_ble_eq_true rfl) wr_7_93 rfl ?_
                          refine G_iload 1 dr_cX17_spill_182 rfl ?_
                          have hm631838 : (gm_F630202 9 19) ∈ P630201 := RS_m hT630203 ht630263 (by decide)
                          obtain ⟨f631840, he631839, bf631840⟩ := show rk_21 I (F630202 (gm_F630202 9 19)) from RS_o hT630203 ht630263
                          refine Gp_iald 0 hm631838 he631839 dr_cX17_spill_184 rfl (gB_in rb631663 (by decide) (by decide)) (G_nam fun z631841 hz631841 => ?_)
                          have bz631841 : gB z631841 (-1) 1999 := by rw [hz631841]; exact bf631840 _
                          have c9_631842 : cB (F625265 (γ0 9 19)) = f631840 := by rw [← x630217, ← congrFun (rSk_9 hs630204) 19]; exact cB_of he631839
                          have hs631843 : (cB (F625265 (γ0 9 19)) p631616.toInt.toNat).toInt = z631841.toInt := by rw [c9_631842, hz631841]; rfl
                          refine G_if_lt 236 dr_cX17_spill_185 (by decide +kernel) (fun hc631845 => ?_) (fun hc631845 => ?_)
                          · have r631846 : z631841.toInt < 0 := gj_lt hc631845 (show Int32.toInt 0 = 0 by decide)
                            have bz631841' : gB z631841 (-1) (-1) := ⟨by omega, by omega⟩
                            have ac631847 : (fI (F630202 q590091) 11).toInt = p630235.toInt := by rw [he630230]; rfl
                            have ac631848 : (fI (F630202 q590091) 14).toInt = p630238.toInt := by rw [he630230]; rfl
                            refine G_lv (L' := [(0, .ref q590091), (1, .ref q590092), (2, .int g628546), (3, .ref q628689), (4, .int g630200), (5, .ref q631600), (6, .int p631616), (7, .int p631617)]) [6, 7, 5, 4, 3, 2, 1, 0] rfl ?_
                            exact jn236_630882 P630201 F630202 gm_F630202 el_F630202 g630200 q631600 p631616 p631617 (gB_w bg630200'' (by decide) (by decide)) (gB_w rb631663 (by decide) (by decide)) (gB_w rb631836 (by decide) (by decide)) hT630203 hs630204 hph630205 hB630206 ht630207 hf630208 r630209 r630210 ht631603 hf631605 (by omega) (by omega) (by omega) (by omega) (by omega) (by omega) x630217 (by exact pl631630.1) (by exact hp631627) (rS1_of he631613 he631613 pl631630.2 (fun _ _ _ _ => Or.inr ⟨rfl, by omega⟩) (fun _ _ _ => Or.inr ⟨rfl, rfl, by omega, (Classical.em (p631617.toInt = p631616.toInt)).elim (fun e => Or.inr (by rw [e]; omega)) (fun e => Or.inl e)⟩)) (by omega) (by omega) (ms_j hm90_630222 (by omega) (by omega) (by omega)) (eO_l (by omega)) x630221 x630222 (fun k e1 e2 e3 e4 ht => tl_RModel_spill_90_k26 D I γ0 el0 f P590089 F590090 q590091 F625265 q590092 g628546 q628689 P630201 F630202 gm_F630202 el_F630202 g630200 q630280 p630304 q631600 p631614 p631619 o631638 p631616 p631620 o631670 p631617 f631840 z631841 k e1 e2 e3 e4 bg630200 hT630203 hs630204 x630211 x630212 x630213 x630214 x630216 x630217 x630218 x630219 x630220 x630221 x630222 fq630300 fq630311 fq630312 r630324 fq631154 r631588 hx631601 ht631611 fq631631 fq631632 bo631638 ht631640 r631661 fq631662 fq631664 bo631670 ht631672 r631834 fq631835 fq631837 he631839 hz631841 bz631841 r631846 ht)
                          · have r631849 : 0 ≤ z631841.toInt := gj_nlt hc631845 (show Int32.toInt 0 = 0 by decide)
                            have bz631841' : gB z631841 0 1999 := ⟨by omega, by omega⟩
                            refine G_aload_n 6 dr_cX17_spill_188 rfl ?_
                            refine G_aload_n 7 dr_cX17_spill_189 rfl ?_
                            refine G_aload_n 4 dr_cX17_spill_190 rfl ?_
                            refine G_iload 3 dr_cX17_spill_191 rfl ?_
                            refine G_aload_n 6 dr_cX17_spill_193 rfl ?_
                            refine Gp_get 19 hm630229 he630230 dr_cX17_spill_194 (gk_X17 D I) (Nat.le_of_ble_eq_true rfl) wr_7_93 rfl ?_
                            refine G_iload 1 dr_cX17_spill_197 rfl ?_
                            refine Gp_iald 0 hm631838 he631839 dr_cX17_spill_199 rfl (gB_in rb631663 (by decide) (by decide)) (G_eqi (y := z631841) hz631841.symm ?_)
                            have r631850 := (spi625351.2.2.2 p631616.toInt.toNat (tn_lt (by omega) (by omega)) (by omega)).2.2
                            have ac631851 : (fI (F630202 q590091) 11).toInt = p630235.toInt := by rw [he630230]; rfl
                            have ac631852 : (fI (F630202 q590091) 14).toInt = p630238.toInt := by rw [he630230]; rfl
                            have rg631853 := rM_ge hT630203 ht630225 hf630226
                            have rm631854 := rM_bd hB630206
                            have bd631855 := rBd_c hT630203 ht630225 hf630226 hB630206
                            have rc631856 := rc_at hT630203 ht630225 hf630226
                            refine Gw_callV (As := [.ref q590092, .ref q628689, .int g630200, .int z631841]) (gV_ok D I) (cg_409800_SpillForgeModel_load l hl0 D I gm_F630202 el_F630202 f B P630201 F630202 q590091 q590092 q628689 g630200 z631841 g628546.toInt.toNat hT630203 ht630224 ht630225 ht630207 hf630226 hB630206 hBk r630209 r630210 hf630208 (gB_w bg630200'' (by decide) (by decide)) bz631841' (by omega) (by omega) (by omega) (by omega) (by omega)) dr_cX17_spill_200 ⟨wr_11_67, wr_1_14, wr_11_70, by decide, rfl, (Nat.le_of_ble_eq_true rfl), (Nat.le_of_ble_eq_true rfl)⟩ wr_11_69 wr_p_111 hm630229 he630230 rfl (rm_gc hph630205 pk630227) (rm_gs hph630205 pk630227) (Nat.le_of_ble_eq_true rfl) (fun r631860 w631861 dc631857 ds631858 hp631859 => ?_) (fun _ _ _ _ _ z => z.elim)
                            obtain ⟨P631873, F631874, gm_F631874, el_F631874, o631862, rfl, rfl, hk631875, ⟨hr631876, hr631877⟩, hB631878, bo631862, x631863, x631864, x631865, x631866, x631867, x631868, x631869, x631870, x631871, ht631872⟩ := hp631859
                            have hT631879 := hk631875.1
                            have hs631880 := rSk_tr hs630204 hk631875 (by decide) (by decide) (by decide)
                            have kp631881 : F631874 (γ0 9 3) = F590090 (γ0 9 3) := (rSk_F hk631875 (rSk_k hs630204 k0_3 (by decide) (by decide)) (by decide) (by decide)).trans x630221
                            have kp631882 : F631874 (γ0 9 19) = F625265 (γ0 9 19) := (rSk_F hk631875 (rSk_k hs630204 k0_19 (by decide) (by decide)) (by decide) (by decide)).trans x630217
                            have ht631883 : rKd gm_F631874 q590091 10 := rSk_k hk631875 ht630224 (by decide) (by decide)
                            have ht631884 : rKd gm_F631874 q590092 9 := rSk_k hk631875 ht630225 (by decide) (by decide)
                            have hf631885 : gm_F631874 1 q590092 = f := rSk_1 hk631875 ht630225 (by decide) hf630226
                            have ht631886 : rKd gm_F631874 q628689 2 := rSk_k hk631875 ht630207 (by decide) (by decide)
                            have hf631887 : gm_F631874 1 q628689 = f := rSk_1 hk631875 ht630207 (by decide) hf630208
                            have ht631888 : rKd gm_F631874 q630280 3 := rSk_k hk631875 ht630284 (by decide) (by decide)
                            have hf631889 : gm_F631874 1 q630280 = f := rSk_1 hk631875 ht630284 (by decide) hf630293
                            have ht631890 : rKd gm_F631874 q631600 1 := rSk_k hk631875 ht631603 (by decide) (by decide)
                            have hf631891 : gm_F631874 1 q631600 = f := rSk_1 hk631875 ht631603 (by decide) hf631605
                            have he631892 : F631874 q631600 = .inr (20, [.int p631614, .int p631615, .int p631616, .int p631617, .int p631618, .int p631619, .int p631620]) := (rSk_F hk631875 ht631603 (by decide) (by decide)).trans he631613
                            have hm631893 : q631600 ∈ P631873 := RS_m hT631879 ht631890 (by decide)
                            clear bp630282 bp630283 r630291 r630292 rg631853 rm631854 bd631855 rc631856
                            have mk631894 : mKp (F590090 q590091) (F631874 q590091) := mKp_tr x630222 x631871
                            have hph631895 : rPh γ0 el0 f ≤ rPh gm_F631874 el_F631874 f := rm_ph hph630205 hr631877
                            have pk631896 : rPh gm_F631874 el_F631874 f ≤ 387 * B + 6000 := rm_pk (rM_ge hT631879 ht631884 hf631885).1 (rM_bd hB631878)
                            change G _ _ _ _ _ _ _ (.int o631862 :: _) _ _ _
                            refine G_widen (cs' := ((rPh gm_F631874 el_F631874 f - rPh γ0 el0 f) / 18)) (sl' := (rPh gm_F631874 el_F631874 f - rPh γ0 el0 f)) (rm_wc hph630205 hr631876) (rm_ws hph630205 hr631877) ?_
                            have sz631897 := x631863
                            have r631898 : 0 < gm_F631874 6 (gm_F631874 1 q590092) := by rw [hf631885]; omega
                            have hm631899 : q590091 ∈ P631873 := RS_m hT631879 ht631883 (by decide)
                            refine rk10_e (show rk_10 gm_F631874 (F631874 q590091) from RS_o hT631879 ht631883) (fun q631901 q631902 p631903 p631904 p631905 p631906 p631907 p631908 p631909 p631910 p631911 p631912 p631913 p631914 p631915 p631916 p631917 he631900 hB631944 ht631918 ht631919 ht631920 ht631921 ht631922 ht631923 ht631924 ht631925 ht631926 ht631927 ht631928 ht631929 ht631930 ht631931 ht631932 ht631933 ht631934 ht631935 ht631936 ht631937 ht631938 ht631939 ht631940 ht631941 hB631945 => ?_)
                            have ac631946 : (fI (F631874 q590091) 11).toInt = p631905.toInt := by rw [he631900]; rfl
                            have bp631905 : gB p631905 0 100 := (hB631944.2.2.1)
                            have ac631947 : (fI (F631874 q590091) 14).toInt = p631908.toInt := by rw [he631900]; rfl
                            have bp631908 : gB p631908 0 2000 := (hB631944.2.2.2.1)
                            refine G_istore (L' := [(8, .int o631862), (7, .int p631617), (6, .int p631616), (5, .ref q631600), (4, .int g630200), (3, .ref q628689), (2, .int g628546), (0, .ref q590091), (1, .ref q590092)]) dr_cX17_spill_203 (Nat.le_of_ble_eq_true rfl) rfl ?_
                            refine G_iload 0 dr_cX17_spill_205 rfl ?_
                            refine G_if_ge 212 dr_cX17_spill_207 (by decide +kernel) (fun hc631948 => ?_) (fun hc631948 => ?_)
                            · have r631949 : 0 ≤ o631862.toInt := gj_leL hc631948 (show Int32.toInt 0 = 0 by decide)
                              have bo631862' : gB o631862 0 1999 := ⟨by omega, by omega⟩
                              have pl631951 := sp_ld (x631869.resolve_left (by omega)) pl631630.1 (tn_ge (by omega)) (rfl : ((g630200.toInt : Int).toNat + 1) = (g630200.toInt : Int).toNat + 1)
                              have hp631952 : rAt gm_F631874 el_F631874 q590092 (g628546.toInt : Int).toNat ((g630200.toInt : Int).toNat + 1) = q631600 := ((x631870.resolve_left (by omega)) (g630200.toInt : Int).toNat (Nat.le_refl _)).trans hp631627
                              have r631953 := x631867.resolve_left (by omega)
                              have x631867p := PLift.up x631867
                              have x631869p := PLift.up x631869
                              have x631870p := PLift.up x631870
                              clear x631867 x631869 x631870
                              obtain ⟨z631954, hz631954⟩ : ∃ z : Int32, z = g630200 + Int32.ofInt 1 := ⟨_, rfl⟩
                              have ez631954 : z631954.toInt = g630200.toInt + 1 := gI_inc hz631954 (by decide) bg630200'' (by decide) (by decide)
                              have bz631954 : gB z631954 1 1000000 := ⟨by omega, by omega⟩
                              refine G_iinc (L' := [(4, .int z631954), (8, .int o631862), (7, .int p631617), (6, .int p631616), (5, .ref q631600), (3, .ref q628689), (2, .int g628546), (0, .ref q590091), (1, .ref q590092)]) z631954 4 dr_cX17_spill_212 rfl hz631954.symm (Nat.le_of_ble_eq_true rfl) rfl ?_
                              refine G_aload 4 dr_cX17_spill_215 rfl ?_
                              refine G_iload 1 dr_cX17_spill_217 rfl ?_
                              refine Gp_put 2 hm631893 he631892 dr_cX17_spill_219 (gk_X15 D I) (Nat.le_of_ble_eq_true rfl) wr_9_186 rfl rfl rfl (Nat.le_of_ble_eq_true rfl) (fun F631955 e631956 n631957 => ?_)
                              have r631958 := rk1_at hT631879 ht631890 he631892
                              have he631959 : F631955 q590091 = .inr (22, [.ref (gm_F631874 9 0), .ref (gm_F631874 9 1), .ref (gm_F631874 9 2), .ref (gm_F631874 9 3), .ref (gm_F631874 9 4), .ref (gm_F631874 9 5), .ref (gm_F631874 9 6), .ref (gm_F631874 9 7), .ref (gm_F631874 9 8), .int p631903, .int p631904, .int p631905, .int p631906, .int p631907, .int p631908, .ref (gm_F631874 9 15), .ref (gm_F631874 9 16), .ref (gm_F631874 9 17), .ref (gm_F631874 9 18), .ref (gm_F631874 9 19), .ref (gm_F631874 9 20), .ref (gm_F631874 9 21), .ref (gm_F631874 9 22), .int p631909, .int p631910, .int p631911, .int p631912, .int p631913, .ref q631901, .ref (gm_F631874 9 29), .int p631914, .ref (gm_F631874 9 31), .int p631915, .int p631916, .int p631917, .ref q631902]) := (n631957 q590091 (rn_oo he631900 he631892 (by decide))).trans he631900
                              have he631960 : F631955 q631600 = .inr (20, [.int p631614, .int p631615, .int o631862, .int p631617, .int p631618, .int p631619, .int p631620]) := e631956
                              have mk631961 : mKp (F590090 q590091) (F631955 q590091) := mKp_tr mk631894 (mKp_eq (n631957 q590091 (rn_ty ht631883 ht631890 (by decide))))
                              have kp631962 : F631955 (γ0 9 3) = F590090 (γ0 9 3) := (n631957 (γ0 9 3) (rn_ty (rSk_k hs631880 k0_3 (by decide) (by decide)) ht631890 (by decide))).trans kp631881
                              have kp631963 : F631955 (γ0 9 19) = F625265 (γ0 9 19) := (n631957 (γ0 9 19) (rn_ty (rSk_k hs631880 k0_19 (by decide) (by decide)) ht631890 (by decide))).trans kp631882
                              have fq631964 : F631955 q631600 = cF (F631874 q631600) 2 (.int o631862) := by rw [he631960, he631892]; rfl
                              refine G_iload 2 dr_cX17_spill_222 rfl ?_
                              refine G_iload 3 dr_cX17_spill_224 rfl ?_
                              refine G_icmp_ne 236 dr_cX17_spill_226 (by decide +kernel) (fun hc631965 => ?_) (fun hc631965 => ?_)
                              · have r631966 : p631617.toInt ≠ p631616.toInt := gC_ne hc631965
                                have hT631967 : RS D I P631873 F631955 gm_F631874 el_F631874 := RS_set hT631879 n631957 ht631890 (by decide) ⟨p631614, p631615, o631862, p631617, p631618, p631619, p631620, he631960, bp631614, bp631615, bp631618, bp631619, bp631620, (gHe r631621), (Or.inr bo631862'), (gHe r631623), r631958.1, r631958.2⟩
                                have hs631969 := rSk_put hs631880 hT631967 n631957 ht631890 (by decide) (by decide) (Or.inr (Or.inl hf631891))
                                have hm631971 : q628689 ∈ P631873 := RS_m hT631967 ht631886 (by decide)
                                obtain ⟨q631973, q631974, p631975, p631976, he631972, ht631983, ht631977, ht631978, ht631979, ht631980, ht631981, bp631975, bp631976, r631982, r631984, r631985⟩ := show rk_2 gm_F631874 q628689 (F631955 q628689) from RS_o hT631967 ht631886
                                have hf631986 : gm_F631874 1 q631973 = f := (show gm_F631874 1 q631973 = gm_F631874 1 q628689 from ht631978).trans hf631887
                                have hf631987 : gm_F631874 1 q631974 = f := (show gm_F631874 1 q631974 = gm_F631874 1 q628689 from ht631980).trans hf631887
                                have r631988 : gm_F631874 6 (gm_F631874 1 q628689) = gm_F631874 6 f := by rw [hf631887]
                                have r631989 : gm_F631874 7 (gm_F631874 1 q628689) = gm_F631874 7 f := by rw [hf631887]
                                have r631990 : gm_F631874 19 (gm_F631874 1 q628689) = gm_F631874 19 f := by rw [hf631887]
                                have r631991 := r631982.resolve_left (by omega)
                                clear r631982
                                have r631992 : gm_F631874 2 (gm_F631874 14 q628689) = gm_F631874 2 q631973 := by rw [ht631983.1]
                                have pl631970 := sp_put hT631879 ht631884 hf631885 pl631951 n631957 hp631952 (show (g628546.toInt : Int).toNat < gm_F631874 6 f from tn_lt (by omega) (by omega)) (by unfold rwL; rw [x631866.2.2]; exact tn_le1 (by omega) (by omega))
                                have ac631993 : (fI (F631955 q590091) 11).toInt = p631905.toInt := by rw [he631959]; rfl
                                have ac631994 : (fI (F631955 q590091) 14).toInt = p631908.toInt := by rw [he631959]; rfl
                                refine G_lv (L' := [(0, .ref q590091), (1, .ref q590092), (2, .int g628546), (3, .ref q628689), (4, .int z631954), (5, .ref q631600), (6, .int p631616), (7, .int p631617)]) [7, 8, 6, 5, 0, 4, 3, 2] rfl ?_
                                exact jn236_630882 P631873 F631955 gm_F631874 el_F631874 z631954 q631600 p631616 p631617 (gB_w bz631954 (by decide) (by decide)) (gB_w rb631663 (by decide) (by decide)) (gB_w rb631836 (by decide) (by decide)) hT631967 hs631969 hph631895 hB631878 ht631886 hf631887 x631866.2.1 x631866.2.2 ht631890 hf631891 (by omega) (by omega) (by omega) (by omega) (by omega) (by omega) kp631963 (by rw [(show (z631954.toInt : Int).toNat = ((g630200.toInt : Int).toNat + 1) from tn_eq1 (by omega) (by omega))]; exact pl631970) (by rw [(show (z631954.toInt : Int).toNat = ((g630200.toInt : Int).toNat + 1) from tn_eq1 (by omega) (by omega))]; exact hp631952) (rS1_of he631613 he631960 pl631630.2 (fun _ _ _ _ => Or.inl (by omega)) (fun _ _ _ => Or.inr ⟨rfl, rfl, by omega, Or.inl (by omega)⟩)) (by omega) (by omega) (ms_j hm90_630222 (by omega) (by omega) (by omega)) (eO_l (by omega)) kp631962 mk631961 (fun k e1 e2 e3 e4 ht => tl_RModel_spill_90_k27 D I γ0 el0 f P590089 F590090 q590091 F625265 q590092 g628546 q628689 P630201 F630202 gm_F630202 el_F630202 g630200 q630280 p630304 q631600 p631614 p631619 o631638 p631616 p631620 o631670 p631617 f631840 z631841 P631873 F631874 gm_F631874 el_F631874 o631862 z631954 F631955 k e1 e2 e3 e4 bg630200 hT630203 hs630204 x630211 x630212 x630213 x630214 x630216 x630217 x630218 x630219 x630220 x630221 x630222 fq630300 fq630311 fq630312 r630324 fq631154 r631588 hx631601 ht631611 fq631631 fq631632 bo631638 ht631640 r631661 fq631662 fq631664 bo631670 ht631672 r631834 fq631835 fq631837 he631839 hz631841 bz631841 r631849 hk631875 x631863 x631864 x631865 x631866 x631867p.down x631868 x631869p.down x631870p.down x631871 ht631872 r631949 ez631954 n631957 fq631964 r631966 ht)
                              · have r631995 : p631617.toInt = p631616.toInt := gC_eq hc631965
                                refine G_aload 4 dr_cX17_spill_229 rfl ?_
                                refine G_iload 1 dr_cX17_spill_231 rfl ?_
                                refine Gp_put 3 hm631893 he631960 dr_cX17_spill_233 (gk_X15 D I) (Nat.le_of_ble_eq_true rfl) wr_9_190 rfl rfl rfl (Nat.le_of_ble_eq_true rfl) (fun F631996 e631997 n631998 => ?_)
                                have he631999 : F631996 q590091 = .inr (22, [.ref (gm_F631874 9 0), .ref (gm_F631874 9 1), .ref (gm_F631874 9 2), .ref (gm_F631874 9 3), .ref (gm_F631874 9 4), .ref (gm_F631874 9 5), .ref (gm_F631874 9 6), .ref (gm_F631874 9 7), .ref (gm_F631874 9 8), .int p631903, .int p631904, .int p631905, .int p631906, .int p631907, .int p631908, .ref (gm_F631874 9 15), .ref (gm_F631874 9 16), .ref (gm_F631874 9 17), .ref (gm_F631874 9 18), .ref (gm_F631874 9 19), .ref (gm_F631874 9 20), .ref (gm_F631874 9 21), .ref (gm_F631874 9 22), .int p631909, .int p631910, .int p631911, .int p631912, .int p631913, .ref q631901, .ref (gm_F631874 9 29), .int p631914, .ref (gm_F631874 9 31), .int p631915, .int p631916, .int p631917, .ref q631902]) := (n631998 q590091 (rn_oo he631959 he631960 (by decide))).trans he631959
                                have he632000 : F631996 q631600 = .inr (20, [.int p631614, .int p631615, .int o631862, .int o631862, .int p631618, .int p631619, .int p631620]) := e631997
                                have mk632001 : mKp (F590090 q590091) (F631996 q590091) := mKp_tr mk631961 (mKp_eq (n631998 q590091 (rn_ty ht631883 ht631890 (by decide))))
                                have n632002 : ∀ b, b ≠ q631600 → F631996 b = F631874 b := fun b hb => (n631998 b hb).trans (n631957 b hb)
                                have kp632003 : F631996 (γ0 9 3) = F590090 (γ0 9 3) := (n631998 (γ0 9 3) (rn_ty (rSk_k hs631880 k0_3 (by decide) (by decide)) ht631890 (by decide))).trans kp631962
                                have kp632004 : F631996 (γ0 9 19) = F625265 (γ0 9 19) := (n631998 (γ0 9 19) (rn_ty (rSk_k hs631880 k0_19 (by decide) (by decide)) ht631890 (by decide))).trans kp631963
                                have fq632005 : F631996 q631600 = cF (F631955 q631600) 3 (.int o631862) := by rw [he632000, he631960]; rfl
                                have hT632006 : RS D I P631873 F631996 gm_F631874 el_F631874 := RS_set hT631879 n632002 ht631890 (by decide) ⟨p631614, p631615, o631862, o631862, p631618, p631619, p631620, he632000, bp631614, bp631615, bp631618, bp631619, bp631620, (gHe r631621), (Or.inr bo631862'), (Or.inr bo631862'), r631958.1, r631958.2⟩
                                have hs632008 := rSk_put hs631880 hT632006 n632002 ht631890 (by decide) (by decide) (Or.inr (Or.inl hf631891))
                                have hm632010 : q628689 ∈ P631873 := RS_m hT632006 ht631886 (by decide)
                                obtain ⟨q632012, q632013, p632014, p632015, he632011, ht632022, ht632016, ht632017, ht632018, ht632019, ht632020, bp632014, bp632015, r632021, r632023, r632024⟩ := show rk_2 gm_F631874 q628689 (F631996 q628689) from RS_o hT632006 ht631886
                                have hf632025 : gm_F631874 1 q632012 = f := (show gm_F631874 1 q632012 = gm_F631874 1 q628689 from ht632017).trans hf631887
                                have hf632026 : gm_F631874 1 q632013 = f := (show gm_F631874 1 q632013 = gm_F631874 1 q628689 from ht632019).trans hf631887
                                have r632027 : gm_F631874 6 (gm_F631874 1 q628689) = gm_F631874 6 f := by rw [hf631887]
                                have r632028 : gm_F631874 7 (gm_F631874 1 q628689) = gm_F631874 7 f := by rw [hf631887]
                                have r632029 : gm_F631874 19 (gm_F631874 1 q628689) = gm_F631874 19 f := by rw [hf631887]
                                have r632030 := r632021.resolve_left (by omega)
                                clear r632021
                                have r632031 : gm_F631874 2 (gm_F631874 14 q628689) = gm_F631874 2 q632012 := by rw [ht632022.1]
                                have pl632009 := sp_put hT631879 ht631884 hf631885 pl631951 n632002 hp631952 (show (g628546.toInt : Int).toNat < gm_F631874 6 f from tn_lt (by omega) (by omega)) (by unfold rwL; rw [x631866.2.2]; exact tn_le1 (by omega) (by omega))
                                have ac632032 : (fI (F631996 q590091) 11).toInt = p631905.toInt := by rw [he631999]; rfl
                                have ac632033 : (fI (F631996 q590091) 14).toInt = p631908.toInt := by rw [he631999]; rfl
                                refine G_lv (L' := [(0, .ref q590091), (1, .ref q590092), (2, .int g628546), (3, .ref q628689), (4, .int z631954), (5, .ref q631600), (6, .int p631616), (7, .int p631617)]) [7, 8, 6, 5, 0, 4, 3, 2] rfl ?_
                                exact jn236_630882 P631873 F631996 gm_F631874 el_F631874 z631954 q631600 p631616 p631617 (gB_w bz631954 (by decide) (by decide)) (gB_w rb631663 (by decide) (by decide)) (gB_w rb631836 (by decide) (by decide)) hT632006 hs632008 hph631895 hB631878 ht631886 hf631887 x631866.2.1 x631866.2.2 ht631890 hf631891 (by omega) (by omega) (by omega) (by omega) (by omega) (by omega) kp632004 (by rw [(show (z631954.toInt : Int).toNat = ((g630200.toInt : Int).toNat + 1) from tn_eq1 (by omega) (by omega))]; exact pl632009) (by rw [(show (z631954.toInt : Int).toNat = ((g630200.toInt : Int).toNat + 1) from tn_eq1 (by omega) (by omega))]; exact hp631952) (rS1_of he631613 he632000 pl631630.2 (fun _ _ _ _ => Or.inl (by omega)) (fun _ _ _ => Or.inl (by omega))) (by omega) (by omega) (ms_j hm90_630222 (by omega) (by omega) (by omega)) (eO_l (by omega)) kp632003 mk632001 (fun k e1 e2 e3 e4 ht => tl_RModel_spill_90_k28 D I γ0 el0 f P590089 F590090 q590091 F625265 q590092 g628546 q628689 P630201 F630202 gm_F630202 el_F630202 g630200 q630280 p630304 q631600 p631614 p631619 o631638 p631616 p631620 o631670 p631617 f631840 z631841 P631873 F631874 gm_F631874 el_F631874 o631862 z631954 F631955 F631996 k e1 e2 e3 e4 bg630200 hT630203 hs630204 x630211 x630212 x630213 x630214 x630216 x630217 x630218 x630219 x630220 x630221 x630222 fq630300 fq630311 fq630312 r630324 fq631154 r631588 hx631601 ht631611 fq631631 fq631632 bo631638 ht631640 r631661 fq631662 fq631664 bo631670 ht631672 r631834 fq631835 fq631837 he631839 hz631841 bz631841 r631849 hk631875 x631863 x631864 x631865 x631866 x631867p.down x631868 x631869p.down x631870p.down x631871 ht631872 r631949 ez631954 n631957 fq631964 r631995 n631998 fq632005 ht)
                            · have r632034 : o631862.toInt < 0 := gj_nleL hc631948 (show Int32.toInt 0 = 0 by decide)
                              have bo631862' : gB o631862 (-1) (-1) := ⟨by omega, by omega⟩
                              have hx632035 : tl_RModel_spill_90 D I γ0 el0 f P590089 F590090 q590091 F625265 q590092 g628546 q628689 P628547 F628548 gm_F628548 el_F628548 (0 : Int32) 210 F631874 P631873 gm_F631874 el_F631874 := kt90_630223 210 F631874 P631873 gm_F631874 el_F631874 (tl_RModel_spill_90_k29 D I γ0 el0 f P590089 F590090 q590091 F625265 q590092 g628546 q628689 P630201 F630202 gm_F630202 el_F630202 g630200 q630280 p630304 q631600 p631614 p631619 o631638 p631616 p631620 o631670 f631840 z631841 P631873 F631874 gm_F631874 el_F631874 o631862 bg630200 hT630203 hs630204 x630211 x630212 x630213 x630214 x630216 x630217 x630218 x630219 x630220 x630221 x630222 fq630300 fq630311 fq630312 r630324 fq631154 r631588 hx631601 ht631611 fq631631 fq631632 bo631638 ht631640 r631661 fq631662 fq631664 bo631670 ht631672 r631834 fq631837 he631839 hz631841 bz631841 r631849 hk631875 x631863 x631864 x631865 x631866 x631867 x631868 x631869 x631870 x631871 ht631872 r632034)
                              have hx632036 : tl_RModel_spill_73 D I γ0 el0 f P590089 F590090 q590091 F625265 q590092 P625264 F625265 gm_hg625354 el_F625265 (0 : Int32) 210 F631874 P631873 gm_F631874 el_F631874 := kt73_628563 210 F631874 P631873 gm_F631874 el_F631874 (fun R c1 c2 c3 c4 c5 => c5 P628547 F628548 gm_F628548 el_F628548 g628546 p628623 q628620 q628689 p628671 F631874 P631873 gm_F631874 el_F631874 bg628546 hT628549 hs628550 x628553 x628554 x628555 x628556 x628558 x628559 x628560 x628561 x628562 fq628645 r628667 fq628694 hx628690 fq628712 ht628718 hx632035)
                              refine G_iconst 0 dr_cX17_spill_210 (by decide +kernel) ?_
                              exact G_zretA FieldType.boolean dr_cX17_spill_211 rfl rfl (rm_zc pk631896) (rm_zs pk631896) ⟨P631873, F631874, gm_F631874, el_F631874, 0, rfl, rfl, hs631880, (rm_pp hph631895), hB631878, (gB_w (gBl (show Int32.toInt 0 = 0 by decide)) (by decide) (by decide)), (by have qa0 : Int32.toInt 0 = 0 := (by decide); omega), (Or.inl (by decide)), kp631881, mk631894, (fun R c1 c2 c3 c4 c5 c6 => c5 gm_0 el_0 F625265 P625264 gm_F625265 el_F625265 p625290 gm_hg625354 F631874 P631873 gm_F631874 el_F631874 hγ0 hel0 hx625348 fq625355 hg625354 hx632036)⟩
              have ac632037 : (fI (F628548 q590091) 11).toInt = p628575.toInt := by rw [he628570]; rfl
              have ac632038 : (fI (F628548 q590091) 14).toInt = p628578.toInt := by rw [he628570]; rfl
              exact hlp90_630222 ((gm_F628548 2 (gm_F628548 14 q628689) + 1 - (0 : Int).toNat) + 1) P628547 F628548 gm_F628548 el_F628548 0 (gB_w (gBl (show Int32.toInt 0 = 0 by decide)) (by decide) (by decide)) hT628549 hs628550 hph628551 hB628552 ht628695 hf628719 r628727 r628728 (by have qa0 : Int32.toInt 0 = 0 := (by decide); omega) (by have qa0 : Int32.toInt 0 = 0 := (by decide); omega) (by have qa0 : Int32.toInt 0 = 0 := (by decide); omega) (by have qa0 : Int32.toInt 0 = 0 := (by decide); omega) (by have qa0 : Int32.toInt 0 = 0 := (by decide); omega) (by have qa0 : Int32.toInt 0 = 0 := (by decide); omega) x628559 (by have qa : Int32.toInt 0 = 0 := (by decide); rw [qa]; exact x628560) (by have qa0 : Int32.toInt 0 = 0 := (by decide); omega) (by have qa0 : Int32.toInt 0 = 0 := (by decide); omega) x628561 x628562 (fun k e1 e2 e3 e4 ht => ht) (Nat.lt_succ_self _)
        have ac632039 : (fI (F625265 q590091) 11).toInt = p625373.toInt := by rw [he625368]; rfl
        have ac632040 : (fI (F625265 q590091) 14).toInt = p625376.toInt := by rw [he625368]; rfl
        exact hlp73_628562 (((1000001 : Int) - 0).toNat + 1) P625264 F625265 gm_hg625354 el_F625265 0 (gB_w (gBl (show Int32.toInt 0 = 0 by decide)) (by decide) (by decide)) hT625358 hs625359 hph625417 hB625416 (by have qa0 : Int32.toInt 0 = 0 := (by decide); omega) (by have qa0 : Int32.toInt 0 = 0 := (by decide); omega) (by have qa0 : Int32.toInt 0 = 0 := (by decide); omega) (by have qa0 : Int32.toInt 0 = 0 := (by decide); omega) (by have qa0 : Int32.toInt 0 = 0 := (by decide); omega) (by have qa0 : Int32.toInt 0 = 0 := (by decide); omega) kp625361 (by have qa : Int32.toInt 0 = 0 := (by decide); rw [qa]; exact pl625420) kp625360 mk625366 (fun k e1 e2 e3 e4 ht => ht) (Nat.lt_succ_self _)
      · have r632041 : g625263.toInt < 2000 := gj_nleL hc625346 (show Int32.toInt 2000 = 2000 by decide)
        have bg625263' : gB g625263 0 1999 := ⟨by omega, by omega⟩
        refine G_aload_n 1 dr_cX17_spill_9 rfl ?_
        have fq632042 : fR (F625265 q590091) 19 = (gm_F625265 9 19) := by rw [he625285]; rfl
        refine Gp_get 19 hm625284 he625285 dr_cX17_spill_10 (gk_X17 D I) (Nat.le_of_ble_eq_true rfl) wr_7_93 rfl ?_
        refine G_iload_n 0 dr_cX17_spill_13 rfl ?_
        refine G_iconst (-1) dr_cX17_spill_14 (by decide +kernel) ?_
        refine Gp_iast 0 hm625338 he625339 dr_cX17_spill_15 rfl (gB_in bg625263' (by decide) (by decide)) (fun F632043 e632044 n632045 => ?_)
        obtain ⟨f632046, hf632046⟩ : ∃ z, z = upd f625340 g625263.toNatClampNeg (-1) := ⟨_, rfl⟩
        rw [← hf632046] at e632044
        have he632047 : F632043 q590091 = .inr (22, [.ref (gm_F625265 9 0), .ref (gm_F625265 9 1), .ref (gm_F625265 9 2), .ref (gm_F625265 9 3), .ref (gm_F625265 9 4), .ref (gm_F625265 9 5), .ref (gm_F625265 9 6), .ref (gm_F625265 9 7), .ref (gm_F625265 9 8), .int p625288, .int p625289, .int p625290, .int p625291, .int p625292, .int p625293, .ref (gm_F625265 9 15), .ref (gm_F625265 9 16), .ref (gm_F625265 9 17), .ref (gm_F625265 9 18), .ref (gm_F625265 9 19), .ref (gm_F625265 9 20), .ref (gm_F625265 9 21), .ref (gm_F625265 9 22), .int p625294, .int p625295, .int p625296, .int p625297, .int p625298, .ref q625286, .ref (gm_F625265 9 29), .int p625299, .ref (gm_F625265 9 31), .int p625300, .int p625301, .int p625302, .ref q625287]) := (n632045 q590091 (rn_oa he625285 he625339)).trans he625285
        have he632048 : F632043 (gm_F625265 9 3) = .inl (I .boolean, 2000, .inl f625336) := (n632045 (gm_F625265 9 3) (rn_ty ht625308 ht625318 (by decide))).trans he625335
        have he632049 : F632043 (gm_F625265 9 17) = .inl (I .int, 2000, .inl f625344) := (n632045 (gm_F625265 9 17) (rn_ty ht625316 ht625318 (by decide))).trans he625343
        have he632050 : F632043 (gm_F625265 9 19) = .inl (I .int, 2000, .inl f632046) := e632044
        have mk632051 : mKp (F590090 q590091) (F632043 q590091) := mKp_tr x625278 (mKp_eq (n632045 q590091 (rn_ty ht625280 ht625318 (by decide))))
        have kp632052 : F632043 (γ0 9 3) = F590090 (γ0 9 3) := (n632045 (γ0 9 3) (rn_ty (rSk_k hs625267 k0_3 (by decide) (by decide)) ht625318 (by decide))).trans x625277
        have bf632046 : gF f632046 (-1) 1999 := gF_upd hf632046 bf625340 (gB_w (gBl (show Int32.toInt (-1) = (-1) by decide)) (by decide) (by decide))
        have hT632053 : RS D I P625264 F632043 gm_F625265 el_F625265 := RS_set hT625266 n632045 ht625318 (by decide) ⟨f632046, he632050, bf632046⟩
        have hs632055 := rSk_put hs625267 hT632053 n632045 ht625318 (by decide) (by decide) (Or.inr (Or.inr (by decide)))
        have pl632056 := rPl_fr hT625266 ht625281 hf625282 x625276 (fun b hb _ => n632045 b (rn_ty (show rKd gm_F625265 b 1 from hb) ht625318 (by decide)))
        refine G_aload_n 1 dr_cX17_spill_16 rfl ?_
        have fq632057 : fR (F632043 q590091) 3 = (gm_F625265 9 3) := by rw [he632047]; rfl
        refine Gp_get 3 hm625284 he632047 dr_cX17_spill_17 (gk_X17 D I) (Nat.le_of_ble_eq_true rfl) wr_7_77 rfl ?_
        refine G_iload_n 0 dr_cX17_spill_20 rfl ?_
        refine Gp_zald 3 hm625334 he632048 dr_cX17_spill_21 rfl (gB_in bg625263' (by decide) (by decide)) (G_nam fun z632058 hz632058 => ?_)
        have bz632058 : gB z632058 0 1 := by rw [hz632058]; exact bf625336 _
        refine G_if_eq 65 dr_cX17_spill_22 (by decide +kernel) (fun hc632059 => ?_) (fun hc632059 => ?_)
        · have r632060 : z632058.toInt = 0 := gj_eq hc632059 (show Int32.toInt 0 = 0 by decide)
          have bz632058' : gB z632058 0 0 := gB_t0 r632060
          obtain ⟨z632061, hz632061⟩ : ∃ z : Int32, z = g625263 + Int32.ofInt 1 := ⟨_, rfl⟩
          have ez632061 : z632061.toInt = g625263.toInt + 1 := gI_inc hz632061 (by decide) bg625263' (by decide) (by decide)
          have bz632061 : gB z632061 1 2000 := ⟨by omega, by omega⟩
          refine G_iinc (L' := [(2, .int z632061), (0, .ref q590091), (1, .ref q590092)]) z632061 0 dr_cX17_spill_65 rfl hz632061.symm (Nat.le_of_ble_eq_true rfl) rfl ?_
          refine G_goto 2 dr_cX17_spill_68 (by decide +kernel) ?_
          have ac632062 : (fI (F632043 q590091) 11).toInt = p625290.toInt := by rw [he632047]; rfl
          have ac632063 : (fI (F632043 q590091) 14).toInt = p625293.toInt := by rw [he632047]; rfl
          have c9_632064 : cB (F590090 (γ0 9 3)) = f625336 := by rw [← kp632052, ← congrFun (rSk_9 hs632055) 3]; exact cB_of he632048
          have c9_632065 : cB (F632043 (γ0 9 19)) = f632046 := by rw [← congrFun (rSk_9 hs632055) 19]; exact cB_of he632050
          exact ih2_625278 P625264 F632043 gm_F625265 el_F625265 z632061 (gB_w bz632061 (by decide) (by decide)) hT632053 hs632055 hph625268 hB625269 (by omega) (by omega) (by omega) (by omega) (by omega) (by rw [c9_632064, c9_632065, ac632062]; exact spI_n (h2 := fun _ => 0) hf632046 (by decide) (by omega) ez632061 cq625345) pl632056 kp632052 mk632051 (fun k e1 e2 e3 e4 ht => kt2_625279 k e1 e2 e3 e4 (fun R c1 c2 c3 c4 c5 => c2 P625264 F625265 gm_F625265 el_F625265 g625263 f625340 f632046 F632043 f625336 z632058 z632061 k e1 e2 e3 e4 bg625263 hT625266 hs625267 x625270 x625271 x625272 x625273 x625274 x625275 x625276 x625277 x625278 r632041 fq632042 he625339 hf632046 n632045 he632050 fq632057 he632048 hz632058 bz632058 r632060 ez632061 (ht R c1 c2 c3 c4 c5))) (by omega)
        · have r632066 : z632058.toInt ≠ 0 := gj_neq hc632059 (show Int32.toInt 0 = 0 by decide)
          have bz632058' : gB z632058 1 1 := gB_t1 bz632058 r632066
          refine G_aload_n 1 dr_cX17_spill_25 rfl ?_
          have fq632067 : fR (F632043 q590091) 17 = (gm_F625265 9 17) := by rw [he632047]; rfl
          refine Gp_get 17 hm625284 he632047 dr_cX17_spill_26 (gk_X17 D I) (Nat.le_of_ble_eq_true rfl) wr_7_91 rfl ?_
          refine G_iload_n 0 dr_cX17_spill_29 rfl ?_
          refine Gp_iald 0 hm625342 he632049 dr_cX17_spill_30 rfl (gB_in bg625263' (by decide) (by decide)) (G_nam fun z632068 hz632068 => ?_)
          have bz632068 : gB z632068 (-1) 31 := by rw [hz632068]; exact bf625344 _
          refine G_if_lt 37 dr_cX17_spill_31 (by decide +kernel) (fun hc632069 => ?_) (fun hc632069 => ?_)
          · have r632070 : z632068.toInt < 0 := gj_lt hc632069 (show Int32.toInt 0 = 0 by decide)
            have bz632068' : gB z632068 (-1) (-1) := ⟨by omega, by omega⟩
            refine G_iload_n 0 dr_cX17_spill_37 rfl ?_
            refine G_bipush 100 dr_cX17_spill_38 (by decide +kernel) ?_
            refine G_icmp_lt 45 dr_cX17_spill_40 (by decide +kernel) (fun hc632071 => ?_) (fun hc632071 => ?_)
            · have r632072 : g625263.toInt < 100 := gj_lt hc632071 (show Int32.toInt 100 = 100 by decide)
              have bg625263'' : gB g625263 0 99 := ⟨by omega, by omega⟩
              refine G_aload_n 1 dr_cX17_spill_45 rfl ?_
              have fq632073 : fR (F632043 q590091) 19 = (gm_F625265 9 19) := by rw [he632047]; rfl
              refine Gp_get 19 hm625284 he632047 dr_cX17_spill_46 (gk_X17 D I) (Nat.le_of_ble_eq_true rfl) wr_7_93 rfl ?_
              refine G_iload_n 0 dr_cX17_spill_49 rfl ?_
              refine G_aload_n 1 dr_cX17_spill_50 rfl ?_
              have fq632074 : fI (F632043 q590091) 11 = p625290 := by rw [he632047]; rfl
              refine Gp_get 11 hm625284 he632047 dr_cX17_spill_51 (gk_X17 D I) (Nat.le_of_ble_eq_true rfl) wr_7_85 rfl ?_
              refine Gp_iast 0 hm625338 he632050 dr_cX17_spill_54 rfl (gB_in bg625263'' (by decide) (by decide)) (fun F632075 e632076 n632077 => ?_)
              obtain ⟨f632078, hf632078⟩ : ∃ z, z = upd f632046 g625263.toNatClampNeg p625290 := ⟨_, rfl⟩
              rw [← hf632078] at e632076
              have he632079 : F632075 q590091 = .inr (22, [.ref (gm_F625265 9 0), .ref (gm_F625265 9 1), .ref (gm_F625265 9 2), .ref (gm_F625265 9 3), .ref (gm_F625265 9 4), .ref (gm_F625265 9 5), .ref (gm_F625265 9 6), .ref (gm_F625265 9 7), .ref (gm_F625265 9 8), .int p625288, .int p625289, .int p625290, .int p625291, .int p625292, .int p625293, .ref (gm_F625265 9 15), .ref (gm_F625265 9 16), .ref (gm_F625265 9 17), .ref (gm_F625265 9 18), .ref (gm_F625265 9 19), .ref (gm_F625265 9 20), .ref (gm_F625265 9 21), .ref (gm_F625265 9 22), .int p625294, .int p625295, .int p625296, .int p625297, .int p625298, .ref q625286, .ref (gm_F625265 9 29), .int p625299, .ref (gm_F625265 9 31), .int p625300, .int p625301, .int p625302, .ref q625287]) := (n632077 q590091 (rn_oa he632047 he632050)).trans he632047
              have he632080 : F632075 (gm_F625265 9 3) = .inl (I .boolean, 2000, .inl f625336) := (n632077 (gm_F625265 9 3) (rn_ty ht625308 ht625318 (by decide))).trans he632048
              have he632081 : F632075 (gm_F625265 9 17) = .inl (I .int, 2000, .inl f625344) := (n632077 (gm_F625265 9 17) (rn_ty ht625316 ht625318 (by decide))).trans he632049
              have he632082 : F632075 (gm_F625265 9 19) = .inl (I .int, 2000, .inl f632078) := e632076
              have mk632083 : mKp (F590090 q590091) (F632075 q590091) := mKp_tr mk632051 (mKp_eq (n632077 q590091 (rn_ty ht625280 ht625318 (by decide))))
              have kp632084 : F632075 (γ0 9 3) = F590090 (γ0 9 3) := (n632077 (γ0 9 3) (rn_ty (rSk_k hs632055 k0_3 (by decide) (by decide)) ht625318 (by decide))).trans kp632052
              have bf632078 : gF f632078 (-1) 1999 := gF_upd hf632078 bf632046 (gB_w bp625290 (by decide) (by decide))
              have hT632085 : RS D I P625264 F632075 gm_F625265 el_F625265 := RS_set hT632053 n632077 ht625318 (by decide) ⟨f632078, he632082, bf632078⟩
              have of632086 : ∀ b, b ≠ (gm_F625265 9 19) → F632075 b = F625265 b := fun b hb => (n632077 b hb).trans (n632045 b hb)
              have hs632087 := rSk_put hs632055 hT632085 n632077 ht625318 (by decide) (by decide) (Or.inr (Or.inr (by decide)))
              have pl632088 := rPl_fr hT632053 ht625281 hf625282 pl632056 (fun b hb _ => n632077 b (rn_ty (show rKd gm_F625265 b 1 from hb) ht625318 (by decide)))
              have cq632089 := spI_s (r1 := g625263.toInt + 1) (s1 := p625290.toInt + 1) hf632046 hf632078 rfl (by omega) (by omega) rfl (by omega) (sd_of hz632058 (by omega) (by omega) (by omega)) rfl cq625345
              have r632090 := cq632089.2
              have r632091 := cq625345.1
              have r632092 := x590096
              rw [c9_625337] at r632092
              have bp625290' : gB p625290 0 99 := ⟨by omega, by omega⟩
              refine G_aload_n 1 dr_cX17_spill_55 rfl ?_
              refine G_dup dr_cX17_spill_56 rfl ?_
              have fq632093 : fI (F632075 q590091) 11 = p625290 := by rw [he632079]; rfl
              refine Gp_get 11 hm625284 he632079 dr_cX17_spill_57 (gk_X17 D I) (Nat.le_of_ble_eq_true rfl) wr_7_85 rfl ?_
              refine G_iconst 1 dr_cX17_spill_60 (by decide +kernel) ?_
              refine G_iadd dr_cX17_spill_61 (G_nam fun z632094 hz632094 => ?_)
              have ez632094 : z632094.toInt = p625290.toInt + 1 := by rw [gI_add hz632094 bp625290' (gBl (show Int32.toInt 1 = 1 by decide)) (by decide) (by decide), show Int32.toInt 1 = 1 from by decide]
              have bz632094 : gB z632094 1 100 := gB_add (gI_add hz632094 bp625290' (gBl (show Int32.toInt 1 = 1 by decide)) (by decide) (by decide)) bp625290' (gBl (show Int32.toInt 1 = 1 by decide)) (by decide) (by decide)
              refine Gp_put 11 hm625284 he632079 dr_cX17_spill_62 (gk_X17 D I) (Nat.le_of_ble_eq_true rfl) wr_7_85 rfl rfl rfl (Nat.le_of_ble_eq_true rfl) (fun F632095 e632096 n632097 => ?_)
              have he632098 : F632095 (gm_F625265 9 3) = .inl (I .boolean, 2000, .inl f625336) := (n632097 (gm_F625265 9 3) (rn_ao he632080 he632079)).trans he632080
              have he632099 : F632095 (gm_F625265 9 19) = .inl (I .int, 2000, .inl f632078) := (n632097 (gm_F625265 9 19) (rn_ao he632082 he632079)).trans he632082
              have he632100 : F632095 (gm_F625265 9 17) = .inl (I .int, 2000, .inl f625344) := (n632097 (gm_F625265 9 17) (rn_ao he632081 he632079)).trans he632081
              have he632101 : F632095 q590091 = .inr (22, [.ref (gm_F625265 9 0), .ref (gm_F625265 9 1), .ref (gm_F625265 9 2), .ref (gm_F625265 9 3), .ref (gm_F625265 9 4), .ref (gm_F625265 9 5), .ref (gm_F625265 9 6), .ref (gm_F625265 9 7), .ref (gm_F625265 9 8), .int p625288, .int p625289, .int z632094, .int p625291, .int p625292, .int p625293, .ref (gm_F625265 9 15), .ref (gm_F625265 9 16), .ref (gm_F625265 9 17), .ref (gm_F625265 9 18), .ref (gm_F625265 9 19), .ref (gm_F625265 9 20), .ref (gm_F625265 9 21), .ref (gm_F625265 9 22), .int p625294, .int p625295, .int p625296, .int p625297, .int p625298, .ref q625286, .ref (gm_F625265 9 29), .int p625299, .ref (gm_F625265 9 31), .int p625300, .int p625301, .int p625302, .ref q625287]) := e632096
              have mk632102 : mKp (F590090 q590091) (F632095 q590091) := mKp_tr mk632083 (by rw [he632079, he632101]; exact ⟨rfl, rfl⟩)
              have kp632103 : F632095 (γ0 9 3) = F590090 (γ0 9 3) := (n632097 (γ0 9 3) (rn_ty (rSk_k hs632087 k0_3 (by decide) (by decide)) ht625280 (by decide))).trans kp632084
              have kp632104 : F632095 (γ0 9 19) = F632075 (γ0 9 19) := n632097 (γ0 9 19) (rn_ty (rSk_k hs632087 k0_19 (by decide) (by decide)) ht625280 (by decide))
              have fq632105 : F632095 q590091 = cF (F632075 q590091) 11 (.int z632094) := by rw [he632101, he632079]; rfl
              have hT632106 : RS D I P625264 F632095 gm_F625265 el_F625265 := RS_set hT632085 n632097 ht625280 (by decide) ⟨q625286, q625287, p625288, p625289, z632094, p625291, p625292, p625293, p625294, p625295, p625296, p625297, p625298, p625299, p625300, p625301, p625302, he632101, ⟨(hB625329.1), (hB625329.2.1), (gB_w bz632094 (by decide) (by decide)), bp625293, (hB625329.2.2.2.2.1), (hB625329.2.2.2.2.2.1), (hB625329.2.2.2.2.2.2.1), (hB625329.2.2.2.2.2.2.2.1), (hB625329.2.2.2.2.2.2.2.2)⟩, ht625303, ht625304, ht625305, ht625306, ht625307, ht625308, ht625309, ht625310, ht625311, ht625312, ht625313, ht625314, ht625315, ht625316, ht625317, ht625318, ht625319, ht625320, ht625321, ht625322, ht625323, ht625324, ht625325, ht625326, hB625330⟩
              have hs632108 := rSk_put hs632087 hT632106 n632097 ht625280 (by decide) (by decide) (Or.inr (Or.inr (by decide)))
              have pl632109 := rPl_fr hT632085 ht625281 hf625282 pl632088 (fun b hb _ => n632097 b (rn_ty (show rKd gm_F625265 b 1 from hb) ht625280 (by decide)))
              obtain ⟨z632110, hz632110⟩ : ∃ z : Int32, z = g625263 + Int32.ofInt 1 := ⟨_, rfl⟩
              have ez632110 : z632110.toInt = g625263.toInt + 1 := gI_inc hz632110 (by decide) bg625263'' (by decide) (by decide)
              have bz632110 : gB z632110 1 100 := ⟨by omega, by omega⟩
              refine G_iinc (L' := [(2, .int z632110), (0, .ref q590091), (1, .ref q590092)]) z632110 0 dr_cX17_spill_65 rfl hz632110.symm (Nat.le_of_ble_eq_true rfl) rfl ?_
              refine G_goto 2 dr_cX17_spill_68 (by decide +kernel) ?_
              have ac632111 : (fI (F632095 q590091) 11).toInt = z632094.toInt := by rw [he632101]; rfl
              have ac632112 : (fI (F632095 q590091) 14).toInt = p625293.toInt := by rw [he632101]; rfl
              have c9_632113 : cB (F590090 (γ0 9 3)) = f625336 := by rw [← kp632103, ← congrFun (rSk_9 hs632108) 3]; exact cB_of he632098
              have c9_632114 : cB (F632095 (γ0 9 19)) = f632078 := by rw [← congrFun (rSk_9 hs632108) 19]; exact cB_of he632099
              exact ih2_625278 P625264 F632095 gm_F625265 el_F625265 z632110 (gB_w bz632110 (by decide) (by decide)) hT632106 hs632108 hph625268 hB625269 (by omega) (by omega) (by omega) (by omega) (by omega) (by rw [c9_632113, c9_632114, ac632111, ez632110, ez632094]; exact cq632089.1) pl632109 kp632103 mk632102 (fun k e1 e2 e3 e4 ht => kt2_625279 k e1 e2 e3 e4 (fun R c1 c2 c3 c4 c5 => c3 P625264 F625265 gm_F625265 el_F625265 g625263 f625340 f632046 F632043 f625336 z632058 f625344 z632068 p625290 f632078 F632075 z632094 F632095 z632110 k e1 e2 e3 e4 bg625263 hT625266 hs625267 x625270 x625271 x625272 x625273 x625274 x625275 x625276 x625277 x625278 r632041 fq632042 he625339 hf632046 n632045 he632050 fq632057 he632048 hz632058 bz632058 r632066 fq632067 he632049 hz632068 bz632068 r632070 r632072 fq632073 fq632074 he632050 hf632078 n632077 he632082 fq632093 ez632094 n632097 fq632105 ez632110 (ht R c1 c2 c3 c4 c5))) (by omega)
            · have r632115 : 100 ≤ g625263.toInt := gj_nlt hc632071 (show Int32.toInt 100 = 100 by decide)
              have bg625263'' : gB g625263 100 1999 := ⟨by omega, by omega⟩
              have hx632116 : tl_RModel_spill_2 D I γ0 el0 f P590089 F590090 q590091 q590092 P590089 F590090 gm_0 el_0 (0 : Int32) 43 F632043 P625264 gm_F625265 el_F625265 := kt2_625279 43 F632043 P625264 gm_F625265 el_F625265 (fun R c1 c2 c3 c4 c5 => c4 P625264 F625265 gm_F625265 el_F625265 g625263 f625340 f632046 F632043 f625336 z632058 f625344 z632068 bg625263 hT625266 hs625267 x625270 x625271 x625272 x625273 x625274 x625275 x625276 x625277 x625278 r632041 fq632042 he625339 hf632046 n632045 he632050 fq632057 he632048 hz632058 bz632058 r632066 fq632067 he632049 hz632068 bz632068 r632070 r632115)
              refine G_iconst 0 dr_cX17_spill_43 (by decide +kernel) ?_
              exact G_zretA FieldType.boolean dr_cX17_spill_44 rfl rfl (rm_zc pk625283) (rm_zs pk625283) ⟨P625264, F632043, gm_F625265, el_F625265, 0, rfl, rfl, hs632055, (rm_pp hph625268), hB625269, (gB_w (gBl (show Int32.toInt 0 = 0 by decide)) (by decide) (by decide)), (by have qa0 : Int32.toInt 0 = 0 := (by decide); omega), (Or.inl (by decide)), kp632052, mk632051, (fun R c1 c2 c3 c4 c5 c6 => c6 gm_0 el_0 F632043 P625264 gm_F625265 el_F625265 hγ0 hel0 hx632116)⟩
          · have r632117 : 0 ≤ z632068.toInt := gj_nlt hc632069 (show Int32.toInt 0 = 0 by decide)
            have bz632068' : gB z632068 0 31 := ⟨by omega, by omega⟩
            refine G_goto 65 dr_cX17_spill_34 (by decide +kernel) ?_
            obtain ⟨z632118, hz632118⟩ : ∃ z : Int32, z = g625263 + Int32.ofInt 1 := ⟨_, rfl⟩
            have ez632118 : z632118.toInt = g625263.toInt + 1 := gI_inc hz632118 (by decide) bg625263' (by decide) (by decide)
            have bz632118 : gB z632118 1 2000 := ⟨by omega, by omega⟩
            refine G_iinc (L' := [(2, .int z632118), (0, .ref q590091), (1, .ref q590092)]) z632118 0 dr_cX17_spill_65 rfl hz632118.symm (Nat.le_of_ble_eq_true rfl) rfl ?_
            refine G_goto 2 dr_cX17_spill_68 (by decide +kernel) ?_
            have ac632119 : (fI (F632043 q590091) 11).toInt = p625290.toInt := by rw [he632047]; rfl
            have ac632120 : (fI (F632043 q590091) 14).toInt = p625293.toInt := by rw [he632047]; rfl
            have c9_632121 : cB (F590090 (γ0 9 3)) = f625336 := by rw [← kp632052, ← congrFun (rSk_9 hs632055) 3]; exact cB_of he632048
            have c9_632122 : cB (F632043 (γ0 9 19)) = f632046 := by rw [← congrFun (rSk_9 hs632055) 19]; exact cB_of he632050
            exact ih2_625278 P625264 F632043 gm_F625265 el_F625265 z632118 (gB_w bz632118 (by decide) (by decide)) hT632053 hs632055 hph625268 hB625269 (by omega) (by omega) (by omega) (by omega) (by omega) (by rw [c9_632121, c9_632122, ac632119]; exact spI_n (h2 := fun _ => 0) hf632046 (by decide) (by omega) ez632118 cq625345) pl632056 kp632052 mk632051 (fun k e1 e2 e3 e4 ht => kt2_625279 k e1 e2 e3 e4 (fun R c1 c2 c3 c4 c5 => c5 P625264 F625265 gm_F625265 el_F625265 g625263 f625340 f632046 F632043 f625336 z632058 f625344 z632068 z632118 k e1 e2 e3 e4 bg625263 hT625266 hs625267 x625270 x625271 x625272 x625273 x625274 x625275 x625276 x625277 x625278 r632041 fq632042 he625339 hf632046 n632045 he632050 fq632057 he632048 hz632058 bz632058 r632066 fq632067 he632049 hz632068 bz632068 r632117 ez632118 (ht R c1 c2 c3 c4 c5))) (by omega)
  exact hlp2_625278 (((2001 : Int) - 0).toNat + 1) P590089 F590090 gm_0 el_0 0 (gB_w (gBl (show Int32.toInt 0 = 0 by decide)) (by decide) (by decide)) hT hst hph hB (by have qa0 : Int32.toInt 0 = 0 := (by decide); omega) (by have qa0 : Int32.toInt 0 = 0 := (by decide); omega) (by have qa0 : Int32.toInt 0 = 0 := (by decide); omega) (by have qa0 : Int32.toInt 0 = 0 := (by decide); omega) (by have qa0 : Int32.toInt 0 = 0 := (by decide); omega) (by have qa : Int32.toInt 0 = 0 := (by decide); rw [qa]; exact spI_0) (by rw [hγ0, hel0]; exact x590097) rfl mKp_rf (fun k e1 e2 e3 e4 ht => ht) (Nat.lt_succ_self _)
/- tl_RModel_giveAll_110: P, F, gm, el, l7; out: F, P, gm, el -/
def tl_RModel_giveAll_110 (D : va_G) (I : FieldType → ClassId) (γ0 el0 : Nat → Nat → Nat) (f : Nat) (P : List Nat) (F : Nat → va_E) (q0 : Nat) (c1 : Nat → va_E) (q1 : Nat) (l5_1 : Int32) (c2 : Nat) (s1 : List Nat) (s2 : Nat → va_E) (s3 : Nat → Nat → Nat) (s4 : Nat → Nat → Nat) (s5 : Int32) (k : Nat) (e1 : Nat → va_E) (e2 : List Nat) (e3 : Nat → Nat → Nat) (e4 : Nat → Nat → Nat) : Prop := ∀ R : (List Nat) → (Nat → va_E) → (Nat → Nat → Nat) → (Nat → Nat → Nat) → (Int32) → Nat → (Nat → va_E) → (List Nat) → (Nat → Nat → Nat) → (Nat → Nat → Nat) → Prop,
  (∀ (P_2 : List Nat) (F_2 : Nat → va_E) (gm_2 : Nat → Nat → Nat) (el_2 : Nat → Nat → Nat) (l7_2 : Int32) (x1 : Nat) (x2 : Int32), gB l7_2 0 1000001 → RS D I P_2 F_2 gm_2 el_2 → rSk f [101] ([1, 3, 5, 6, 8, 9, 101] ++ npk) D I P F γ0 el0 P_2 F_2 gm_2 el_2 → gm_2 6 f = γ0 6 f → ((gm_2 7 f : Nat) : Int) = (fI (F_2 q0) 11).toInt → 100 ≤ (fI (F_2 q0) 14).toInt → (F_2 (γ0 9 17) = c1 (γ0 9 17)) → rPl gm_2 el_2 F_2 q1 (gm_2 6 f) (cqR (cB (c1 (γ0 9 17))) (l5_1.toInt : Int).toNat (l7_2.toInt : Int).toNat) → (l7_2.toInt : Int) ≤ gm_2 2 (gm_2 14 c2) + 1 → (l5_1.toInt : Int) < gm_2 6 f → mKp (F q0) (F_2 q0) → fR (F_2 c2) 0 = x1 → x2.toInt = (gm_2 2 x1 : Int) → fI (F_2 x1) 2 = x2 → x2.toInt < l7_2.toInt → R P_2 F_2 gm_2 el_2 l7_2 167 F_2 P_2 gm_2 el_2) →
  (∀ (P_2 : List Nat) (F_2 : Nat → va_E) (gm_2 : Nat → Nat → Nat) (el_2 : Nat → Nat → Nat) (l7_2 : Int32) (x1 : Nat) (x2 : Int32) (x3 : Nat) (x4 : Nat → va_E) (x5 : Int32) (k : Nat) (e1 : Nat → va_E) (e2 : List Nat) (e3 : Nat → Nat → Nat) (e4 : Nat → Nat → Nat), gB l7_2 0 1000001 → RS D I P_2 F_2 gm_2 el_2 → rSk f [101] ([1, 3, 5, 6, 8, 9, 101] ++ npk) D I P F γ0 el0 P_2 F_2 gm_2 el_2 → gm_2 6 f = γ0 6 f → ((gm_2 7 f : Nat) : Int) = (fI (F_2 q0) 11).toInt → 100 ≤ (fI (F_2 q0) 14).toInt → (F_2 (γ0 9 17) = c1 (γ0 9 17)) → rPl gm_2 el_2 F_2 q1 (gm_2 6 f) (cqR (cB (c1 (γ0 9 17))) (l5_1.toInt : Int).toNat (l7_2.toInt : Int).toNat) → (l7_2.toInt : Int) ≤ gm_2 2 (gm_2 14 c2) + 1 → (l5_1.toInt : Int) < gm_2 6 f → mKp (F q0) (F_2 q0) → fR (F_2 c2) 0 = x1 → x2.toInt = (gm_2 2 x1 : Int) → fI (F_2 x1) 2 = x2 → l7_2.toInt ≤ x2.toInt → x2.toInt = (gm_2 2 x1 : Int) → x2.toInt ≤ l7_2.toInt → fR (F_2 c2) 1 = x3 → RS D I P_2 x4 gm_2 el_2 → rStr gm_2 [1] F_2 x4 → ((∀ b, b ≠ x3 → x4 b = F_2 b)) → (x4 q0 = F_2 q0) → (x4 (gm_2 9 3) = F_2 (gm_2 9 3)) → (x4 (gm_2 9 17) = F_2 (gm_2 9 17)) → tr_RModel_coloured D I gm_2 el_2 F_2 q0 x3 x4 → x5.toInt = l7_2.toInt + 1 → R P_2 x4 gm_2 el_2 x5 k e1 e2 e3 e4 → R P_2 F_2 gm_2 el_2 l7_2 k e1 e2 e3 e4) →
  (∀ (P_2 : List Nat) (F_2 : Nat → va_E) (gm_2 : Nat → Nat → Nat) (el_2 : Nat → Nat → Nat) (l7_2 : Int32) (x1 : Nat) (x2 : Int32) (x3 : Nat) (x4 : Nat → va_E) (x5 : Int32) (k : Nat) (e1 : Nat → va_E) (e2 : List Nat) (e3 : Nat → Nat → Nat) (e4 : Nat → Nat → Nat), gB l7_2 0 1000001 → RS D I P_2 F_2 gm_2 el_2 → rSk f [101] ([1, 3, 5, 6, 8, 9, 101] ++ npk) D I P F γ0 el0 P_2 F_2 gm_2 el_2 → gm_2 6 f = γ0 6 f → ((gm_2 7 f : Nat) : Int) = (fI (F_2 q0) 11).toInt → 100 ≤ (fI (F_2 q0) 14).toInt → (F_2 (γ0 9 17) = c1 (γ0 9 17)) → rPl gm_2 el_2 F_2 q1 (gm_2 6 f) (cqR (cB (c1 (γ0 9 17))) (l5_1.toInt : Int).toNat (l7_2.toInt : Int).toNat) → (l7_2.toInt : Int) ≤ gm_2 2 (gm_2 14 c2) + 1 → (l5_1.toInt : Int) < gm_2 6 f → mKp (F q0) (F_2 q0) → fR (F_2 c2) 0 = x1 → x2.toInt = (gm_2 2 x1 : Int) → fI (F_2 x1) 2 = x2 → l7_2.toInt ≤ x2.toInt → x2.toInt = (gm_2 2 x1 : Int) → l7_2.toInt < x2.toInt → x3 = el_2 x1 l7_2.toInt.toNat → tr_RArrayList_get l7_2 x2 → RS D I P_2 x4 gm_2 el_2 → rStr gm_2 [1] F_2 x4 → ((∀ b, b ≠ x3 → x4 b = F_2 b)) → (x4 q0 = F_2 q0) → (x4 (gm_2 9 3) = F_2 (gm_2 9 3)) → (x4 (gm_2 9 17) = F_2 (gm_2 9 17)) → tr_RModel_coloured D I gm_2 el_2 F_2 q0 x3 x4 → x5.toInt = l7_2.toInt + 1 → R P_2 x4 gm_2 el_2 x5 k e1 e2 e3 e4 → R P_2 F_2 gm_2 el_2 l7_2 k e1 e2 e3 e4) →
  R s1 s2 s3 s4 s5 k e1 e2 e3 e4
/- tl_RModel_giveAll_90: P, F, gm, el, l5; out: F, P, gm, el -/
def tl_RModel_giveAll_90 (D : va_G) (I : FieldType → ClassId) (γ0 el0 : Nat → Nat → Nat) (f : Nat) (P : List Nat) (F : Nat → va_E) (q0 : Nat) (c1 : Nat → va_E) (q1 : Nat) (s1 : List Nat) (s2 : Nat → va_E) (s3 : Nat → Nat → Nat) (s4 : Nat → Nat → Nat) (s5 : Int32) (k : Nat) (e1 : Nat → va_E) (e2 : List Nat) (e3 : Nat → Nat → Nat) (e4 : Nat → Nat → Nat) : Prop := ∀ R : (List Nat) → (Nat → va_E) → (Nat → Nat → Nat) → (Nat → Nat → Nat) → (Int32) → Nat → (Nat → va_E) → (List Nat) → (Nat → Nat → Nat) → (Nat → Nat → Nat) → Prop,
  (∀ (P_1 : List Nat) (F_1 : Nat → va_E) (gm_1 : Nat → Nat → Nat) (el_1 : Nat → Nat → Nat) (l5_1 : Int32) (x1 : Int32), gB l5_1 0 1000000 → RS D I P_1 F_1 gm_1 el_1 → rSk f [101] ([1, 3, 5, 6, 8, 9, 101] ++ npk) D I P F γ0 el0 P_1 F_1 gm_1 el_1 → gm_1 6 f = γ0 6 f → ((gm_1 7 f : Nat) : Int) = (fI (F_1 q0) 11).toInt → 100 ≤ (fI (F_1 q0) 14).toInt → (F_1 (γ0 9 17) = c1 (γ0 9 17)) → rPl gm_1 el_1 F_1 q1 (gm_1 6 f) (cqR (cB (c1 (γ0 9 17))) (l5_1.toInt : Int).toNat 0) → mKp (F q0) (F_1 q0) → fI (F_1 q1) 3 = x1 → x1.toInt ≤ l5_1.toInt → R P_1 F_1 gm_1 el_1 l5_1 173 F_1 P_1 gm_1 el_1) →
  (∀ (P_1 : List Nat) (F_1 : Nat → va_E) (gm_1 : Nat → Nat → Nat) (el_1 : Nat → Nat → Nat) (l5_1 : Int32) (x1 : Int32) (x2 : Nat) (x3 : Nat) (x4 : Int32) (x5 : Nat → va_E) (x6 : List Nat) (x7 : Nat → Nat → Nat) (x8 : Nat → Nat → Nat) (x9 : Int32) (k : Nat) (e1 : Nat → va_E) (e2 : List Nat) (e3 : Nat → Nat → Nat) (e4 : Nat → Nat → Nat), gB l5_1 0 1000000 → RS D I P_1 F_1 gm_1 el_1 → rSk f [101] ([1, 3, 5, 6, 8, 9, 101] ++ npk) D I P F γ0 el0 P_1 F_1 gm_1 el_1 → gm_1 6 f = γ0 6 f → ((gm_1 7 f : Nat) : Int) = (fI (F_1 q0) 11).toInt → 100 ≤ (fI (F_1 q0) 14).toInt → (F_1 (γ0 9 17) = c1 (γ0 9 17)) → rPl gm_1 el_1 F_1 q1 (gm_1 6 f) (cqR (cB (c1 (γ0 9 17))) (l5_1.toInt : Int).toNat 0) → mKp (F q0) (F_1 q0) → fI (F_1 q1) 3 = x1 → l5_1.toInt < x1.toInt → fR (F_1 q1) 0 = x2 → x3 = el_1 x2 l5_1.toInt.toNat → fI (F_1 x2) 2 = x4 → tr_RCode_get l5_1 x4 → tl_RModel_giveAll_110 D I γ0 el0 f P F q0 c1 q1 l5_1 x3 P_1 F_1 gm_1 el_1 (0 : Int32) 167 x5 x6 x7 x8 → x9.toInt = l5_1.toInt + 1 → R x6 x5 x7 x8 x9 k e1 e2 e3 e4 → R P_1 F_1 gm_1 el_1 l5_1 k e1 e2 e3 e4) →
  R s1 s2 s3 s4 s5 k e1 e2 e3 e4
/- tl_RModel_giveAll_52: P, F, gm, el; out: F, P, gm, el -/
def tl_RModel_giveAll_52 (D : va_G) (I : FieldType → ClassId) (γ0 el0 : Nat → Nat → Nat) (f : Nat) (P : List Nat) (F : Nat → va_E) (q0 : Nat) (q1 : Nat) (a2 : Int32) (s1 : List Nat) (s2 : Nat → va_E) (s3 : Nat → Nat → Nat) (s4 : Nat → Nat → Nat) (k : Nat) (e1 : Nat → va_E) (e2 : List Nat) (e3 : Nat → Nat → Nat) (e4 : Nat → Nat → Nat) : Prop := ∀ R : (List Nat) → (Nat → va_E) → (Nat → Nat → Nat) → (Nat → Nat → Nat) → Nat → (Nat → va_E) → (List Nat) → (Nat → Nat → Nat) → (Nat → Nat → Nat) → Prop,
  (∀ (P_2 : List Nat) (F_2 : Nat → va_E) (gm_2 : Nat → Nat → Nat) (el_2 : Nat → Nat → Nat) (x1 : List Nat) (x2 : Nat → va_E) (x3 : Nat → Nat → Nat) (x4 : Nat → Nat → Nat) (x5 : Int32), RS D I P_2 F_2 gm_2 el_2 → rSk f [101] ([1, 3, 5, 6, 8, 9, 101] ++ npk) D I P F γ0 el0 P_2 F_2 gm_2 el_2 → gm_2 6 f = γ0 6 f → ((gm_2 7 f : Nat) : Int) = (fI (F_2 q0) 11).toInt → 100 ≤ (fI (F_2 q0) 14).toInt → rNI gm_2 el_2 F_2 q1 (gm_2 6 f) (fI (F_2 q0) 11).toInt → rGr gm_2 el_2 F_2 q1 (gm_2 6 f) (cB (F_2 (γ0 9 3))) (vA (gm_2 6 f)) → mKp (F q0) (F_2 q0) → rSk f [] ([1, 3, 6] ++ npk) D I P_2 F_2 gm_2 el_2 x1 x2 x3 x4 → x3 6 f = gm_2 6 f → x3 7 f = gm_2 7 f → x3 16 f = gm_2 16 f → x3 18 f = gm_2 18 f → ((x5.toInt = 0 ∨ rsum (fun i => x3 2 (x3 14 (x4 (x3 14 q1) i))) (x3 6 f) + 1 ≤ rsum (fun i => gm_2 2 (gm_2 14 (el_2 (gm_2 14 q1) i))) (gm_2 6 f))) → ((∀ N : Nat → Prop, rPl gm_2 el_2 F_2 q1 (gm_2 6 f) (fun _ _ => rNx N) → rPl x3 x4 x2 q1 (x3 6 f) (fun _ _ => rNx N))) → (fI (x2 q0) 11).toInt = (fI (F_2 q0) 11).toInt → (fI (x2 q0) 14).toInt = (fI (F_2 q0) 14).toInt → ((gIp (x5.toInt = 0) (x3 = gm_2 ∧ x4 = el_2 ∧ x2 = F_2))) → mKp (F_2 q0) (x2 q0) → tr_RModel_merge D I gm_2 el_2 f P_2 F_2 q0 q1 a2 x5 x1 x2 x3 x4 → x5.toInt = 0 → R P_2 F_2 gm_2 el_2 70 x2 x1 x3 x4) →
  (∀ (P_2 : List Nat) (F_2 : Nat → va_E) (gm_2 : Nat → Nat → Nat) (el_2 : Nat → Nat → Nat) (x1 : List Nat) (x2 : Nat → va_E) (x3 : Nat → Nat → Nat) (x4 : Nat → Nat → Nat) (x5 : Int32) (x6 : Nat → va_E) (k : Nat) (e1 : Nat → va_E) (e2 : List Nat) (e3 : Nat → Nat → Nat) (e4 : Nat → Nat → Nat), RS D I P_2 F_2 gm_2 el_2 → rSk f [101] ([1, 3, 5, 6, 8, 9, 101] ++ npk) D I P F γ0 el0 P_2 F_2 gm_2 el_2 → gm_2 6 f = γ0 6 f → ((gm_2 7 f : Nat) : Int) = (fI (F_2 q0) 11).toInt → 100 ≤ (fI (F_2 q0) 14).toInt → rNI gm_2 el_2 F_2 q1 (gm_2 6 f) (fI (F_2 q0) 11).toInt → rGr gm_2 el_2 F_2 q1 (gm_2 6 f) (cB (F_2 (γ0 9 3))) (vA (gm_2 6 f)) → mKp (F q0) (F_2 q0) → rSk f [] ([1, 3, 6] ++ npk) D I P_2 F_2 gm_2 el_2 x1 x2 x3 x4 → x3 6 f = gm_2 6 f → x3 7 f = gm_2 7 f → x3 16 f = gm_2 16 f → x3 18 f = gm_2 18 f → ((x5.toInt = 0 ∨ rsum (fun i => x3 2 (x3 14 (x4 (x3 14 q1) i))) (x3 6 f) + 1 ≤ rsum (fun i => gm_2 2 (gm_2 14 (el_2 (gm_2 14 q1) i))) (gm_2 6 f))) → ((∀ N : Nat → Prop, rPl gm_2 el_2 F_2 q1 (gm_2 6 f) (fun _ _ => rNx N) → rPl x3 x4 x2 q1 (x3 6 f) (fun _ _ => rNx N))) → (fI (x2 q0) 11).toInt = (fI (F_2 q0) 11).toInt → (fI (x2 q0) 14).toInt = (fI (F_2 q0) 14).toInt → ((gIp (x5.toInt = 0) (x3 = gm_2 ∧ x4 = el_2 ∧ x2 = F_2))) → mKp (F_2 q0) (x2 q0) → tr_RModel_merge D I gm_2 el_2 f P_2 F_2 q0 q1 a2 x5 x1 x2 x3 x4 → x5.toInt ≠ 0 → RS D I x1 x6 x3 x4 → rStr x3 [] x2 x6 → (gIp ((0 : Int) = 0) (rGr x3 x4 x2 q1 (x3 6 (x3 1 q1)) (cB (x6 (x3 9 3))) (vA (x3 6 (x3 1 q1))))) → (x6 q0 = x2 q0) → tr_RModel_graph D I x3 x4 x1 x2 q0 q1 (0 : Int32) x6 → R x1 x6 x3 x4 k e1 e2 e3 e4 → R P_2 F_2 gm_2 el_2 k e1 e2 e3 e4) →
  R s1 s2 s3 s4 k e1 e2 e3 e4
/- tl_RModel_giveAll_28: P, F, gm, el, l3; out: F, P, gm, el, l3 -/
def tl_RModel_giveAll_28 (D : va_G) (I : FieldType → ClassId) (γ0 el0 : Nat → Nat → Nat) (f : Nat) (P : List Nat) (F : Nat → va_E) (q0 : Nat) (q1 : Nat) (a2 : Int32) (s1 : List Nat) (s2 : Nat → va_E) (s3 : Nat → Nat → Nat) (s4 : Nat → Nat → Nat) (s5 : Int32) (k : Nat) (e1 : Nat → va_E) (e2 : List Nat) (e3 : Nat → Nat → Nat) (e4 : Nat → Nat → Nat) (e5 : Int32) : Prop := ∀ R : (List Nat) → (Nat → va_E) → (Nat → Nat → Nat) → (Nat → Nat → Nat) → (Int32) → Nat → (Nat → va_E) → (List Nat) → (Nat → Nat → Nat) → (Nat → Nat → Nat) → (Int32) → Prop,
  (∀ (P_1 : List Nat) (F_1 : Nat → va_E) (gm_1 : Nat → Nat → Nat) (el_1 : Nat → Nat → Nat) (l3_1 : Int32), gB l3_1 1 41 → RS D I P_1 F_1 gm_1 el_1 → rSk f [101] ([1, 3, 5, 6, 8, 9, 101] ++ npk) D I P F γ0 el0 P_1 F_1 gm_1 el_1 → gm_1 6 f = γ0 6 f → ((gm_1 7 f : Nat) : Int) = (fI (F_1 q0) 11).toInt → 100 ≤ (fI (F_1 q0) 14).toInt → rNI gm_1 el_1 F_1 q1 (gm_1 6 f) (fI (F_1 q0) 11).toInt → mKp (F q0) (F_1 q0) → 40 < l3_1.toInt → R P_1 F_1 gm_1 el_1 l3_1 207 F_1 P_1 gm_1 el_1 (0 : Int32)) →
  (∀ (P_1 : List Nat) (F_1 : Nat → va_E) (gm_1 : Nat → Nat → Nat) (el_1 : Nat → Nat → Nat) (l3_1 : Int32) (x1 : Int32) (x2 : Nat → va_E) (x3 : Nat → va_E) (x4 : List Nat) (x5 : Nat → Nat → Nat) (x6 : Nat → Nat → Nat) (x7 : Nat → va_E) (x8 : Int32) (x9 : Nat → va_E) (x10 : Int32) (x11 : Int32) (x12 : Nat → va_E) (x13 : List Nat) (x14 : Nat → va_E) (x15 : Nat → Nat → Nat) (x16 : Nat → Nat → Nat) (x17 : Int32) (x18 : Int32) (k : Nat) (e1 : Nat → va_E) (e2 : List Nat) (e3 : Nat → Nat → Nat) (e4 : Nat → Nat → Nat) (e5 : Int32), gB l3_1 1 41 → RS D I P_1 F_1 gm_1 el_1 → rSk f [101] ([1, 3, 5, 6, 8, 9, 101] ++ npk) D I P F γ0 el0 P_1 F_1 gm_1 el_1 → gm_1 6 f = γ0 6 f → ((gm_1 7 f : Nat) : Int) = (fI (F_1 q0) 11).toInt → 100 ≤ (fI (F_1 q0) 14).toInt → rNI gm_1 el_1 F_1 q1 (gm_1 6 f) (fI (F_1 q0) 11).toInt → mKp (F q0) (F_1 q0) → l3_1.toInt ≤ 40 → tr_RCode_countRows D I gm_1 el_1 F_1 q1 x1 → x1.toInt ≤ 4000 → RS D I P_1 x2 gm_1 el_1 → rStr gm_1 [] F_1 x2 → (gIp ((0 : Int) = 0) (rGr gm_1 el_1 F_1 q1 (gm_1 6 (gm_1 1 q1)) (cB (x2 (gm_1 9 3))) (vA (gm_1 6 (gm_1 1 q1))))) → (x2 q0 = F_1 q0) → tr_RModel_graph D I gm_1 el_1 P_1 F_1 q0 q1 (0 : Int32) x2 → tl_RModel_giveAll_52 D I γ0 el0 f P F q0 q1 a2 P_1 x2 gm_1 el_1 70 x3 x4 x5 x6 → RS D I x4 x7 x5 x6 → rStr x5 [] x3 x7 → (x7 q0 = x3 q0) → (x7 (x5 9 3) = x3 (x5 9 3)) → tr_RModel_weigh D I x5 x6 x4 x3 q0 q1 x7 → gB x8 0 2000 → RS D I x4 x9 x5 x6 → rStr x5 [] x7 x9 → ((gIp (x8.toInt = 0) (∀ m : Nat, rSd (cB (x9 (x5 9 3))) m → 0 ≤ (cB (x9 (x5 9 17)) m).toInt))) → (x9 q0 = x7 q0) → (x9 (x5 9 3) = x7 (x5 9 3)) → tr_RModel_colours D I x5 x6 x4 x7 q0 a2 x8 x9 → x8.toInt ≠ 0 → fI (x9 q0) 12 = x10 → x11 = x10 + x8 → (∀ b, b ≠ q0 → x12 b = x9 b) → x12 q0 = cF (x9 q0) 12 (.int x11) → rSk f [101] ([1, 3, 5, 6, 8, 9, 101] ++ npk) D I x4 x12 x5 x6 x13 x14 x15 x16 → x15 6 f = x5 6 f → (x14 (x5 9 3) = x12 (x5 9 3)) → mKp (x12 q0) (x14 q0) → tr_RModel_spill D I x5 x6 f x4 x12 q0 q1 x17 x13 x14 x15 x16 → x17.toInt ≠ 0 → x18.toInt = l3_1.toInt + 1 → R x13 x14 x15 x16 x18 k e1 e2 e3 e4 e5 → R P_1 F_1 gm_1 el_1 l3_1 k e1 e2 e3 e4 e5) →
  (∀ (P_1 : List Nat) (F_1 : Nat → va_E) (gm_1 : Nat → Nat → Nat) (el_1 : Nat → Nat → Nat) (l3_1 : Int32) (x1 : Int32) (x2 : Nat → va_E) (x3 : Nat → va_E) (x4 : List Nat) (x5 : Nat → Nat → Nat) (x6 : Nat → Nat → Nat) (x7 : Nat → va_E) (x8 : Int32) (x9 : Nat → va_E) (x10 : Int32) (x11 : Int32) (x12 : Nat → va_E) (x13 : List Nat) (x14 : Nat → va_E) (x15 : Nat → Nat → Nat) (x16 : Nat → Nat → Nat) (x17 : Int32), gB l3_1 1 41 → RS D I P_1 F_1 gm_1 el_1 → rSk f [101] ([1, 3, 5, 6, 8, 9, 101] ++ npk) D I P F γ0 el0 P_1 F_1 gm_1 el_1 → gm_1 6 f = γ0 6 f → ((gm_1 7 f : Nat) : Int) = (fI (F_1 q0) 11).toInt → 100 ≤ (fI (F_1 q0) 14).toInt → rNI gm_1 el_1 F_1 q1 (gm_1 6 f) (fI (F_1 q0) 11).toInt → mKp (F q0) (F_1 q0) → l3_1.toInt ≤ 40 → tr_RCode_countRows D I gm_1 el_1 F_1 q1 x1 → x1.toInt ≤ 4000 → RS D I P_1 x2 gm_1 el_1 → rStr gm_1 [] F_1 x2 → (gIp ((0 : Int) = 0) (rGr gm_1 el_1 F_1 q1 (gm_1 6 (gm_1 1 q1)) (cB (x2 (gm_1 9 3))) (vA (gm_1 6 (gm_1 1 q1))))) → (x2 q0 = F_1 q0) → tr_RModel_graph D I gm_1 el_1 P_1 F_1 q0 q1 (0 : Int32) x2 → tl_RModel_giveAll_52 D I γ0 el0 f P F q0 q1 a2 P_1 x2 gm_1 el_1 70 x3 x4 x5 x6 → RS D I x4 x7 x5 x6 → rStr x5 [] x3 x7 → (x7 q0 = x3 q0) → (x7 (x5 9 3) = x3 (x5 9 3)) → tr_RModel_weigh D I x5 x6 x4 x3 q0 q1 x7 → gB x8 0 2000 → RS D I x4 x9 x5 x6 → rStr x5 [] x7 x9 → ((gIp (x8.toInt = 0) (∀ m : Nat, rSd (cB (x9 (x5 9 3))) m → 0 ≤ (cB (x9 (x5 9 17)) m).toInt))) → (x9 q0 = x7 q0) → (x9 (x5 9 3) = x7 (x5 9 3)) → tr_RModel_colours D I x5 x6 x4 x7 q0 a2 x8 x9 → x8.toInt ≠ 0 → fI (x9 q0) 12 = x10 → x11 = x10 + x8 → (∀ b, b ≠ q0 → x12 b = x9 b) → x12 q0 = cF (x9 q0) 12 (.int x11) → rSk f [101] ([1, 3, 5, 6, 8, 9, 101] ++ npk) D I x4 x12 x5 x6 x13 x14 x15 x16 → x15 6 f = x5 6 f → (x14 (x5 9 3) = x12 (x5 9 3)) → mKp (x12 q0) (x14 q0) → tr_RModel_spill D I x5 x6 f x4 x12 q0 q1 x17 x13 x14 x15 x16 → x17.toInt = 0 → R P_1 F_1 gm_1 el_1 l3_1 199 x14 x13 x15 x16 (0 : Int32)) →
  (∀ (P_1 : List Nat) (F_1 : Nat → va_E) (gm_1 : Nat → Nat → Nat) (el_1 : Nat → Nat → Nat) (l3_1 : Int32) (x1 : Int32) (x2 : Nat → va_E) (x3 : Nat → va_E) (x4 : List Nat) (x5 : Nat → Nat → Nat) (x6 : Nat → Nat → Nat) (x7 : Nat → va_E) (x8 : Int32) (x9 : Nat → va_E), gB l3_1 1 41 → RS D I P_1 F_1 gm_1 el_1 → rSk f [101] ([1, 3, 5, 6, 8, 9, 101] ++ npk) D I P F γ0 el0 P_1 F_1 gm_1 el_1 → gm_1 6 f = γ0 6 f → ((gm_1 7 f : Nat) : Int) = (fI (F_1 q0) 11).toInt → 100 ≤ (fI (F_1 q0) 14).toInt → rNI gm_1 el_1 F_1 q1 (gm_1 6 f) (fI (F_1 q0) 11).toInt → mKp (F q0) (F_1 q0) → l3_1.toInt ≤ 40 → tr_RCode_countRows D I gm_1 el_1 F_1 q1 x1 → x1.toInt ≤ 4000 → RS D I P_1 x2 gm_1 el_1 → rStr gm_1 [] F_1 x2 → (gIp ((0 : Int) = 0) (rGr gm_1 el_1 F_1 q1 (gm_1 6 (gm_1 1 q1)) (cB (x2 (gm_1 9 3))) (vA (gm_1 6 (gm_1 1 q1))))) → (x2 q0 = F_1 q0) → tr_RModel_graph D I gm_1 el_1 P_1 F_1 q0 q1 (0 : Int32) x2 → tl_RModel_giveAll_52 D I γ0 el0 f P F q0 q1 a2 P_1 x2 gm_1 el_1 70 x3 x4 x5 x6 → RS D I x4 x7 x5 x6 → rStr x5 [] x3 x7 → (x7 q0 = x3 q0) → (x7 (x5 9 3) = x3 (x5 9 3)) → tr_RModel_weigh D I x5 x6 x4 x3 q0 q1 x7 → gB x8 0 2000 → RS D I x4 x9 x5 x6 → rStr x5 [] x7 x9 → ((gIp (x8.toInt = 0) (∀ m : Nat, rSd (cB (x9 (x5 9 3))) m → 0 ≤ (cB (x9 (x5 9 17)) m).toInt))) → (x9 q0 = x7 q0) → (x9 (x5 9 3) = x7 (x5 9 3)) → tr_RModel_colours D I x5 x6 x4 x7 q0 a2 x8 x9 → x8.toInt = 0 → R P_1 F_1 gm_1 el_1 l3_1 87 x9 x4 x5 x6 l3_1) →
  (∀ (P_1 : List Nat) (F_1 : Nat → va_E) (gm_1 : Nat → Nat → Nat) (el_1 : Nat → Nat → Nat) (l3_1 : Int32) (x1 : Int32), gB l3_1 1 41 → RS D I P_1 F_1 gm_1 el_1 → rSk f [101] ([1, 3, 5, 6, 8, 9, 101] ++ npk) D I P F γ0 el0 P_1 F_1 gm_1 el_1 → gm_1 6 f = γ0 6 f → ((gm_1 7 f : Nat) : Int) = (fI (F_1 q0) 11).toInt → 100 ≤ (fI (F_1 q0) 14).toInt → rNI gm_1 el_1 F_1 q1 (gm_1 6 f) (fI (F_1 q0) 11).toInt → mKp (F q0) (F_1 q0) → l3_1.toInt ≤ 40 → tr_RCode_countRows D I gm_1 el_1 F_1 q1 x1 → 4000 < x1.toInt → R P_1 F_1 gm_1 el_1 l3_1 44 F_1 P_1 gm_1 el_1 (0 : Int32)) →
  R s1 s2 s3 s4 s5 k e1 e2 e3 e4 e5
/- tr_RModel_giveAll: result, P, F, gm, el -/
def tr_RModel_giveAll (D : va_G) (I : FieldType → ClassId) (γ0 el0 : Nat → Nat → Nat) (f : Nat) (P : List Nat) (F : Nat → va_E) (q0 : Nat) (q1 : Nat) (a2 : Int32) (o1 : Int32) (o2 : List Nat) (o3 : Nat → va_E) (o4 : Nat → Nat → Nat) (o5 : Nat → Nat → Nat) : Prop := ∀ R : (Int32) → (List Nat) → (Nat → va_E) → (Nat → Nat → Nat) → (Nat → Nat → Nat) → Prop,
  (∀ (x1 : Nat → Nat → Nat) (x2 : Nat → Nat → Nat) (x3 : Nat → va_E) (x4 : Nat → va_E) (x5 : Nat → va_E) (x6 : Nat → va_E) (x7 : List Nat) (x8 : Nat → va_E) (x9 : Nat → Nat → Nat) (x10 : Nat → Nat → Nat) (x11 : Nat → va_E) (x12 : List Nat) (x13 : Nat → Nat → Nat) (x14 : Nat → Nat → Nat), x1 = γ0 → x2 = el0 → (∀ b, b ≠ q0 → x3 b = F b) → x3 q0 = cF (F q0) 11 (.int 0) → (∀ b, b ≠ q0 → x4 b = x3 b) → x4 q0 = cF (x3 q0) 12 (.int 0) → (∀ b, b ≠ q0 → x5 b = x4 b) → x5 q0 = cF (x4 q0) 13 (.int 0) → (∀ b, b ≠ q0 → x6 b = x5 b) → x6 q0 = cF (x5 q0) 14 (.int 100) → rSk f [101] ([1, 3, 5, 6, 8, 9, 101] ++ npk) D I P x6 x1 x2 x7 x8 x9 x10 → x9 6 f = x1 6 f → x9 7 f = x1 7 f → x9 16 f ≤ x1 16 f + 2000 → x9 18 f = x1 18 f → (x8 q0 = x6 q0) → tr_RModel_zeros D I x1 x2 f P x6 q0 q1 x7 x8 x9 x10 → tl_RModel_giveAll_28 D I γ0 el0 f P F q0 q1 a2 x7 x8 x9 x10 (1 : Int32) 207 x11 x12 x13 x14 (0 : Int32) → R (-1 : Int32) x12 x11 x13 x14) →
  (∀ (x1 : Nat → Nat → Nat) (x2 : Nat → Nat → Nat) (x3 : Nat → va_E) (x4 : Nat → va_E) (x5 : Nat → va_E) (x6 : Nat → va_E) (x7 : List Nat) (x8 : Nat → va_E) (x9 : Nat → Nat → Nat) (x10 : Nat → Nat → Nat) (x11 : Nat → va_E) (x12 : List Nat) (x13 : Nat → Nat → Nat) (x14 : Nat → Nat → Nat), x1 = γ0 → x2 = el0 → (∀ b, b ≠ q0 → x3 b = F b) → x3 q0 = cF (F q0) 11 (.int 0) → (∀ b, b ≠ q0 → x4 b = x3 b) → x4 q0 = cF (x3 q0) 12 (.int 0) → (∀ b, b ≠ q0 → x5 b = x4 b) → x5 q0 = cF (x4 q0) 13 (.int 0) → (∀ b, b ≠ q0 → x6 b = x5 b) → x6 q0 = cF (x5 q0) 14 (.int 100) → rSk f [101] ([1, 3, 5, 6, 8, 9, 101] ++ npk) D I P x6 x1 x2 x7 x8 x9 x10 → x9 6 f = x1 6 f → x9 7 f = x1 7 f → x9 16 f ≤ x1 16 f + 2000 → x9 18 f = x1 18 f → (x8 q0 = x6 q0) → tr_RModel_zeros D I x1 x2 f P x6 q0 q1 x7 x8 x9 x10 → tl_RModel_giveAll_28 D I γ0 el0 f P F q0 q1 a2 x7 x8 x9 x10 (1 : Int32) 199 x11 x12 x13 x14 (0 : Int32) → R (-1 : Int32) x12 x11 x13 x14) →
  (∀ (x1 : Nat → Nat → Nat) (x2 : Nat → Nat → Nat) (x3 : Nat → va_E) (x4 : Nat → va_E) (x5 : Nat → va_E) (x6 : Nat → va_E) (x7 : List Nat) (x8 : Nat → va_E) (x9 : Nat → Nat → Nat) (x10 : Nat → Nat → Nat) (x11 : Nat → va_E) (x12 : List Nat) (x13 : Nat → Nat → Nat) (x14 : Nat → Nat → Nat) (x15 : Int32) (x16 : Nat → va_E) (x17 : List Nat) (x18 : Nat → Nat → Nat) (x19 : Nat → Nat → Nat) (x20 : Nat → va_E), x1 = γ0 → x2 = el0 → (∀ b, b ≠ q0 → x3 b = F b) → x3 q0 = cF (F q0) 11 (.int 0) → (∀ b, b ≠ q0 → x4 b = x3 b) → x4 q0 = cF (x3 q0) 12 (.int 0) → (∀ b, b ≠ q0 → x5 b = x4 b) → x5 q0 = cF (x4 q0) 13 (.int 0) → (∀ b, b ≠ q0 → x6 b = x5 b) → x6 q0 = cF (x5 q0) 14 (.int 100) → rSk f [101] ([1, 3, 5, 6, 8, 9, 101] ++ npk) D I P x6 x1 x2 x7 x8 x9 x10 → x9 6 f = x1 6 f → x9 7 f = x1 7 f → x9 16 f ≤ x1 16 f + 2000 → x9 18 f = x1 18 f → (x8 q0 = x6 q0) → tr_RModel_zeros D I x1 x2 f P x6 q0 q1 x7 x8 x9 x10 → tl_RModel_giveAll_28 D I γ0 el0 f P F q0 q1 a2 x7 x8 x9 x10 (1 : Int32) 87 x11 x12 x13 x14 x15 → tl_RModel_giveAll_90 D I γ0 el0 f P F q0 x11 q1 x12 x11 x13 x14 (0 : Int32) 173 x16 x17 x18 x19 → RS D I x17 x20 x18 x19 → rStr x18 [1] x16 x20 → rFs x18 (x18 1 q1) x16 x20 → mKp (x16 q0) (x20 q0) → tr_RModel_share D I x18 x19 x17 x16 q0 q1 x20 → R x15 x17 x20 x18 x19) →
  (∀ (x1 : Nat → Nat → Nat) (x2 : Nat → Nat → Nat) (x3 : Nat → va_E) (x4 : Nat → va_E) (x5 : Nat → va_E) (x6 : Nat → va_E) (x7 : List Nat) (x8 : Nat → va_E) (x9 : Nat → Nat → Nat) (x10 : Nat → Nat → Nat) (x11 : Nat → va_E) (x12 : List Nat) (x13 : Nat → Nat → Nat) (x14 : Nat → Nat → Nat), x1 = γ0 → x2 = el0 → (∀ b, b ≠ q0 → x3 b = F b) → x3 q0 = cF (F q0) 11 (.int 0) → (∀ b, b ≠ q0 → x4 b = x3 b) → x4 q0 = cF (x3 q0) 12 (.int 0) → (∀ b, b ≠ q0 → x5 b = x4 b) → x5 q0 = cF (x4 q0) 13 (.int 0) → (∀ b, b ≠ q0 → x6 b = x5 b) → x6 q0 = cF (x5 q0) 14 (.int 100) → rSk f [101] ([1, 3, 5, 6, 8, 9, 101] ++ npk) D I P x6 x1 x2 x7 x8 x9 x10 → x9 6 f = x1 6 f → x9 7 f = x1 7 f → x9 16 f ≤ x1 16 f + 2000 → x9 18 f = x1 18 f → (x8 q0 = x6 q0) → tr_RModel_zeros D I x1 x2 f P x6 q0 q1 x7 x8 x9 x10 → tl_RModel_giveAll_28 D I γ0 el0 f P F q0 q1 a2 x7 x8 x9 x10 (1 : Int32) 44 x11 x12 x13 x14 (0 : Int32) → R (-1 : Int32) x12 x11 x13 x14) →
  R o1 o2 o3 o4 o5
