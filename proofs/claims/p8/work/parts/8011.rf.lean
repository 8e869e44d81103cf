theorem dr_cX17_spill_0 : decode cX17_spill 0 = .ok (.iconst 0, 1) := by decide +kernel
theorem dr_cX17_spill_1 : decode cX17_spill 1 = .ok (.istore_n 2, 1) := by decide +kernel
theorem dr_cX17_spill_2 : decode cX17_spill 2 = .ok (.iload_n 2, 1) := by decide +kernel
theorem dr_cX17_spill_3 : decode cX17_spill 3 = .ok (.sipush 2000, 3) := by decide +kernel
theorem dr_cX17_spill_6 : decode cX17_spill 6 = .ok (.if_icmp .ge 65, 3) := by decide +kernel
theorem dr_cX17_spill_71 : decode cX17_spill 71 = .ok (.iconst 0, 1) := by decide +kernel
theorem dr_cX17_spill_72 : decode cX17_spill 72 = .ok (.istore_n 2, 1) := by decide +kernel
theorem dr_cX17_spill_73 : decode cX17_spill 73 = .ok (.iload_n 2, 1) := by decide +kernel
theorem dr_cX17_spill_74 : decode cX17_spill 74 = .ok (.aload_n 1, 1) := by decide +kernel
theorem dr_cX17_spill_75 : decode cX17_spill 75 = .ok (.invokevirtual 96, 3) := by decide +kernel
theorem dr_cX17_spill_78 : decode cX17_spill 78 = .ok (.if_icmp .ge 353, 3) := by decide +kernel
theorem dr_cX17_spill_431 : decode cX17_spill 431 = .ok (.aload_n 1, 1) := by decide +kernel
theorem dr_cX17_spill_432 : decode cX17_spill 432 = .ok (.invokevirtual 234, 3) := by decide +kernel
theorem dr_cX17_spill_435 : decode cX17_spill 435 = .ok (.sipush 4000, 3) := by decide +kernel
theorem dr_cX17_spill_438 : decode cX17_spill 438 = .ok (.if_icmp .gt 7, 3) := by decide +kernel
theorem dr_cX17_spill_445 : decode cX17_spill 445 = .ok (.iconst 0, 1) := by decide +kernel
theorem dr_cX17_spill_446 : decode cX17_spill 446 = .ok (.ireturn, 1) := by decide +kernel
theorem dr_cX17_spill_441 : decode cX17_spill 441 = .ok (.iconst 1, 1) := by decide +kernel
theorem dr_cX17_spill_442 : decode cX17_spill 442 = .ok (.goto 4, 3) := by decide +kernel
theorem dr_cX17_spill_81 : decode cX17_spill 81 = .ok (.aload_n 1, 1) := by decide +kernel
theorem dr_cX17_spill_82 : decode cX17_spill 82 = .ok (.iload_n 2, 1) := by decide +kernel
theorem dr_cX17_spill_83 : decode cX17_spill 83 = .ok (.invokevirtual 101, 3) := by decide +kernel
theorem dr_cX17_spill_86 : decode cX17_spill 86 = .ok (.astore_n 3, 1) := by decide +kernel
theorem dr_cX17_spill_87 : decode cX17_spill 87 = .ok (.iconst 0, 1) := by decide +kernel
theorem dr_cX17_spill_88 : decode cX17_spill 88 = .ok (.istore 4, 2) := by decide +kernel
theorem dr_cX17_spill_90 : decode cX17_spill 90 = .ok (.iload 4, 2) := by decide +kernel
theorem dr_cX17_spill_92 : decode cX17_spill 92 = .ok (.aload_n 3, 1) := by decide +kernel
theorem dr_cX17_spill_93 : decode cX17_spill 93 = .ok (.getfield 117, 3) := by decide +kernel
theorem dr_cX17_spill_96 : decode cX17_spill 96 = .ok (.invokevirtual 121, 3) := by decide +kernel
theorem dr_cX17_spill_99 : decode cX17_spill 99 = .ok (.if_icmp .gt 326, 3) := by decide +kernel
theorem dr_cX17_spill_425 : decode cX17_spill 425 = .ok (.iinc 2 1, 3) := by decide +kernel
theorem dr_cX17_spill_428 : decode cX17_spill 428 = .ok (.goto (-355), 3) := by decide +kernel
theorem dr_cX17_spill_292 : decode cX17_spill 292 = .ok (.aload 5, 2) := by decide +kernel
theorem dr_cX17_spill_294 : decode cX17_spill 294 = .ok (.invokevirtual 48, 3) := by decide +kernel
theorem dr_cX17_spill_297 : decode cX17_spill 297 = .ok (.ifCond .eq 122, 3) := by decide +kernel
theorem dr_cX17_spill_419 : decode cX17_spill 419 = .ok (.iinc 4 1, 3) := by decide +kernel
theorem dr_cX17_spill_422 : decode cX17_spill 422 = .ok (.goto (-332), 3) := by decide +kernel
theorem dr_cX17_spill_300 : decode cX17_spill 300 = .ok (.aload 5, 2) := by decide +kernel
theorem dr_cX17_spill_302 : decode cX17_spill 302 = .ok (.getfield 39, 3) := by decide +kernel
theorem dr_cX17_spill_305 : decode cX17_spill 305 = .ok (.bipush 21, 2) := by decide +kernel
theorem dr_cX17_spill_307 : decode cX17_spill 307 = .ok (.if_icmp .eq 112, 3) := by decide +kernel
theorem dr_cX17_spill_310 : decode cX17_spill 310 = .ok (.aload_n 0, 1) := by decide +kernel
theorem dr_cX17_spill_311 : decode cX17_spill 311 = .ok (.getfield 221, 3) := by decide +kernel
theorem dr_cX17_spill_314 : decode cX17_spill 314 = .ok (.aload 5, 2) := by decide +kernel
theorem dr_cX17_spill_316 : decode cX17_spill 316 = .ok (.getfield 52, 3) := by decide +kernel
theorem dr_cX17_spill_319 : decode cX17_spill 319 = .ok (.iaload, 1) := by decide +kernel
theorem dr_cX17_spill_320 : decode cX17_spill 320 = .ok (.ifCond .ge 6, 3) := by decide +kernel
theorem dr_cX17_spill_326 : decode cX17_spill 326 = .ok (.aload_n 0, 1) := by decide +kernel
theorem dr_cX17_spill_327 : decode cX17_spill 327 = .ok (.getfield 221, 3) := by decide +kernel
theorem dr_cX17_spill_330 : decode cX17_spill 330 = .ok (.aload 5, 2) := by decide +kernel
theorem dr_cX17_spill_332 : decode cX17_spill 332 = .ok (.getfield 52, 3) := by decide +kernel
theorem dr_cX17_spill_335 : decode cX17_spill 335 = .ok (.iaload, 1) := by decide +kernel
theorem dr_cX17_spill_336 : decode cX17_spill 336 = .ok (.istore 8, 2) := by decide +kernel
theorem dr_cX17_spill_338 : decode cX17_spill 338 = .ok (.aload_n 0, 1) := by decide +kernel
theorem dr_cX17_spill_339 : decode cX17_spill 339 = .ok (.getfield 231, 3) := by decide +kernel
theorem dr_cX17_spill_342 : decode cX17_spill 342 = .ok (.sipush 2000, 3) := by decide +kernel
theorem dr_cX17_spill_345 : decode cX17_spill 345 = .ok (.if_icmp .ne 5, 3) := by decide +kernel
theorem dr_cX17_spill_350 : decode cX17_spill 350 = .ok (.aload 5, 2) := by decide +kernel
theorem dr_cX17_spill_352 : decode cX17_spill 352 = .ok (.aload_n 0, 1) := by decide +kernel
theorem dr_cX17_spill_353 : decode cX17_spill 353 = .ok (.getfield 231, 3) := by decide +kernel
theorem dr_cX17_spill_356 : decode cX17_spill 356 = .ok (.putfield 52, 3) := by decide +kernel
theorem dr_cX17_spill_359 : decode cX17_spill 359 = .ok (.aload_n 0, 1) := by decide +kernel
theorem dr_cX17_spill_360 : decode cX17_spill 360 = .ok (.dup, 1) := by decide +kernel
theorem dr_cX17_spill_361 : decode cX17_spill 361 = .ok (.getfield 231, 3) := by decide +kernel
theorem dr_cX17_spill_364 : decode cX17_spill 364 = .ok (.iconst 1, 1) := by decide +kernel
theorem dr_cX17_spill_365 : decode cX17_spill 365 = .ok (.iadd, 1) := by decide +kernel
theorem dr_cX17_spill_366 : decode cX17_spill 366 = .ok (.putfield 231, 3) := by decide +kernel
theorem dr_cX17_spill_369 : decode cX17_spill 369 = .ok (.aload_n 1, 1) := by decide +kernel
theorem dr_cX17_spill_370 : decode cX17_spill 370 = .ok (.invokevirtual 177, 3) := by decide +kernel
theorem dr_cX17_spill_373 : decode cX17_spill 373 = .ok (.astore 9, 2) := by decide +kernel
theorem dr_cX17_spill_375 : decode cX17_spill 375 = .ok (.aload 9, 2) := by decide +kernel
theorem dr_cX17_spill_377 : decode cX17_spill 377 = .ok (.bipush 23, 2) := by decide +kernel
theorem dr_cX17_spill_379 : decode cX17_spill 379 = .ok (.putfield 39, 3) := by decide +kernel
theorem dr_cX17_spill_382 : decode cX17_spill 382 = .ok (.aload 9, 2) := by decide +kernel
theorem dr_cX17_spill_384 : decode cX17_spill 384 = .ok (.iload 8, 2) := by decide +kernel
theorem dr_cX17_spill_386 : decode cX17_spill 386 = .ok (.putfield 45, 3) := by decide +kernel
theorem dr_cX17_spill_389 : decode cX17_spill 389 = .ok (.aload 9, 2) := by decide +kernel
theorem dr_cX17_spill_391 : decode cX17_spill 391 = .ok (.aload 5, 2) := by decide +kernel
theorem dr_cX17_spill_393 : decode cX17_spill 393 = .ok (.getfield 52, 3) := by decide +kernel
theorem dr_cX17_spill_396 : decode cX17_spill 396 = .ok (.putfield 73, 3) := by decide +kernel
theorem dr_cX17_spill_399 : decode cX17_spill 399 = .ok (.aload 9, 2) := by decide +kernel
theorem dr_cX17_spill_401 : decode cX17_spill 401 = .ok (.iconst 1, 1) := by decide +kernel
theorem dr_cX17_spill_402 : decode cX17_spill 402 = .ok (.putfield 141, 3) := by decide +kernel
theorem dr_cX17_spill_405 : decode cX17_spill 405 = .ok (.iinc 4 1, 3) := by decide +kernel
theorem dr_cX17_spill_408 : decode cX17_spill 408 = .ok (.aload_n 3, 1) := by decide +kernel
theorem dr_cX17_spill_409 : decode cX17_spill 409 = .ok (.getfield 117, 3) := by decide +kernel
theorem dr_cX17_spill_412 : decode cX17_spill 412 = .ok (.iload 4, 2) := by decide +kernel
theorem dr_cX17_spill_414 : decode cX17_spill 414 = .ok (.aload 9, 2) := by decide +kernel
theorem dr_cX17_spill_416 : decode cX17_spill 416 = .ok (.invokevirtual 181, 3) := by decide +kernel
theorem dr_cX17_spill_348 : decode cX17_spill 348 = .ok (.iconst 0, 1) := by decide +kernel
theorem dr_cX17_spill_349 : decode cX17_spill 349 = .ok (.ireturn, 1) := by decide +kernel
theorem dr_cX17_spill_323 : decode cX17_spill 323 = .ok (.goto 96, 3) := by decide +kernel
theorem dr_cX17_spill_236 : decode cX17_spill 236 = .ok (.iload 7, 2) := by decide +kernel
theorem dr_cX17_spill_238 : decode cX17_spill 238 = .ok (.ifCond .lt 54, 3) := by decide +kernel
theorem dr_cX17_spill_241 : decode cX17_spill 241 = .ok (.iload 7, 2) := by decide +kernel
theorem dr_cX17_spill_243 : decode cX17_spill 243 = .ok (.iload 6, 2) := by decide +kernel
theorem dr_cX17_spill_245 : decode cX17_spill 245 = .ok (.if_icmp .eq 47, 3) := by decide +kernel
theorem dr_cX17_spill_248 : decode cX17_spill 248 = .ok (.aload_n 0, 1) := by decide +kernel
theorem dr_cX17_spill_249 : decode cX17_spill 249 = .ok (.getfield 221, 3) := by decide +kernel
theorem dr_cX17_spill_252 : decode cX17_spill 252 = .ok (.iload 7, 2) := by decide +kernel
theorem dr_cX17_spill_254 : decode cX17_spill 254 = .ok (.iaload, 1) := by decide +kernel
theorem dr_cX17_spill_255 : decode cX17_spill 255 = .ok (.ifCond .lt 37, 3) := by decide +kernel
theorem dr_cX17_spill_258 : decode cX17_spill 258 = .ok (.aload_n 0, 1) := by decide +kernel
theorem dr_cX17_spill_259 : decode cX17_spill 259 = .ok (.aload_n 1, 1) := by decide +kernel
theorem dr_cX17_spill_260 : decode cX17_spill 260 = .ok (.aload_n 3, 1) := by decide +kernel
theorem dr_cX17_spill_261 : decode cX17_spill 261 = .ok (.iload 4, 2) := by decide +kernel
theorem dr_cX17_spill_263 : decode cX17_spill 263 = .ok (.aload_n 0, 1) := by decide +kernel
theorem dr_cX17_spill_264 : decode cX17_spill 264 = .ok (.getfield 221, 3) := by decide +kernel
theorem dr_cX17_spill_267 : decode cX17_spill 267 = .ok (.iload 7, 2) := by decide +kernel
theorem dr_cX17_spill_269 : decode cX17_spill 269 = .ok (.iaload, 1) := by decide +kernel
theorem dr_cX17_spill_270 : decode cX17_spill 270 = .ok (.invokevirtual 227, 3) := by decide +kernel
theorem wr_11_67 : (Jvm.Cond.methodLink "SpillForgeModel" (227 : Nat) ({ cls := "SpillForgeModel", name := "load", desc := "(LSpillForgeModel$Code;LSpillForgeModel$Block;II)I" } : Jvm.MethodName)) ∈ gw := gw_11 67 rfl rfl
theorem wr_11_70 : (Jvm.Cond.code ({ cls := "SpillForgeModel", name := "load", desc := "(LSpillForgeModel$Code;LSpillForgeModel$Block;II)I" } : Jvm.MethodName) prog_14_method_23_code (6 : Nat) (Option.some Jvm.ClassFile.FieldType.int)) ∈ gw := gw_11 70 rfl rfl
theorem wr_11_69 : (Jvm.Cond.instanceMethod ({ cls := "SpillForgeModel", name := "load", desc := "(LSpillForgeModel$Code;LSpillForgeModel$Block;II)I" } : Jvm.MethodName)) ∈ gw := gw_11 69 rfl rfl
theorem wr_p_111 : Cond.selects "SpillForgeModel" ⟨"SpillForgeModel", "load", "(LSpillForgeModel$Code;LSpillForgeModel$Block;II)I"⟩ ⟨"SpillForgeModel", "load", "(LSpillForgeModel$Code;LSpillForgeModel$Block;II)I"⟩ ∈ gw := gw_p _ 111 rfl rfl rfl
theorem dr_cX17_spill_273 : decode cX17_spill 273 = .ok (.istore 8, 2) := by decide +kernel
theorem dr_cX17_spill_275 : decode cX17_spill 275 = .ok (.iload 8, 2) := by decide +kernel
theorem dr_cX17_spill_277 : decode cX17_spill 277 = .ok (.ifCond .ge 5, 3) := by decide +kernel
theorem dr_cX17_spill_282 : decode cX17_spill 282 = .ok (.iinc 4 1, 3) := by decide +kernel
theorem dr_cX17_spill_285 : decode cX17_spill 285 = .ok (.aload 5, 2) := by decide +kernel
theorem dr_cX17_spill_287 : decode cX17_spill 287 = .ok (.iload 8, 2) := by decide +kernel
theorem dr_cX17_spill_289 : decode cX17_spill 289 = .ok (.putfield 79, 3) := by decide +kernel
theorem dr_cX17_spill_280 : decode cX17_spill 280 = .ok (.iconst 0, 1) := by decide +kernel
theorem dr_cX17_spill_281 : decode cX17_spill 281 = .ok (.ireturn, 1) := by decide +kernel
theorem dr_cX17_spill_102 : decode cX17_spill 102 = .ok (.iload 4, 2) := by decide +kernel
theorem dr_cX17_spill_104 : decode cX17_spill 104 = .ok (.aload_n 3, 1) := by decide +kernel
theorem dr_cX17_spill_105 : decode cX17_spill 105 = .ok (.getfield 117, 3) := by decide +kernel
theorem dr_cX17_spill_108 : decode cX17_spill 108 = .ok (.invokevirtual 121, 3) := by decide +kernel
theorem dr_cX17_spill_111 : decode cX17_spill 111 = .ok (.if_icmp .ge 18, 3) := by decide +kernel
theorem dr_cX17_spill_129 : decode cX17_spill 129 = .ok (.aload_n 3, 1) := by decide +kernel
theorem dr_cX17_spill_130 : decode cX17_spill 130 = .ok (.getfield 109, 3) := by decide +kernel
theorem dr_cX17_spill_133 : decode cX17_spill 133 = .ok (.astore 5, 2) := by decide +kernel
theorem dr_cX17_spill_135 : decode cX17_spill 135 = .ok (.aload 5, 2) := by decide +kernel
theorem dr_cX17_spill_137 : decode cX17_spill 137 = .ok (.invokevirtual 70, 3) := by decide +kernel
theorem dr_cX17_spill_140 : decode cX17_spill 140 = .ok (.ifCond .eq 11, 3) := by decide +kernel
theorem dr_cX17_spill_151 : decode cX17_spill 151 = .ok (.iconst (-1), 1) := by decide +kernel
theorem dr_cX17_spill_152 : decode cX17_spill 152 = .ok (.istore 6, 2) := by decide +kernel
theorem dr_cX17_spill_154 : decode cX17_spill 154 = .ok (.aload 5, 2) := by decide +kernel
theorem dr_cX17_spill_156 : decode cX17_spill 156 = .ok (.invokevirtual 76, 3) := by decide +kernel
theorem dr_cX17_spill_159 : decode cX17_spill 159 = .ok (.ifCond .eq 11, 3) := by decide +kernel
theorem dr_cX17_spill_170 : decode cX17_spill 170 = .ok (.iconst (-1), 1) := by decide +kernel
theorem dr_cX17_spill_171 : decode cX17_spill 171 = .ok (.istore 7, 2) := by decide +kernel
theorem dr_cX17_spill_173 : decode cX17_spill 173 = .ok (.iload 6, 2) := by decide +kernel
theorem dr_cX17_spill_175 : decode cX17_spill 175 = .ok (.ifCond .lt 61, 3) := by decide +kernel
theorem dr_cX17_spill_162 : decode cX17_spill 162 = .ok (.aload 5, 2) := by decide +kernel
theorem dr_cX17_spill_164 : decode cX17_spill 164 = .ok (.getfield 79, 3) := by decide +kernel
theorem dr_cX17_spill_167 : decode cX17_spill 167 = .ok (.goto 4, 3) := by decide +kernel
theorem dr_cX17_spill_143 : decode cX17_spill 143 = .ok (.aload 5, 2) := by decide +kernel
theorem dr_cX17_spill_145 : decode cX17_spill 145 = .ok (.getfield 73, 3) := by decide +kernel
theorem dr_cX17_spill_148 : decode cX17_spill 148 = .ok (.goto 4, 3) := by decide +kernel
theorem dr_cX17_spill_178 : decode cX17_spill 178 = .ok (.aload_n 0, 1) := by decide +kernel
theorem dr_cX17_spill_179 : decode cX17_spill 179 = .ok (.getfield 221, 3) := by decide +kernel
theorem dr_cX17_spill_182 : decode cX17_spill 182 = .ok (.iload 6, 2) := by decide +kernel
theorem dr_cX17_spill_184 : decode cX17_spill 184 = .ok (.iaload, 1) := by decide +kernel
theorem dr_cX17_spill_185 : decode cX17_spill 185 = .ok (.ifCond .lt 51, 3) := by decide +kernel
theorem dr_cX17_spill_188 : decode cX17_spill 188 = .ok (.aload_n 0, 1) := by decide +kernel
theorem dr_cX17_spill_189 : decode cX17_spill 189 = .ok (.aload_n 1, 1) := by decide +kernel
theorem dr_cX17_spill_190 : decode cX17_spill 190 = .ok (.aload_n 3, 1) := by decide +kernel
theorem dr_cX17_spill_191 : decode cX17_spill 191 = .ok (.iload 4, 2) := by decide +kernel
theorem dr_cX17_spill_193 : decode cX17_spill 193 = .ok (.aload_n 0, 1) := by decide +kernel
theorem dr_cX17_spill_194 : decode cX17_spill 194 = .ok (.getfield 221, 3) := by decide +kernel
theorem dr_cX17_spill_197 : decode cX17_spill 197 = .ok (.iload 6, 2) := by decide +kernel
theorem dr_cX17_spill_199 : decode cX17_spill 199 = .ok (.iaload, 1) := by decide +kernel
theorem dr_cX17_spill_200 : decode cX17_spill 200 = .ok (.invokevirtual 227, 3) := by decide +kernel
theorem dr_cX17_spill_203 : decode cX17_spill 203 = .ok (.istore 8, 2) := by decide +kernel
theorem dr_cX17_spill_205 : decode cX17_spill 205 = .ok (.iload 8, 2) := by decide +kernel
theorem dr_cX17_spill_207 : decode cX17_spill 207 = .ok (.ifCond .ge 5, 3) := by decide +kernel
theorem dr_cX17_spill_212 : decode cX17_spill 212 = .ok (.iinc 4 1, 3) := by decide +kernel
theorem dr_cX17_spill_215 : decode cX17_spill 215 = .ok (.aload 5, 2) := by decide +kernel
theorem dr_cX17_spill_217 : decode cX17_spill 217 = .ok (.iload 8, 2) := by decide +kernel
theorem dr_cX17_spill_219 : decode cX17_spill 219 = .ok (.putfield 73, 3) := by decide +kernel
theorem dr_cX17_spill_222 : decode cX17_spill 222 = .ok (.iload 7, 2) := by decide +kernel
theorem dr_cX17_spill_224 : decode cX17_spill 224 = .ok (.iload 6, 2) := by decide +kernel
theorem dr_cX17_spill_226 : decode cX17_spill 226 = .ok (.if_icmp .ne 10, 3) := by decide +kernel
theorem dr_cX17_spill_210 : decode cX17_spill 210 = .ok (.iconst 0, 1) := by decide +kernel
theorem dr_cX17_spill_211 : decode cX17_spill 211 = .ok (.ireturn, 1) := by decide +kernel
theorem dr_cX17_spill_229 : decode cX17_spill 229 = .ok (.aload 5, 2) := by decide +kernel
theorem dr_cX17_spill_231 : decode cX17_spill 231 = .ok (.iload 8, 2) := by decide +kernel
theorem dr_cX17_spill_233 : decode cX17_spill 233 = .ok (.putfield 79, 3) := by decide +kernel
theorem dr_cX17_spill_114 : decode cX17_spill 114 = .ok (.aload_n 3, 1) := by decide +kernel
theorem dr_cX17_spill_115 : decode cX17_spill 115 = .ok (.getfield 117, 3) := by decide +kernel
theorem dr_cX17_spill_118 : decode cX17_spill 118 = .ok (.iload 4, 2) := by decide +kernel
theorem dr_cX17_spill_120 : decode cX17_spill 120 = .ok (.invokevirtual 124, 3) := by decide +kernel
theorem dr_cX17_spill_123 : decode cX17_spill 123 = .ok (.checkcast 40, 3) := by decide +kernel
theorem dr_cX17_spill_126 : decode cX17_spill 126 = .ok (.goto 7, 3) := by decide +kernel
theorem dr_cX17_spill_9 : decode cX17_spill 9 = .ok (.aload_n 0, 1) := by decide +kernel
theorem dr_cX17_spill_10 : decode cX17_spill 10 = .ok (.getfield 221, 3) := by decide +kernel
theorem dr_cX17_spill_13 : decode cX17_spill 13 = .ok (.iload_n 2, 1) := by decide +kernel
theorem dr_cX17_spill_14 : decode cX17_spill 14 = .ok (.iconst (-1), 1) := by decide +kernel
theorem dr_cX17_spill_15 : decode cX17_spill 15 = .ok (.iastore, 1) := by decide +kernel
theorem dr_cX17_spill_16 : decode cX17_spill 16 = .ok (.aload_n 0, 1) := by decide +kernel
theorem dr_cX17_spill_17 : decode cX17_spill 17 = .ok (.getfield 131, 3) := by decide +kernel
theorem dr_cX17_spill_20 : decode cX17_spill 20 = .ok (.iload_n 2, 1) := by decide +kernel
theorem dr_cX17_spill_21 : decode cX17_spill 21 = .ok (.baload, 1) := by decide +kernel
theorem dr_cX17_spill_22 : decode cX17_spill 22 = .ok (.ifCond .eq 43, 3) := by decide +kernel
theorem dr_cX17_spill_65 : decode cX17_spill 65 = .ok (.iinc 2 1, 3) := by decide +kernel
theorem dr_cX17_spill_68 : decode cX17_spill 68 = .ok (.goto (-66), 3) := by decide +kernel
theorem dr_cX17_spill_25 : decode cX17_spill 25 = .ok (.aload_n 0, 1) := by decide +kernel
theorem dr_cX17_spill_26 : decode cX17_spill 26 = .ok (.getfield 212, 3) := by decide +kernel
theorem dr_cX17_spill_29 : decode cX17_spill 29 = .ok (.iload_n 2, 1) := by decide +kernel
theorem dr_cX17_spill_30 : decode cX17_spill 30 = .ok (.iaload, 1) := by decide +kernel
theorem dr_cX17_spill_31 : decode cX17_spill 31 = .ok (.ifCond .lt 6, 3) := by decide +kernel
theorem dr_cX17_spill_37 : decode cX17_spill 37 = .ok (.iload_n 2, 1) := by decide +kernel
theorem dr_cX17_spill_38 : decode cX17_spill 38 = .ok (.bipush 100, 2) := by decide +kernel
theorem dr_cX17_spill_40 : decode cX17_spill 40 = .ok (.if_icmp .lt 5, 3) := by decide +kernel
theorem dr_cX17_spill_45 : decode cX17_spill 45 = .ok (.aload_n 0, 1) := by decide +kernel
theorem dr_cX17_spill_46 : decode cX17_spill 46 = .ok (.getfield 221, 3) := by decide +kernel
theorem dr_cX17_spill_49 : decode cX17_spill 49 = .ok (.iload_n 2, 1) := by decide +kernel
theorem dr_cX17_spill_50 : decode cX17_spill 50 = .ok (.aload_n 0, 1) := by decide +kernel
theorem dr_cX17_spill_51 : decode cX17_spill 51 = .ok (.getfield 224, 3) := by decide +kernel
theorem dr_cX17_spill_54 : decode cX17_spill 54 = .ok (.iastore, 1) := by decide +kernel
theorem dr_cX17_spill_55 : decode cX17_spill 55 = .ok (.aload_n 0, 1) := by decide +kernel
theorem dr_cX17_spill_56 : decode cX17_spill 56 = .ok (.dup, 1) := by decide +kernel
theorem dr_cX17_spill_57 : decode cX17_spill 57 = .ok (.getfield 224, 3) := by decide +kernel
theorem dr_cX17_spill_60 : decode cX17_spill 60 = .ok (.iconst 1, 1) := by decide +kernel
theorem dr_cX17_spill_61 : decode cX17_spill 61 = .ok (.iadd, 1) := by decide +kernel
theorem dr_cX17_spill_62 : decode cX17_spill 62 = .ok (.putfield 224, 3) := by decide +kernel
theorem dr_cX17_spill_43 : decode cX17_spill 43 = .ok (.iconst 0, 1) := by decide +kernel
theorem dr_cX17_spill_44 : decode cX17_spill 44 = .ok (.ireturn, 1) := by decide +kernel
theorem dr_cX17_spill_34 : decode cX17_spill 34 = .ok (.goto 31, 3) := by decide +kernel
abbrev ky_587508_SpillForgeModel_spill : gKey := (cX17_spill, 10, "SpillForgeModel", (some FieldType.boolean), [], "spill", fun _ _ => True)
def pg_587508_SpillForgeModel_spill (D : va_G) (I : FieldType → ClassId) (γ0 el0 : Nat → Nat → Nat) (f : Nat) (B : Nat) (P587498 : List Nat) (F587499 : Nat → va_E) (q587500 : Nat) (q587501 : Nat) : Option Value → va_W → Nat → Nat → Prop := fun r w dc ds => ∃ (P629330 : List Nat) (F629331 : Nat → va_E) (γ el : Nat → Nat → Nat) (o629329 : Int32), r = some (.int o629329) ∧ w = va_pl P629330 F629331 ∧ rSk f [101] ([1, 3, 5, 6, 8, 9, 101] ++ npk) D I P587498 F587499 γ0 el0 P629330 F629331 γ el ∧ (18 * dc + rPh γ0 el0 f ≤ rPh γ el f ∧ ds + rPh γ0 el0 f ≤ rPh γ el f) ∧ rBd γ el f B ∧ gB o629329 0 1 ∧ γ 6 f = γ0 6 f ∧ (o629329.toInt = 0 ∨ (γ 6 f = γ0 6 f ∧ γ 18 f = γ0 18 f ∧ ((γ 7 f : Nat) : Int) = (fI (F629331 q587500) 11).toInt ∧ ((γ 16 f : Nat) : Int) + 2001 ≤ (B : Int) + (fI (F629331 q587500) 14).toInt ∧ 100 ≤ (fI (F629331 q587500) 14).toInt ∧ rNI γ el F629331 q587501 (γ 6 f) (fI (F629331 q587500) 11).toInt)) ∧ (F629331 (γ0 9 3) = F587499 (γ0 9 3)) ∧ mKp (F587499 q587500) (F629331 q587500)
set_option maxRecDepth 100000 in
set_option maxHeartbeats 20000000 in
theorem cg_587508_SpillForgeModel_spill (l : Launch) (hl0 : l.stackTraces = false) (D : va_G) (I : FieldType → ClassId) (γ0 el0 : Nat → Nat → Nat) (f : Nat) (B : Nat) (P587498 : List Nat) (F587499 : Nat → va_E) (q587500 : Nat) (q587501 : Nat) (hT0 : RS D I P587498 F587499 γ0 el0) (hzq587500 : rKd γ0 q587500 10) (hzq587501 : rKd γ0 q587501 9) (hf0 : γ0 1 q587501 = f) (hB0 : rBd γ0 el0 f B) (hBk : B ≤ 100000) (x587502 : 0 < γ0 6 f) (x587503 : ((γ0 7 f : Nat) : Int) = (fI (F587499 q587500) 11).toInt) (x587504 : ((γ0 16 f : Nat) : Int) + 2001 ≤ (B : Int) + (fI (F587499 q587500) 14).toInt) (x587505 : (fI (F587499 q587500) 11).toInt + (rcn (cB (F587499 (γ0 9 3))) 100 : Nat) ≤ 100) (x587506 : rPl γ0 el0 F587499 q587501 (γ0 6 f) (fun _ _ => rNx (rSd (cB (F587499 (γ0 9 3)))))) (x587507 : 100 ≤ (fI (F587499 q587500) 14).toInt) : CtA (gV D I) l yX17_spill cX17_spill 10 (some FieldType.boolean) 9 195 (((387 * B + 6000) - rPh γ0 el0 f) / 18) ((387 * B + 6000) - rPh γ0 el0 f) [.ref q587500, .ref q587501] (va_pl P587498 F587499) (pg_587508_SpillForgeModel_spill D I γ0 el0 f B P587498 F587499 q587500 q587501) gNA := by
  refine CtA_of hl0 (by decide) (Nat.le_of_ble_eq_true rfl) ?_
  obtain ⟨γ, hγ0⟩ : ∃ z, z = γ0 := ⟨_, rfl⟩
  obtain ⟨el, hel0⟩ : ∃ z, z = el0 := ⟨_, rfl⟩
  have hT : RS D I P587498 F587499 γ el := by rw [hγ0, hel0]; exact hT0
  have hst : rSk f [101] ([1, 3, 5, 6, 8, 9, 101] ++ npk) D I P587498 F587499 γ0 el0 P587498 F587499 γ el := by rw [hγ0, hel0]; exact rSk_rf hT0
  have hph : rPh γ0 el0 f ≤ rPh γ el f := by rw [hγ0, hel0]; exact Nat.le_refl _
  have hB : rBd γ el f B := by rw [hγ0, hel0]; exact hB0
  have htq587500 : rKd γ q587500 10 := by rw [hγ0]; exact hzq587500
  have htq587501 : rKd γ q587501 9 := by rw [hγ0]; exact hzq587501
  have hf1 : γ 1 q587501 = f := by rw [hγ0]; exact hf0
  have x587502n : 0 < γ 6 f := by rw [hγ0]; exact x587502
  have x587503n : ((γ 7 f : Nat) : Int) = (fI (F587499 q587500) 11).toInt := by rw [hγ0]; exact x587503
  have x587504n : ((γ 16 f : Nat) : Int) + 2001 ≤ (B : Int) + (fI (F587499 q587500) 14).toInt := by rw [hγ0]; exact x587504
  have x587505n : (fI (F587499 q587500) 11).toInt + (rcn (cB (F587499 (γ 9 3))) 100 : Nat) ≤ 100 := by rw [hγ0]; exact x587505
  have x587506n : rPl γ el F587499 q587501 (γ 6 f) (fun _ _ => rNx (rSd (cB (F587499 (γ 9 3))))) := by rw [hγ0, hel0]; exact x587506
  have pk587509 : rPh γ el f ≤ 387 * B + 6000 := rm_pk (rM_ge hT htq587501 hf1).1 (rM_bd hB)
  refine G_widen (cs' := ((rPh γ el f - rPh γ0 el0 f) / 18)) (sl' := (rPh γ el f - rPh γ0 el0 f)) (Nat.zero_le _) (Nat.zero_le _) ?_
  have lz0 : Int32.toInt 0 = 0 := by decide
  have r587510 : γ 6 f = γ0 6 f := by rw [hγ0]
  have r587511 : γ 7 f = γ0 7 f := by rw [hγ0]
  have r587512 : γ 16 f = γ0 16 f := by rw [hγ0]
  have r587513 : γ 18 f = γ0 18 f := by rw [hγ0]
  have r587514 : γ 19 f = γ0 19 f := by rw [hγ0]
  have hm587515 : q587500 ∈ P587498 := RS_m hT htq587500 (by decide)
  refine rk10_e (show rk_10 γ (F587499 q587500) from RS_o hT htq587500) (fun q587517 q587518 p587519 p587520 p587521 p587522 p587523 p587524 p587525 p587526 p587527 p587528 p587529 p587530 p587531 p587532 p587533 he587516 hB587560 ht587534 ht587535 ht587536 ht587537 ht587538 ht587539 ht587540 ht587541 ht587542 ht587543 ht587544 ht587545 ht587546 ht587547 ht587548 ht587549 ht587550 ht587551 ht587552 ht587553 ht587554 ht587555 ht587556 ht587557 hB587561 => ?_)
  have ac0_11 : (fI (F587499 q587500) 11).toInt = p587521.toInt := by rw [he587516]; rfl
  have ac0_14 : (fI (F587499 q587500) 14).toInt = p587524.toInt := by rw [he587516]; rfl
  have bp587521 : gB p587521 0 100 := (hB587560.2.2.1)
  have bp587524 : gB p587524 0 2000 := (hB587560.2.2.2.1)
  have k0_3 : rKd γ0 (γ0 9 3) 14 := by rw [← hγ0]; exact ht587539
  have k0_17 : rKd γ0 (γ0 9 17) 20 := by rw [← hγ0]; exact ht587547
  have k0_19 : rKd γ0 (γ0 9 19) 21 := by rw [← hγ0]; exact ht587549
  refine G_iconst 0 dr_cX17_spill_0 (by decide +kernel) ?_
  refine G_istore_n (L' := [(2, .int 0), (0, .ref q587500), (1, .ref q587501)]) dr_cX17_spill_1 (Nat.le_of_ble_eq_true rfl) rfl ?_
  have hlp2_622577 : ∀ (n2_622577 : Nat) (P622563 : List Nat) (F622564 : Nat → va_E) (γ el : Nat → Nat → Nat) (g622562 : Int32), gB g622562 0 2000 → RS D I P622563 F622564 γ el → rSk f [101] ([1, 3, 5, 6, 8, 9, 101] ++ npk) D I P587498 F587499 γ0 el0 P622563 F622564 γ el → rPh γ0 el0 f ≤ rPh γ el f → rBd γ el f B → γ 6 f = γ0 6 f → γ 7 f = γ0 7 f → γ 16 f = γ0 16 f → γ 18 f = γ0 18 f → (fI (F622564 q587500) 14).toInt = (fI (F587499 q587500) 14).toInt → spI (cB (F587499 (γ0 9 3))) (cB (F622564 (γ0 9 19))) (g622562.toInt : Int).toNat (fI (F587499 q587500) 11).toInt (fI (F622564 q587500) 11).toInt → rPl γ el F622564 q587501 (γ 6 f) (fun _ _ => rNx (rSd (cB (F587499 (γ0 9 3))))) → (F622564 (γ0 9 3) = F587499 (γ0 9 3)) → mKp (F587499 q587500) (F622564 q587500) → ((2001 : Int) - g622562.toInt).toNat < n2_622577 → G (gV D I) l (gRm 9 195 (((387 * B + 6000) - rPh γ0 el0 f) / 18) ((387 * B + 6000) - rPh γ0 el0 f)) (gMA (gV D I) (pg_587508_SpillForgeModel_spill D I γ0 el0 f B P587498 F587499 q587500 q587501) gNA (((387 * B + 6000) - rPh γ0 el0 f) / 18) ((387 * B + 6000) - rPh γ0 el0 f)) ky_587508_SpillForgeModel_spill 2 [(2, .int g622562), (0, .ref q587500), (1, .ref q587501)] [] (va_pl P622563 F622564) ((rPh γ el f - rPh γ0 el0 f) / 18) (rPh γ el f - rPh γ0 el0 f) := by
    intro n2_622577
    induction n2_622577 with
    | zero => intro P622563 F622564 γ el g622562 bg622562 hT622565 hs622566 hph622567 hB622568 x622569 x622570 x622571 x622572 x622573 x622574 x622575 x622576 x622577 hm2_622577; exact absurd hm2_622577 (Nat.not_lt_zero _)
    | succ n2_622577 ih2_622577 =>
      intro P622563 F622564 γ el g622562 bg622562 hT622565 hs622566 hph622567 hB622568 x622569 x622570 x622571 x622572 x622573 x622574 x622575 x622576 x622577 hm2_622577
      clear r587510 r587511 r587512 r587513 r587514
      have ht622579 : rKd γ q587500 10 := rSk_k hs622566 hzq587500 (by decide) (by decide)
      have ht622580 : rKd γ q587501 9 := rSk_k hs622566 hzq587501 (by decide) (by decide)
      have hf622581 : γ 1 q587501 = f := rSk_1 hs622566 hzq587501 (by decide) hf0
      have pk622582 : rPh γ el f ≤ 387 * B + 6000 := rm_pk (rM_ge hT622565 ht622580 hf622581).1 (rM_bd hB622568)
      have hm622583 : q587500 ∈ P622563 := RS_m hT622565 ht622579 (by decide)
      refine rk10_e (show rk_10 γ (F622564 q587500) from RS_o hT622565 ht622579) (fun q622585 q622586 p622587 p622588 p622589 p622590 p622591 p622592 p622593 p622594 p622595 p622596 p622597 p622598 p622599 p622600 p622601 he622584 hB622628 ht622602 ht622603 ht622604 ht622605 ht622606 ht622607 ht622608 ht622609 ht622610 ht622611 ht622612 ht622613 ht622614 ht622615 ht622616 ht622617 ht622618 ht622619 ht622620 ht622621 ht622622 ht622623 ht622624 ht622625 hB622629 => ?_)
      have ac622630 : (fI (F622564 q587500) 11).toInt = p622589.toInt := by rw [he622584]; rfl
      have bp622589 : gB p622589 0 100 := (hB622628.2.2.1)
      have ac622631 : (fI (F622564 q587500) 14).toInt = p622592.toInt := by rw [he622584]; rfl
      have bp622592 : gB p622592 0 2000 := (hB622628.2.2.2.1)
      have r622632 : 0 < γ 6 (γ 1 q587501) := by rw [hf622581]; omega
      have hm622633 : (γ 9 3) ∈ P622563 := RS_m hT622565 ht622607 (by decide)
      obtain ⟨f622635, he622634, bf622635⟩ := show rk_14 I (F622564 (γ 9 3)) from RS_o hT622565 ht622607
      have c9_622636 : cB (F587499 (γ0 9 3)) = f622635 := by rw [← x622576, ← congrFun (rSk_9 hs622566) 3]; exact cB_of he622634
      have hm622637 : (γ 9 19) ∈ P622563 := RS_m hT622565 ht622617 (by decide)
      obtain ⟨f622639, he622638, bf622639⟩ := show rk_21 I (F622564 (γ 9 19)) from RS_o hT622565 ht622617
      have c9_622640 : cB (F622564 (γ0 9 19)) = f622639 := by rw [← congrFun (rSk_9 hs622566) 19]; exact cB_of he622638
      have hm622641 : (γ 9 17) ∈ P622563 := RS_m hT622565 ht622615 (by decide)
      obtain ⟨f622643, he622642, bf622643⟩ := show rk_20 I (F622564 (γ 9 17)) from RS_o hT622565 ht622615
      have cq622644 := x622574
      rw [c9_622636, c9_622640, ac622630] at cq622644
      refine G_iload_n 0 dr_cX17_spill_2 rfl ?_
      refine G_sipush 2000 dr_cX17_spill_3 (by decide +kernel) ?_
      refine G_icmp_ge 71 dr_cX17_spill_6 (by decide +kernel) (fun hc622645 => ?_) (fun hc622645 => ?_)
      · have r622646 : 2000 ≤ g622562.toInt := gj_leL hc622645 (show Int32.toInt 2000 = 2000 by decide)
        have bg622562' : gB g622562 2000 2000 := ⟨by omega, by omega⟩
        have ac622647 : (fI (F622564 q587500) 11).toInt = p622589.toInt := by rw [he622584]; rfl
        have ac622648 : (fI (F622564 q587500) 14).toInt = p622592.toInt := by rw [he622584]; rfl
        have spi622649 := x622574
        rw [show (g622562.toInt : Int).toNat = 2000 by omega] at spi622649
        have r622650 := cq622644.1
        have hv622651 := St_slots (f := f) (n := p622589.toInt.toNat) hT622565 ht622580 hf622581 (by omega)
        obtain ⟨γ, hg622652⟩ : ∃ z, z = gVal γ 7 f p622589.toInt.toNat := ⟨_, rfl⟩
        rw [← hg622652] at hv622651
        have hk622653 := rSk_of hv622651.1
        have r622654 := hv622651.2.1
        have hT622655 := hk622653.1
        have hs622656 := rSk_tr hs622566 hk622653 (by decide) (by decide) (by decide)
        have kp622657 : F622564 (γ0 9 3) = F587499 (γ0 9 3) := (rSk_F hk622653 (rSk_k hs622566 k0_3 (by decide) (by decide)) (by decide) (by decide)).trans x622576
        have kp622658 : F622564 (γ0 9 19) = F622564 (γ0 9 19) := rSk_F hk622653 (rSk_k hs622566 k0_19 (by decide) (by decide)) (by decide) (by decide)
        have r622659 := rSk_F hk622653 ht622579 (by decide) (by decide)
        have ht622660 : rKd γ q587500 10 := rSk_k hk622653 ht622579 (by decide) (by decide)
        have ht622661 : rKd γ q587501 9 := rSk_k hk622653 ht622580 (by decide) (by decide)
        have hf622662 : γ 1 q587501 = f := rSk_1 hk622653 ht622580 (by decide) hf622581
        have mk622663 : mKp (F587499 q587500) (F622564 q587500) := mKp_tr x622577 (mKp_eq (rSk_F hk622653 ht622579 (by decide) (by decide)))
        have hm622664 : q587500 ∈ P622563 := RS_m hT622655 ht622660 (by decide)
        refine rk10_e (show rk_10 γ (F622564 q587500) from RS_o hT622655 ht622660) (fun q622666 q622667 p622668 p622669 p622670 p622671 p622672 p622673 p622674 p622675 p622676 p622677 p622678 p622679 p622680 p622681 p622682 he622665 hB622709 ht622683 ht622684 ht622685 ht622686 ht622687 ht622688 ht622689 ht622690 ht622691 ht622692 ht622693 ht622694 ht622695 ht622696 ht622697 ht622698 ht622699 ht622700 ht622701 ht622702 ht622703 ht622704 ht622705 ht622706 hB622710 => ?_)
        have r622711 : p622670.toInt = p622589.toInt := by have z : p622670 = p622589 := congrArg (fun e => fI e 11) (he622665.symm.trans (r622659.trans he622584)); rw [z]
        have bp622670 : gB p622670 0 100 := (hB622709.2.2.1)
        have r622712 : p622673.toInt = p622592.toInt := by have z : p622673 = p622592 := congrArg (fun e => fI e 14) (he622665.symm.trans (r622659.trans he622584)); rw [z]
        have bp622673 : gB p622673 0 2000 := (hB622709.2.2.2.1)
        have hB622713 : rBd γ el f B := hv622651.2.2.2 B hB622568
        have hph622714 : rPh γ0 el0 f ≤ rPh γ el f := by rw [r622654]; exact hph622567
        have pk622715 : rPh γ el f ≤ 387 * B + 6000 := rm_pk (rM_ge hT622655 ht622661 hf622662).1 (rM_bd hB622713)
        refine G_widen (cs' := ((rPh γ el f - rPh γ0 el0 f) / 18)) (sl' := (rPh γ el f - rPh γ0 el0 f)) (rm_ec r622654) (rm_es r622654) ?_
        have r622716 := gVal_7 hg622652
        have pl622717 := sp_0 (h := cB (F622564 (γ0 9 19))) (rPl_val hT622565 ht622580 hf622581 hk622653 hg622652 x622575)
        have r622718 : 0 < γ 6 (γ 1 q587501) := by rw [hf622662]; omega
        have ac622719 : (fI (F622564 q587500) 11).toInt = p622670.toInt := by rw [he622665]; rfl
        have ac622720 : (fI (F622564 q587500) 14).toInt = p622673.toInt := by rw [he622665]; rfl
        refine G_iconst 0 dr_cX17_spill_71 (by decide +kernel) ?_
        refine G_istore_n (L' := [(2, .int 0), (0, .ref q587500), (1, .ref q587501)]) dr_cX17_spill_72 (Nat.le_of_ble_eq_true rfl) rfl ?_
        have hlp73_625849 : ∀ (n73_625849 : Nat) (P625834 : List Nat) (F625835 : Nat → va_E) (γ el : Nat → Nat → Nat) (g625833 : Int32), gB g625833 0 1000000 → RS D I P625834 F625835 γ el → rSk f [101] ([1, 3, 5, 6, 8, 9, 101] ++ npk) D I P587498 F587499 γ0 el0 P625834 F625835 γ el → rPh γ0 el0 f ≤ rPh γ el f → rBd γ el f B → γ 6 f = γ0 6 f → γ 18 f = γ0 18 f → ((γ 7 f : Nat) : Int) = (fI (F625835 q587500) 11).toInt → (fI (F625835 q587500) 11).toInt = (fI (F622564 q587500) 11).toInt → ((γ 16 f : Nat) : Int) + 2001 ≤ (B : Int) + (fI (F625835 q587500) 14).toInt → 100 ≤ (fI (F625835 q587500) 14).toInt → (F625835 (γ0 9 19) = F622564 (γ0 9 19)) → rPl γ el F625835 q587501 (γ 6 f) (spQ (cB (F587499 (γ0 9 3))) (cB (F622564 (γ0 9 19))) (g625833.toInt : Int).toNat 0) → (F625835 (γ0 9 3) = F587499 (γ0 9 3)) → mKp (F587499 q587500) (F625835 q587500) → ((1000001 : Int) - g625833.toInt).toNat < n73_625849 → G (gV D I) l (gRm 9 195 (((387 * B + 6000) - rPh γ0 el0 f) / 18) ((387 * B + 6000) - rPh γ0 el0 f)) (gMA (gV D I) (pg_587508_SpillForgeModel_spill D I γ0 el0 f B P587498 F587499 q587500 q587501) gNA (((387 * B + 6000) - rPh γ0 el0 f) / 18) ((387 * B + 6000) - rPh γ0 el0 f)) ky_587508_SpillForgeModel_spill 73 [(2, .int g625833), (0, .ref q587500), (1, .ref q587501)] [] (va_pl P625834 F625835) ((rPh γ el f - rPh γ0 el0 f) / 18) (rPh γ el f - rPh γ0 el0 f) := by
          intro n73_625849
          induction n73_625849 with
          | zero => intro P625834 F625835 γ el g625833 bg625833 hT625836 hs625837 hph625838 hB625839 x625840 x625841 x625842 x625843 x625844 x625845 x625846 x625847 x625848 x625849 hm73_625849; exact absurd hm73_625849 (Nat.not_lt_zero _)
          | succ n73_625849 ih73_625849 =>
            intro P625834 F625835 γ el g625833 bg625833 hT625836 hs625837 hph625838 hB625839 x625840 x625841 x625842 x625843 x625844 x625845 x625846 x625847 x625848 x625849 hm73_625849
            clear r622650 r622654 r622659 r622711 r622712 hph622714 pk622715 r622716 r622718
            have ht625851 : rKd γ q587500 10 := rSk_k hs625837 hzq587500 (by decide) (by decide)
            have ht625852 : rKd γ q587501 9 := rSk_k hs625837 hzq587501 (by decide) (by decide)
            have hf625853 : γ 1 q587501 = f := rSk_1 hs625837 hzq587501 (by decide) hf0
            have pk625854 : rPh γ el f ≤ 387 * B + 6000 := rm_pk (rM_ge hT625836 ht625852 hf625853).1 (rM_bd hB625839)
            have r625855 : 0 < γ 6 (γ 1 q587501) := by rw [hf625853]; omega
            have hm625856 : q587500 ∈ P625834 := RS_m hT625836 ht625851 (by decide)
            refine rk10_e (show rk_10 γ (F625835 q587500) from RS_o hT625836 ht625851) (fun q625858 q625859 p625860 p625861 p625862 p625863 p625864 p625865 p625866 p625867 p625868 p625869 p625870 p625871 p625872 p625873 p625874 he625857 hB625901 ht625875 ht625876 ht625877 ht625878 ht625879 ht625880 ht625881 ht625882 ht625883 ht625884 ht625885 ht625886 ht625887 ht625888 ht625889 ht625890 ht625891 ht625892 ht625893 ht625894 ht625895 ht625896 ht625897 ht625898 hB625902 => ?_)
            have ac625903 : (fI (F625835 q587500) 11).toInt = p625862.toInt := by rw [he625857]; rfl
            have bp625862 : gB p625862 0 100 := (hB625901.2.2.1)
            have ac625904 : (fI (F625835 q587500) 14).toInt = p625865.toInt := by rw [he625857]; rfl
            have bp625865 : gB p625865 0 2000 := (hB625901.2.2.2.1)
            refine G_iload_n 0 dr_cX17_spill_73 rfl ?_
            refine G_aload_n 2 dr_cX17_spill_74 rfl ?_
            have hm625905 : q587501 ∈ P625834 := RS_m hT625836 ht625852 (by decide)
            obtain ⟨q625907, q625908, p625909, p625910, he625906, ht625926, ht625911, ht625912, ht625913, ht625914, r625915, r625916, r625917, r625918, r625919, r625920, r625921, r625922, r625923, r625924, r625925⟩ := show rk_9 γ el q587501 (F625835 q587501) from RS_o hT625836 ht625852
            have bp625909 : gB p625909 0 1000000 := ⟨by omega, by omega⟩
            have bp625910 : gB p625910 0 1000000 := ⟨by omega, by omega⟩
            have hf625927 : γ 1 q625907 = f := (show γ 1 q625907 = γ 1 q587501 from ht625912).trans hf625853
            have hf625928 : γ 1 q625908 = f := (show γ 1 q625908 = γ 1 q587501 from ht625914).trans hf625853
            have r625929 : γ 6 (γ 1 q587501) = γ 6 f := by rw [hf625853]
            have r625930 : γ 16 (γ 1 q587501) = γ 16 f := by rw [hf625853]
            have r625931 : p625910.toInt = γ 6 f ∧ p625910.toInt ≤ 40 := by omega
            clear r625921
            refine Gw_callV (As := []) (gV_ok D I) (cp_12780_Code_size l hl0 D I P625834 F625835 q587501 q625907 q625908 p625909 p625910 hm625905 he625906) dr_cX17_spill_75 ⟨wr_10_160, wr_1_15, wr_9_131, by decide, rfl, (Nat.le_of_ble_eq_true rfl), (Nat.le_of_ble_eq_true rfl)⟩ wr_9_129 wr_9_130 hm625905 he625906 rfl (rm_zc pk625854) (rm_zs pk625854) (Nat.le_of_ble_eq_true rfl) (fun r625935 w625936 dc625932 ds625933 hp625934 => ?_) (fun _ _ _ _ _ z => z.elim)
            obtain ⟨rfl, rfl, hdc, hds⟩ := hp625934
            change G _ _ _ _ _ _ _ (.int p625910 :: _) _ _ _
            refine G_widen (cs' := ((rPh γ el f - rPh γ0 el0 f) / 18)) (sl' := (rPh γ el f - rPh γ0 el0 f)) (rm_d0 hdc) (rm_d0 hds) ?_
            refine G_icmp_ge 431 dr_cX17_spill_78 (by decide +kernel) (fun hc625937 => ?_) (fun hc625937 => ?_)
            · have r625938 : p625910.toInt ≤ g625833.toInt := gC_le hc625937
              have ac625939 : (fI (F625835 q587500) 11).toInt = p625862.toInt := by rw [he625857]; rfl
              have ac625940 : (fI (F625835 q587500) 14).toInt = p625865.toInt := by rw [he625857]; rfl
              have ni625941 : rNI γ el F625835 q587501 (γ 6 f) (fI (F625835 q587500) 11).toInt := by rw [show (fI (F625835 q587500) 11).toInt = (fI (F622564 q587500) 11).toInt by omega]; exact spI_e rfl spi622649 x587505 (sp_end x625847 (by omega))
              refine G_aload_n 2 dr_cX17_spill_431 rfl ?_
              refine Gw_callV (As := []) (gV_ok D I) (ct_7810_Code_countRows l hl0 D I γ el P625834 F625835 q587501 hT625836 ht625852 (by omega)) dr_cX17_spill_432 ⟨wr_10_229, wr_1_15, wr_10_232, by decide, rfl, (Nat.le_of_ble_eq_true rfl), (Nat.le_of_ble_eq_true rfl)⟩ wr_10_230 wr_10_231 hm625905 he625906 rfl (rm_zc pk625854) (rm_zs pk625854) (Nat.le_of_ble_eq_true rfl) (fun r625945 w625946 dc625942 ds625943 hp625944 => ?_) (fun _ _ _ _ _ z => z.elim)
              obtain ⟨o625947, rfl, rfl, hdc, hds, ht625948⟩ := hp625944
              have bo625947 := gB_any o625947
              change G _ _ _ _ _ _ _ (.int o625947 :: _) _ _ _
              refine G_widen (cs' := ((rPh γ el f - rPh γ0 el0 f) / 18)) (sl' := (rPh γ el f - rPh γ0 el0 f)) (rm_d0 hdc) (rm_d0 hds) ?_
              refine G_sipush 4000 dr_cX17_spill_435 (by decide +kernel) ?_
              refine G_icmp_gt 445 dr_cX17_spill_438 (by decide +kernel) (fun hc625949 => ?_) (fun hc625949 => ?_)
              · have r625950 : 4000 < o625947.toInt := gj_ltL hc625949 (show Int32.toInt 4000 = 4000 by decide)
                have bo625947' : gB o625947 4001 2147483647 := ⟨by omega, by omega⟩
                refine G_iconst 0 dr_cX17_spill_445 (by decide +kernel) ?_
                exact G_zretA FieldType.boolean dr_cX17_spill_446 rfl rfl (rm_zc pk625854) (rm_zs pk625854) ⟨P625834, F625835, γ, el, 0, rfl, rfl, hs625837, (rm_pp hph625838), hB625839, (gB_w (gBl (show Int32.toInt 0 = 0 by decide)) (by decide) (by decide)), (by have qa0 : Int32.toInt 0 = 0 := (by decide); omega), (Or.inl (by decide)), x625848, x625849⟩
              · have r625951 : o625947.toInt ≤ 4000 := gj_nltL hc625949 (show Int32.toInt 4000 = 4000 by decide)
                have bo625947' : gB o625947 (-2147483648) 4000 := ⟨by omega, by omega⟩
                refine G_iconst 1 dr_cX17_spill_441 (by decide +kernel) ?_
                refine G_goto 446 dr_cX17_spill_442 (by decide +kernel) ?_
                exact G_zretA FieldType.boolean dr_cX17_spill_446 rfl rfl (rm_zc pk625854) (rm_zs pk625854) ⟨P625834, F625835, γ, el, 1, rfl, rfl, hs625837, (rm_pp hph625838), hB625839, (gB_w (gBl (show Int32.toInt 1 = 1 by decide)) (by decide) (by decide)), (by have qa0 : Int32.toInt 1 = 1 := (by decide); omega), (Or.inr ⟨by omega, by omega, by omega, by omega, by omega, ni625941⟩), x625848, x625849⟩
            · have r625952 : g625833.toInt < p625910.toInt := gC_nle hc625937
              have bg625833' : gB g625833 0 999999 := ⟨by omega, by omega⟩
              have bp625910' : gB p625910 1 1000000 := ⟨by omega, by omega⟩
              refine G_aload_n 2 dr_cX17_spill_81 rfl ?_
              refine G_iload_n 0 dr_cX17_spill_82 rfl ?_
              have hm625953 : q625907 ∈ P625834 := RS_m hT625836 ht625911 (by decide)
              obtain ⟨⟨p625955, p625956, q625957, he625954, r625958, r625959, r625960, r625962⟩, r625961⟩ := show rk_4 D I γ el F625835 q625907 from RS_o hT625836 ht625911
              have bp625955 := gB_any p625955
              have bp625956 : gB p625956 0 1000000 := ⟨by omega, by omega⟩
              obtain ⟨r625963, r625964, n625971, f625972, r625965, r625966, r625967, r625968, r625969, r625970⟩ := rLC_n r625960 (by omega)
              have hm625973 : q625957 ∈ P625834 := RS_m hT625836 r625963 (by decide)
              obtain ⟨q625974, hx625975⟩ : ∃ x, x = el q625907 g625833.toInt.toNat := ⟨_, rfl⟩
              have hx625976 : f625972 g625833.toNatClampNeg = some q625974 := (r625969 _ (show g625833.toInt.toNat < γ 2 q625907 by first | assumption | omega)).trans (by rw [hx625975])
              have ht625979 : rKd γ q625974 2 := by rw [hx625975]; exact (r625922 _ (by omega)).resolve_right (fun z => absurd z.1 (by omega))
              have ht625980 : rFm γ q625974 q625907 := by rw [hx625975]; exact (r625961 _ (show g625833.toInt.toNat < γ 2 q625907 by omega)).2.1
              have hm625981 : q625974 ∈ P625834 := RS_m hT625836 ht625979 (by decide)
              obtain ⟨q625983, q625984, p625985, p625986, he625982, ht625993, ht625987, ht625988, ht625989, ht625990, ht625991, bp625985, bp625986, r625992, r625994, r625995⟩ := show rk_2 γ q625974 (F625835 q625974) from RS_o hT625836 ht625979
              refine Gw_callV (As := [.int g625833]) (gV_ok D I) (cp_7901_Code_get l hl0 D I P625834 F625835 q587501 q625907 q625957 g625833 q625908 p625909 p625910 p625955 p625956 f625972 n625971 q625974 q625983 q625984 p625985 p625986 hm625905 hm625953 hm625973 hm625981 he625906 he625954 r625965 he625982 (gB_w bg625833' (by decide) (by decide)) (gB_w bp625956 (by decide) (by decide)) (by omega) (by omega) (by assumption) (by omega)) dr_cX17_spill_83 ⟨wr_10_161, wr_1_15, wr_10_141, by decide, rfl, (Nat.le_of_ble_eq_true rfl), (Nat.le_of_ble_eq_true rfl)⟩ wr_10_139 wr_10_140 hm625905 he625906 rfl (rm_zc pk625854) (rm_zs pk625854) (Nat.le_of_ble_eq_true rfl) (fun r625999 w626000 dc625996 ds625997 hp625998 => ?_) (fun _ _ _ _ _ z => z.elim)
              obtain ⟨rfl, rfl, hdc, hds, ht626001⟩ := hp625998
              change G _ _ _ _ _ _ _ (.ref q625974 :: _) _ _ _
              refine G_widen (cs' := ((rPh γ el f - rPh γ0 el0 f) / 18)) (sl' := (rPh γ el f - rPh γ0 el0 f)) (rm_d0 hdc) (rm_d0 hds) ?_
              have hf626002 : γ 1 q625974 = f := (show γ 1 q625974 = γ 1 q625907 from ht625980).trans ((show γ 1 q625907 = γ 1 q587501 from ht625912).trans hf625853)
              have hf626003 : γ 1 q625983 = f := (show γ 1 q625983 = γ 1 q625974 from ht625988).trans hf626002
              have hf626004 : γ 1 q625984 = f := (show γ 1 q625984 = γ 1 q625974 from ht625990).trans hf626002
              have r626005 : γ 6 (γ 1 q625974) = γ 6 f := by rw [hf626002]
              have r626006 : γ 7 (γ 1 q625974) = γ 7 f := by rw [hf626002]
              have r626007 : γ 19 (γ 1 q625974) = γ 19 f := by rw [hf626002]
              have r626008 := r625992.resolve_left (by omega)
              clear r625992
              have r626009 : γ 2 (γ 14 q625974) = γ 2 q625983 := by rw [ht625993.1]
              have r626010 : g625833.toInt.toNat < γ 2 (γ 14 q587501) := by rw [ht625926.1]; omega
              have r626011 : el (γ 14 q587501) g625833.toInt.toNat = q625974 := by rw [ht625926.1, hx625975]
              refine G_astore_n (L' := [(3, .ref q625974), (2, .int g625833), (0, .ref q587500), (1, .ref q587501)]) dr_cX17_spill_86 (Nat.le_of_ble_eq_true rfl) rfl ?_
              refine G_iconst 0 dr_cX17_spill_87 (by decide +kernel) ?_
              refine G_istore (L' := [(4, .int 0), (3, .ref q625974), (2, .int g625833), (0, .ref q587500), (1, .ref q587501)]) dr_cX17_spill_88 (Nat.le_of_ble_eq_true rfl) rfl ?_
              have hlp90_627500 : ∀ (n90_627500 : Nat) (P627479 : List Nat) (F627480 : Nat → va_E) (γ el : Nat → Nat → Nat) (g627478 : Int32), gB g627478 0 1000003 → RS D I P627479 F627480 γ el → rSk f [101] ([1, 3, 5, 6, 8, 9, 101] ++ npk) D I P587498 F587499 γ0 el0 P627479 F627480 γ el → rPh γ0 el0 f ≤ rPh γ el f → rBd γ el f B → rKd γ q625974 2 → γ 1 q625974 = f → g625833.toInt.toNat < γ 2 (γ 14 q587501) → el (γ 14 q587501) g625833.toInt.toNat = q625974 → γ 6 f = γ0 6 f → γ 18 f = γ0 18 f → ((γ 7 f : Nat) : Int) = (fI (F627480 q587500) 11).toInt → (fI (F627480 q587500) 11).toInt = (fI (F622564 q587500) 11).toInt → ((γ 16 f : Nat) : Int) + 2001 ≤ (B : Int) + (fI (F627480 q587500) 14).toInt → 100 ≤ (fI (F627480 q587500) 14).toInt → (F627480 (γ0 9 19) = F622564 (γ0 9 19)) → rPl γ el F627480 q587501 (γ 6 f) (spQ (cB (F587499 (γ0 9 3))) (cB (F622564 (γ0 9 19))) (g625833.toInt : Int).toNat (g627478.toInt : Int).toNat) → (g627478.toInt : Int) ≤ γ 2 (γ 14 q625974) + 1 → (g625833.toInt : Int) < γ 6 f → (F627480 (γ0 9 3) = F587499 (γ0 9 3)) → mKp (F587499 q587500) (F627480 q587500) → (γ 2 (γ 14 q625974) + 1 - (g627478.toInt : Int).toNat) < n90_627500 → G (gV D I) l (gRm 9 195 (((387 * B + 6000) - rPh γ0 el0 f) / 18) ((387 * B + 6000) - rPh γ0 el0 f)) (gMA (gV D I) (pg_587508_SpillForgeModel_spill D I γ0 el0 f B P587498 F587499 q587500 q587501) gNA (((387 * B + 6000) - rPh γ0 el0 f) / 18) ((387 * B + 6000) - rPh γ0 el0 f)) ky_587508_SpillForgeModel_spill 90 [(4, .int g627478), (3, .ref q625974), (2, .int g625833), (0, .ref q587500), (1, .ref q587501)] [] (va_pl P627479 F627480) ((rPh γ el f - rPh γ0 el0 f) / 18) (rPh γ el f - rPh γ0 el0 f) := by
                intro n90_627500
                induction n90_627500 with
                | zero => intro P627479 F627480 γ el g627478 bg627478 hT627481 hs627482 hph627483 hB627484 ht627485 hf627486 r627487 r627488 x627489 x627490 x627491 x627492 x627493 x627494 x627495 x627496 x627497 x627498 x627499 x627500 hm90_627500; exact absurd hm90_627500 (Nat.not_lt_zero _)
                | succ n90_627500 ih90_627500 =>
                  intro P627479 F627480 γ el g627478 bg627478 hT627481 hs627482 hph627483 hB627484 ht627485 hf627486 r627487 r627488 x627489 x627490 x627491 x627492 x627493 x627494 x627495 x627496 x627497 x627498 x627499 x627500 hm90_627500
                  clear r625915 r625916 r625917 r625918 r625919 r625920 r625922 r625923 r625924 r625925 bp625909 bp625910 bp625985 bp625986 r625994 r625995 r625929 r625930 r625931 r625958 r625959 r625960 r625962 r625961 r625963 r625964 r625965 r625966 r625967 r625968 r625969 r625970 r626005 r626006 r626007 r626008 r626009 r626010 r626011
                  have ht627502 : rKd γ q587500 10 := rSk_k hs627482 hzq587500 (by decide) (by decide)
                  have ht627503 : rKd γ q587501 9 := rSk_k hs627482 hzq587501 (by decide) (by decide)
                  have hf627504 : γ 1 q587501 = f := rSk_1 hs627482 hzq587501 (by decide) hf0
                  have pk627505 : rPh γ el f ≤ 387 * B + 6000 := rm_pk (rM_ge hT627481 ht627503 hf627504).1 (rM_bd hB627484)
                  have r627506 : 0 < γ 6 (γ 1 q587501) := by rw [hf627504]; omega
                  have hm627507 : q587500 ∈ P627479 := RS_m hT627481 ht627502 (by decide)
                  refine rk10_e (show rk_10 γ (F627480 q587500) from RS_o hT627481 ht627502) (fun q627509 q627510 p627511 p627512 p627513 p627514 p627515 p627516 p627517 p627518 p627519 p627520 p627521 p627522 p627523 p627524 p627525 he627508 hB627552 ht627526 ht627527 ht627528 ht627529 ht627530 ht627531 ht627532 ht627533 ht627534 ht627535 ht627536 ht627537 ht627538 ht627539 ht627540 ht627541 ht627542 ht627543 ht627544 ht627545 ht627546 ht627547 ht627548 ht627549 hB627553 => ?_)
                  have ac627554 : (fI (F627480 q587500) 11).toInt = p627513.toInt := by rw [he627508]; rfl
                  have bp627513 : gB p627513 0 100 := (hB627552.2.2.1)
                  have ac627555 : (fI (F627480 q587500) 14).toInt = p627516.toInt := by rw [he627508]; rfl
                  have bp627516 : gB p627516 0 2000 := (hB627552.2.2.2.1)
                  refine G_iload 0 dr_cX17_spill_90 rfl ?_
                  refine G_aload_n 1 dr_cX17_spill_92 rfl ?_
                  have hm627556 : q625974 ∈ P627479 := RS_m hT627481 ht627485 (by decide)
                  obtain ⟨q627558, q627559, p627560, p627561, he627557, ht627568, ht627562, ht627563, ht627564, ht627565, ht627566, bp627560, bp627561, r627567, r627569, r627570⟩ := show rk_2 γ q625974 (F627480 q625974) from RS_o hT627481 ht627485
                  have hf627571 : γ 1 q627558 = f := (show γ 1 q627558 = γ 1 q625974 from ht627563).trans hf627486
                  have hf627572 : γ 1 q627559 = f := (show γ 1 q627559 = γ 1 q625974 from ht627565).trans hf627486
                  have r627573 : γ 6 (γ 1 q625974) = γ 6 f := by rw [hf627486]
                  have r627574 : γ 7 (γ 1 q625974) = γ 7 f := by rw [hf627486]
                  have r627575 : γ 19 (γ 1 q625974) = γ 19 f := by rw [hf627486]
                  have r627576 := r627567.resolve_left (by omega)
                  clear r627567
                  have r627577 : γ 2 (γ 14 q625974) = γ 2 q627558 := by rw [ht627568.1]
                  refine Gp_get 0 hm627556 he627557 dr_cX17_spill_93 (gk_X12 D I) (Nat.le_of_ble_eq_true rfl) wr_9_220 rfl ?_
                  have hm627578 : q627558 ∈ P627479 := RS_m hT627481 ht627562 (by decide)
                  obtain ⟨⟨p627580, p627581, q627582, he627579, r627583, r627584, r627585, r627587⟩, r627586⟩ := show rk_3 D I γ el F627480 q627558 from RS_o hT627481 ht627562
                  have bp627580 := gB_any p627580
                  have bp627581 : gB p627581 0 1000000 := ⟨by omega, by omega⟩
                  refine Gw_callV (As := []) (gV_ok D I) (cp_7_ArrayList_size l hl0 D I P627479 F627480 q627558 p627580 q627582 p627581 hm627578 he627579 (gB_w bp627581 (by decide) (by decide))) dr_cX17_spill_96 ⟨wr_10_200, wr_1_18, wr_9_160, by decide, rfl, (Nat.le_of_ble_eq_true rfl), (Nat.le_of_ble_eq_true rfl)⟩ wr_9_158 wr_9_159 hm627578 he627579 rfl (rm_zc pk627505) (rm_zs pk627505) (Nat.le_of_ble_eq_true rfl) (fun r627591 w627592 dc627588 ds627589 hp627590 => ?_) (fun _ _ _ _ _ z => z.elim)
                  obtain ⟨rfl, rfl, hdc, hds⟩ := hp627590
                  change G _ _ _ _ _ _ _ (.int p627581 :: _) _ _ _
                  refine G_widen (cs' := ((rPh γ el f - rPh γ0 el0 f) / 18)) (sl' := (rPh γ el f - rPh γ0 el0 f)) (rm_d0 hdc) (rm_d0 hds) ?_
                  refine G_icmp_gt 425 dr_cX17_spill_99 (by decide +kernel) (fun hc627593 => ?_) (fun hc627593 => ?_)
                  · have r627594 : p627581.toInt < g627478.toInt := gC_lt hc627593
                    have bg627478' : gB g627478 1 1000003 := ⟨by omega, by omega⟩
                    obtain ⟨z627595, hz627595⟩ : ∃ z : Int32, z = g625833 + Int32.ofInt 1 := ⟨_, rfl⟩
                    have ez627595 : z627595.toInt = g625833.toInt + 1 := gI_inc hz627595 (by decide) bg625833' (by decide) (by decide)
                    have bz627595 : gB z627595 1 1000000 := ⟨by omega, by omega⟩
                    refine G_iinc (L' := [(2, .int z627595), (4, .int g627478), (3, .ref q625974), (0, .ref q587500), (1, .ref q587501)]) z627595 2 dr_cX17_spill_425 rfl hz627595.symm (Nat.le_of_ble_eq_true rfl) rfl ?_
                    refine G_goto 73 dr_cX17_spill_428 (by decide +kernel) ?_
                    refine G_lv (L' := [(2, .int z627595), (0, .ref q587500), (1, .ref q587501)]) [0, 3, 4] rfl ?_
                    have ac627596 : (fI (F627480 q587500) 11).toInt = p627513.toInt := by rw [he627508]; rfl
                    have ac627597 : (fI (F627480 q587500) 14).toInt = p627516.toInt := by rw [he627508]; rfl
                    exact ih73_625849 P627479 F627480 γ el z627595 (gB_w bz627595 (by decide) (by decide)) hT627481 hs627482 hph627483 hB627484 (by omega) (by omega) (by omega) (by omega) (by omega) (by omega) x627495 (sp_nx x627496 (by unfold rwL; rw [r627488]; omega) (by omega)) x627499 x627500 (by omega)
                  · have r627598 : g627478.toInt ≤ p627581.toInt := gC_nlt hc627593
                    have bg627478' : gB g627478 0 1000000 := ⟨by omega, by omega⟩
                    have jn292_627628 : ∀ (P627601 : List Nat) (F627602 : Nat → va_E) (γ el : Nat → Nat → Nat) (g627599 : Int32) (q627600 : Nat), gB g627599 0 1000001 → RS D I P627601 F627602 γ el → rSk f [101] ([1, 3, 5, 6, 8, 9, 101] ++ npk) D I P587498 F587499 γ0 el0 P627601 F627602 γ el → rPh γ0 el0 f ≤ rPh γ el f → rBd γ el f B → rKd γ q625974 2 → γ 1 q625974 = f → g625833.toInt.toNat < γ 2 (γ 14 q587501) → el (γ 14 q587501) g625833.toInt.toNat = q625974 → rKd γ q627600 1 → γ 1 q627600 = f → γ 6 f = γ0 6 f → γ 18 f = γ0 18 f → ((γ 7 f : Nat) : Int) = (fI (F627602 q587500) 11).toInt → (fI (F627602 q587500) 11).toInt = (fI (F622564 q587500) 11).toInt → ((γ 16 f : Nat) : Int) + 2001 ≤ (B : Int) + (fI (F627602 q587500) 14).toInt → 100 ≤ (fI (F627602 q587500) 14).toInt → (F627602 (γ0 9 19) = F622564 (γ0 9 19)) → rPl γ el F627602 q587501 (γ 6 f) (spX (cB (F587499 (γ0 9 3))) (cB (F622564 (γ0 9 19))) (g625833.toInt : Int).toNat (g627599.toInt : Int).toNat) → rAt γ el q587501 (g625833.toInt : Int).toNat (g627599.toInt : Int).toNat = q627600 → rS2 (cB (F587499 (γ0 9 3))) (cB (F622564 (γ0 9 19))) (F627602 q627600) → (g627599.toInt : Int) ≤ γ 2 (γ 14 q625974) → (g625833.toInt : Int) < γ 6 f → (γ 2 (γ 14 q625974) + 1 - (g627599.toInt : Int).toNat) < n90_627500 + 1 → eO g627599.toInt (γ 2 (γ 14 q625974) : Nat) (fI (F627602 q627600) 0).toInt → (F627602 (γ0 9 3) = F587499 (γ0 9 3)) → mKp (F587499 q587500) (F627602 q587500) → G (gV D I) l (gRm 9 195 (((387 * B + 6000) - rPh γ0 el0 f) / 18) ((387 * B + 6000) - rPh γ0 el0 f)) (gMA (gV D I) (pg_587508_SpillForgeModel_spill D I γ0 el0 f B P587498 F587499 q587500 q587501) gNA (((387 * B + 6000) - rPh γ0 el0 f) / 18) ((387 * B + 6000) - rPh γ0 el0 f)) ky_587508_SpillForgeModel_spill 292 [(0, .ref q587500), (1, .ref q587501), (2, .int g625833), (3, .ref q625974), (4, .int g627599), (5, .ref q627600)] [] (va_pl P627601 F627602) ((rPh γ el f - rPh γ0 el0 f) / 18) (rPh γ el f - rPh γ0 el0 f) := by
                      intro P627601 F627602 γ el g627599 q627600 bg627599 hT627603 hs627604 hph627605 hB627606 ht627607 hf627608 r627609 r627610 ht627611 hf627612 x627613 x627614 x627615 x627616 x627617 x627618 x627619 x627620 x627621 x627622 x627623 x627624 x627625 x627626 x627627 x627628
                      clear bp627560 bp627561 r627569 r627570 r627573 r627574 r627575 r627576 r627577 r627583 r627584 r627585 r627587 r627586
                      have ht627630 : rKd γ q587500 10 := rSk_k hs627604 hzq587500 (by decide) (by decide)
                      have ht627631 : rKd γ q587501 9 := rSk_k hs627604 hzq587501 (by decide) (by decide)
                      have hf627632 : γ 1 q587501 = f := rSk_1 hs627604 hzq587501 (by decide) hf0
                      have pk627633 : rPh γ el f ≤ 387 * B + 6000 := rm_pk (rM_ge hT627603 ht627631 hf627632).1 (rM_bd hB627606)
                      have r627634 : 0 < γ 6 (γ 1 q587501) := by rw [hf627632]; omega
                      have hm627635 : q587500 ∈ P627601 := RS_m hT627603 ht627630 (by decide)
                      refine rk10_e (show rk_10 γ (F627602 q587500) from RS_o hT627603 ht627630) (fun q627637 q627638 p627639 p627640 p627641 p627642 p627643 p627644 p627645 p627646 p627647 p627648 p627649 p627650 p627651 p627652 p627653 he627636 hB627680 ht627654 ht627655 ht627656 ht627657 ht627658 ht627659 ht627660 ht627661 ht627662 ht627663 ht627664 ht627665 ht627666 ht627667 ht627668 ht627669 ht627670 ht627671 ht627672 ht627673 ht627674 ht627675 ht627676 ht627677 hB627681 => ?_)
                      have ac627682 : (fI (F627602 q587500) 11).toInt = p627641.toInt := by rw [he627636]; rfl
                      have bp627641 : gB p627641 0 100 := (hB627680.2.2.1)
                      have ac627683 : (fI (F627602 q587500) 14).toInt = p627644.toInt := by rw [he627636]; rfl
                      have bp627644 : gB p627644 0 2000 := (hB627680.2.2.2.1)
                      have hm627684 : q627600 ∈ P627601 := RS_m hT627603 ht627611 (by decide)
                      obtain ⟨p627686, p627687, p627688, p627689, p627690, p627691, p627692, he627685, bp627686, bp627687, bp627690, bp627691, bp627692, r627693, r627694, r627695, r627696, r627697⟩ := show rk_1 γ q627600 (F627602 q627600) from RS_o hT627603 ht627611
                      have bp627688 := gB_any p627688
                      have bp627689 := gB_any p627689
                      replace r627693 : gH _ := r627693
                      replace r627694 : gH _ := r627694
                      replace r627695 : gH _ := r627695
                      replace r627696 : gH _ := r627696
                      replace r627697 : gH _ := r627697
                      have r627698 : γ 7 (γ 1 q627600) = γ 7 f := by rw [hf627612]
                      refine G_aload 5 dr_cX17_spill_292 rfl ?_
                      refine Gw_callV (As := []) (gV_ok D I) (cp_407671_Row_sets l hl0 D I P627601 F627602 q627600 p627686 p627687 p627688 p627689 p627690 p627691 p627692 hm627684 he627685 bp627686 bp627687 bp627690 bp627691 bp627692) dr_cX17_spill_294 ⟨wr_10_181, wr_1_39, wr_10_184, by decide, rfl, (Nat.le_of_ble_eq_true rfl), (Nat.le_of_ble_eq_true rfl)⟩ wr_10_182 wr_10_183 hm627684 he627685 rfl (rm_zc pk627633) (rm_zs pk627633) (Nat.le_of_ble_eq_true rfl) (fun r627702 w627703 dc627699 ds627700 hp627701 => ?_) (fun _ _ _ _ _ z => z.elim)
                      obtain ⟨o627704, rfl, rfl, hdc, hds, bo627704, x627705, ht627706⟩ := hp627701
                      change G _ _ _ _ _ _ _ (.int o627704 :: _) _ _ _
                      refine G_widen (cs' := ((rPh γ el f - rPh γ0 el0 f) / 18)) (sl' := (rPh γ el f - rPh γ0 el0 f)) (rm_d0 hdc) (rm_d0 hds) ?_
                      refine G_if_eq 419 dr_cX17_spill_297 (by decide +kernel) (fun hc627707 => ?_) (fun hc627707 => ?_)
                      · have r627708 : o627704.toInt = 0 := gj_eq hc627707 (show Int32.toInt 0 = 0 by decide)
                        have bo627704' : gB o627704 0 0 := gB_t0 r627708
                        have rn627710 : rNx (nSp (cB (F587499 (γ0 9 3))) (cB (F622564 (γ0 9 19)))) (F627602 q627600) := rS2_n he627685 he627685 x627622 (fun h => (uS_0 x627705 (by omega) h).elim)
                        have pl627709 := sp_fin x627620 x627621 rn627710 (rfl : (g627599.toInt : Int).toNat + 1 = (g627599.toInt : Int).toNat + 1)
                        obtain ⟨z627711, hz627711⟩ : ∃ z : Int32, z = g627599 + Int32.ofInt 1 := ⟨_, rfl⟩
                        have ez627711 : z627711.toInt = g627599.toInt + 1 := gI_inc hz627711 (by decide) bg627599 (by decide) (by decide)
                        have bz627711 : gB z627711 1 1000002 := ⟨by omega, by omega⟩
                        refine G_iinc (L' := [(4, .int z627711), (0, .ref q587500), (1, .ref q587501), (2, .int g625833), (3, .ref q625974), (5, .ref q627600)]) z627711 4 dr_cX17_spill_419 rfl hz627711.symm (Nat.le_of_ble_eq_true rfl) rfl ?_
                        refine G_goto 90 dr_cX17_spill_422 (by decide +kernel) ?_
                        refine G_lv (L' := [(4, .int z627711), (3, .ref q625974), (2, .int g625833), (0, .ref q587500), (1, .ref q587501)]) [0, 4, 3, 1, 2] rfl ?_
                        have ac627712 : (fI (F627602 q587500) 11).toInt = p627641.toInt := by rw [he627636]; rfl
                        have ac627713 : (fI (F627602 q587500) 14).toInt = p627644.toInt := by rw [he627636]; rfl
                        exact ih90_627500 P627601 F627602 γ el z627711 (gB_w bz627711 (by decide) (by decide)) hT627603 hs627604 hph627605 hB627606 ht627607 hf627608 r627609 r627610 (by omega) (by omega) (by omega) (by omega) (by omega) (by omega) x627619 (by rw [(show (z627711.toInt : Int).toNat = ((g627599.toInt : Int).toNat + 1) from tn_eq1 (by omega) (by omega))]; exact pl627709) (by omega) (by omega) x627627 x627628 (ms_g x627625 (by omega) (by omega) (by omega))
                      · have r627714 : o627704.toInt ≠ 0 := gj_neq hc627707 (show Int32.toInt 0 = 0 by decide)
                        have bo627704' : gB o627704 1 1 := gB_t1 bo627704 r627714
                        refine G_aload 5 dr_cX17_spill_300 rfl ?_
                        refine Gp_get 0 hm627684 he627685 dr_cX17_spill_302 (gk_X15 D I) (Nat.le_of_ble_eq_true rfl) wr_9_177 rfl ?_
                        refine G_bipush 21 dr_cX17_spill_305 (by decide +kernel) ?_
                        refine G_icmp_eq 419 dr_cX17_spill_307 (by decide +kernel) (fun hc627715 => ?_) (fun hc627715 => ?_)
                        · have r627716 : p627686.toInt = 21 := gj_eq hc627715 (show Int32.toInt 21 = 21 by decide)
                          have bp627686' : gB p627686 21 21 := ⟨by omega, by omega⟩
                          have rn627718 : rNx (nSp (cB (F587499 (γ0 9 3))) (cB (F622564 (γ0 9 19)))) (F627602 q627600) := rS2_n he627685 he627685 x627622 (fun _ => Or.inr ⟨rfl, Or.inl (by omega)⟩)
                          have pl627717 := sp_fin x627620 x627621 rn627718 (rfl : (g627599.toInt : Int).toNat + 1 = (g627599.toInt : Int).toNat + 1)
                          obtain ⟨z627719, hz627719⟩ : ∃ z : Int32, z = g627599 + Int32.ofInt 1 := ⟨_, rfl⟩
                          have ez627719 : z627719.toInt = g627599.toInt + 1 := gI_inc hz627719 (by decide) bg627599 (by decide) (by decide)
                          have bz627719 : gB z627719 1 1000002 := ⟨by omega, by omega⟩
                          refine G_iinc (L' := [(4, .int z627719), (0, .ref q587500), (1, .ref q587501), (2, .int g625833), (3, .ref q625974), (5, .ref q627600)]) z627719 4 dr_cX17_spill_419 rfl hz627719.symm (Nat.le_of_ble_eq_true rfl) rfl ?_
                          refine G_goto 90 dr_cX17_spill_422 (by decide +kernel) ?_
                          refine G_lv (L' := [(4, .int z627719), (3, .ref q625974), (2, .int g625833), (0, .ref q587500), (1, .ref q587501)]) [0, 4, 3, 1, 2] rfl ?_
                          have ac627720 : (fI (F627602 q587500) 11).toInt = p627641.toInt := by rw [he627636]; rfl
                          have ac627721 : (fI (F627602 q587500) 14).toInt = p627644.toInt := by rw [he627636]; rfl
                          exact ih90_627500 P627601 F627602 γ el z627719 (gB_w bz627719 (by decide) (by decide)) hT627603 hs627604 hph627605 hB627606 ht627607 hf627608 r627609 r627610 (by omega) (by omega) (by omega) (by omega) (by omega) (by omega) x627619 (by rw [(show (z627719.toInt : Int).toNat = ((g627599.toInt : Int).toNat + 1) from tn_eq1 (by omega) (by omega))]; exact pl627717) (by omega) (by omega) x627627 x627628 (ms_g x627625 (by omega) (by omega) (by omega))
                        · have r627722 : p627686.toInt ≠ 21 := gj_neq hc627715 (show Int32.toInt 21 = 21 by decide)
                          refine G_aload_n 0 dr_cX17_spill_310 rfl ?_
                          refine Gp_get 19 hm627635 he627636 dr_cX17_spill_311 (gk_X17 D I) (Nat.le_of_ble_eq_true rfl) wr_7_93 rfl ?_
                          refine G_aload 5 dr_cX17_spill_314 rfl ?_
                          refine Gp_get 1 hm627684 he627685 dr_cX17_spill_316 (gk_X15 D I) (Nat.le_of_ble_eq_true rfl) wr_9_182 rfl ?_
                          have hm627723 : (γ 9 19) ∈ P627601 := RS_m hT627603 ht627669 (by decide)
                          obtain ⟨f627725, he627724, bf627725⟩ := show rk_21 I (F627602 (γ 9 19)) from RS_o hT627603 ht627669
                          refine Gp_iald 0 hm627723 he627724 dr_cX17_spill_319 rfl (gB_in bp627687 (by decide) (by decide)) (G_nam fun z627726 hz627726 => ?_)
                          have bz627726 : gB z627726 (-1) 1999 := by rw [hz627726]; exact bf627725 _
                          have c9_627727 : cB (F622564 (γ0 9 19)) = f627725 := by rw [← x627619, ← congrFun (rSk_9 hs627604) 19]; exact cB_of he627724
                          have hs627728 : (cB (F622564 (γ0 9 19)) p627687.toInt.toNat).toInt = z627726.toInt := by rw [c9_627727, hz627726]; rfl
                          refine G_if_ge 326 dr_cX17_spill_320 (by decide +kernel) (fun hc627730 => ?_) (fun hc627730 => ?_)
                          · have r627731 : 0 ≤ z627726.toInt := gj_leL hc627730 (show Int32.toInt 0 = 0 by decide)
                            have bz627726' : gB z627726 0 1999 := ⟨by omega, by omega⟩
                            refine G_aload_n 0 dr_cX17_spill_326 rfl ?_
                            refine Gp_get 19 hm627635 he627636 dr_cX17_spill_327 (gk_X17 D I) (Nat.le_of_ble_eq_true rfl) wr_7_93 rfl ?_
                            refine G_aload 5 dr_cX17_spill_330 rfl ?_
                            refine Gp_get 1 hm627684 he627685 dr_cX17_spill_332 (gk_X15 D I) (Nat.le_of_ble_eq_true rfl) wr_9_182 rfl ?_
                            refine Gp_iald 0 hm627723 he627724 dr_cX17_spill_335 rfl (gB_in bp627687 (by decide) (by decide)) (G_eqi (y := z627726) hz627726.symm ?_)
                            have r627732 := (spi622649.2.2.2 p627687.toInt.toNat (tn_lt (by omega) (by omega)) (by omega)).2.2
                            refine G_istore (L' := [(8, .int z627726), (0, .ref q587500), (1, .ref q587501), (2, .int g625833), (3, .ref q625974), (4, .int g627599), (5, .ref q627600)]) dr_cX17_spill_336 (Nat.le_of_ble_eq_true rfl) rfl ?_
                            refine G_aload_n 1 dr_cX17_spill_338 rfl ?_
                            refine Gp_get 14 hm627635 he627636 dr_cX17_spill_339 (gk_X17 D I) (Nat.le_of_ble_eq_true rfl) wr_7_88 rfl ?_
                            refine G_sipush 2000 dr_cX17_spill_342 (by decide +kernel) ?_
                            refine G_icmp_ne 350 dr_cX17_spill_345 (by decide +kernel) (fun hc627733 => ?_) (fun hc627733 => ?_)
                            · have r627734 : p627644.toInt ≠ 2000 := gj_neq hc627733 (show Int32.toInt 2000 = 2000 by decide)
                              have bp627644' : gB p627644 0 1999 := ⟨by omega, by omega⟩
                              have r627735 := eO_r x627626 (by rw [he627685]; rfl) (uS_1 x627705 (by omega))
                              refine G_aload 6 dr_cX17_spill_350 rfl ?_
                              refine G_aload_n 1 dr_cX17_spill_352 rfl ?_
                              refine Gp_get 14 hm627635 he627636 dr_cX17_spill_353 (gk_X17 D I) (Nat.le_of_ble_eq_true rfl) wr_7_88 rfl ?_
                              refine Gp_put 1 hm627684 he627685 dr_cX17_spill_356 (gk_X15 D I) (Nat.le_of_ble_eq_true rfl) wr_9_182 rfl rfl rfl (Nat.le_of_ble_eq_true rfl) (fun F627736 e627737 n627738 => ?_)
                              have r627739 := rk1_at hT627603 ht627611 he627685
                              have he627740 : F627736 q587500 = .inr (22, [.ref (γ 9 0), .ref (γ 9 1), .ref (γ 9 2), .ref (γ 9 3), .ref (γ 9 4), .ref (γ 9 5), .ref (γ 9 6), .ref (γ 9 7), .ref (γ 9 8), .int p627639, .int p627640, .int p627641, .int p627642, .int p627643, .int p627644, .ref (γ 9 15), .ref (γ 9 16), .ref (γ 9 17), .ref (γ 9 18), .ref (γ 9 19), .ref (γ 9 20), .ref (γ 9 21), .ref (γ 9 22), .int p627645, .int p627646, .int p627647, .int p627648, .int p627649, .ref q627637, .ref (γ 9 29), .int p627650, .ref (γ 9 31), .int p627651, .int p627652, .int p627653, .ref q627638]) := (n627738 q587500 (rn_oo he627636 he627685 (by decide))).trans he627636
                              have he627741 : F627736 (γ 9 19) = .inl (I .int, 2000, .inl f627725) := (n627738 (γ 9 19) (rn_ao he627724 he627685)).trans he627724
                              have he627742 : F627736 q627600 = .inr (20, [.int p627686, .int p627644, .int p627688, .int p627689, .int p627690, .int p627691, .int p627692]) := e627737
                              have mk627743 : mKp (F587499 q587500) (F627736 q587500) := mKp_tr x627628 (mKp_eq (n627738 q587500 (rn_ty ht627630 ht627611 (by decide))))
                              have kp627744 : F627736 (γ0 9 3) = F587499 (γ0 9 3) := (n627738 (γ0 9 3) (rn_ty (rSk_k hs627604 k0_3 (by decide) (by decide)) ht627611 (by decide))).trans x627627
                              have kp627745 : F627736 (γ0 9 19) = F622564 (γ0 9 19) := (n627738 (γ0 9 19) (rn_ty (rSk_k hs627604 k0_19 (by decide) (by decide)) ht627611 (by decide))).trans x627619
                              have hT627746 : RS D I P627601 F627736 γ el := RS_set hT627603 n627738 ht627611 (by decide) ⟨p627686, p627644, p627688, p627689, p627690, p627691, p627692, he627742, bp627686, bp627644', bp627690, bp627691, bp627692, (gHe r627693), (gHe r627694), (gHe r627695), r627739.1, r627739.2⟩
                              have hs627748 := rSk_put hs627604 hT627746 n627738 ht627611 (by decide) (by decide)
                              have hm627750 : q625974 ∈ P627601 := RS_m hT627746 ht627607 (by decide)
                              obtain ⟨q627752, q627753, p627754, p627755, he627751, ht627762, ht627756, ht627757, ht627758, ht627759, ht627760, bp627754, bp627755, r627761, r627763, r627764⟩ := show rk_2 γ q625974 (F627736 q625974) from RS_o hT627746 ht627607
                              have hf627765 : γ 1 q627752 = f := (show γ 1 q627752 = γ 1 q625974 from ht627757).trans hf627608
                              have hf627766 : γ 1 q627753 = f := (show γ 1 q627753 = γ 1 q625974 from ht627759).trans hf627608
                              have r627767 : γ 6 (γ 1 q625974) = γ 6 f := by rw [hf627608]
                              have r627768 : γ 7 (γ 1 q625974) = γ 7 f := by rw [hf627608]
                              have r627769 : γ 19 (γ 1 q625974) = γ 19 f := by rw [hf627608]
                              have r627770 := r627761.resolve_left (by omega)
                              clear r627761
                              have r627771 : γ 2 (γ 14 q625974) = γ 2 q627752 := by rw [ht627762.1]
                              have pl627749 := sp_put hT627603 ht627631 hf627632 x627620 n627738 x627621 (show (g625833.toInt : Int).toNat < γ 6 f from tn_lt (by omega) (by omega)) (by unfold rwL; rw [r627610]; exact tn_le0 (by omega) (by omega))
                              have rn627773 : rNx (nSp (cB (F587499 (γ0 9 3))) (cB (F622564 (γ0 9 19)))) (F627736 q627600) := rS2_n he627685 he627742 x627622 (fun _ => Or.inl (by omega))
                              have pl627772 := sp_fin pl627749 x627621 rn627773 (rfl : (g627599.toInt : Int).toNat + 1 = (g627599.toInt : Int).toNat + 1)
                              refine G_aload_n 1 dr_cX17_spill_359 rfl ?_
                              refine G_dup dr_cX17_spill_360 rfl ?_
                              refine Gp_get 14 hm627635 he627740 dr_cX17_spill_361 (gk_X17 D I) (Nat.le_of_ble_eq_true rfl) wr_7_88 rfl ?_
                              refine G_iconst 1 dr_cX17_spill_364 (by decide +kernel) ?_
                              refine G_iadd dr_cX17_spill_365 (G_nam fun z627774 hz627774 => ?_)
                              have ez627774 : z627774.toInt = p627644.toInt + 1 := by rw [gI_add hz627774 bp627644' (gBl (show Int32.toInt 1 = 1 by decide)) (by decide) (by decide), show Int32.toInt 1 = 1 from by decide]
                              have bz627774 : gB z627774 1 2000 := gB_add (gI_add hz627774 bp627644' (gBl (show Int32.toInt 1 = 1 by decide)) (by decide) (by decide)) bp627644' (gBl (show Int32.toInt 1 = 1 by decide)) (by decide) (by decide)
                              refine Gp_put 14 hm627635 he627740 dr_cX17_spill_366 (gk_X17 D I) (Nat.le_of_ble_eq_true rfl) wr_7_88 rfl rfl rfl (Nat.le_of_ble_eq_true rfl) (fun F627775 e627776 n627777 => ?_)
                              have he627778 : F627775 q627600 = .inr (20, [.int p627686, .int p627644, .int p627688, .int p627689, .int p627690, .int p627691, .int p627692]) := (n627777 q627600 (rn_oo he627742 he627740 (by decide))).trans he627742
                              have he627779 : F627775 (γ 9 19) = .inl (I .int, 2000, .inl f627725) := (n627777 (γ 9 19) (rn_ao he627741 he627740)).trans he627741
                              have he627780 : F627775 q625974 = .inr (17, [.ref q627752, .ref q627753, .int p627754, .int p627755]) := (n627777 q625974 (rn_oo he627751 he627740 (by decide))).trans he627751
                              have he627781 : F627775 q587500 = .inr (22, [.ref (γ 9 0), .ref (γ 9 1), .ref (γ 9 2), .ref (γ 9 3), .ref (γ 9 4), .ref (γ 9 5), .ref (γ 9 6), .ref (γ 9 7), .ref (γ 9 8), .int p627639, .int p627640, .int p627641, .int p627642, .int p627643, .int z627774, .ref (γ 9 15), .ref (γ 9 16), .ref (γ 9 17), .ref (γ 9 18), .ref (γ 9 19), .ref (γ 9 20), .ref (γ 9 21), .ref (γ 9 22), .int p627645, .int p627646, .int p627647, .int p627648, .int p627649, .ref q627637, .ref (γ 9 29), .int p627650, .ref (γ 9 31), .int p627651, .int p627652, .int p627653, .ref q627638]) := e627776
                              have mk627782 : mKp (F587499 q587500) (F627775 q587500) := mKp_tr mk627743 (by rw [he627740, he627781]; exact ⟨rfl, rfl⟩)
                              have kp627783 : F627775 (γ0 9 3) = F587499 (γ0 9 3) := (n627777 (γ0 9 3) (rn_ty (rSk_k hs627748 k0_3 (by decide) (by decide)) ht627630 (by decide))).trans kp627744
                              have kp627784 : F627775 (γ0 9 19) = F622564 (γ0 9 19) := (n627777 (γ0 9 19) (rn_ty (rSk_k hs627748 k0_19 (by decide) (by decide)) ht627630 (by decide))).trans kp627745
                              have hT627785 : RS D I P627601 F627775 γ el := RS_set hT627746 n627777 ht627630 (by decide) ⟨q627637, q627638, p627639, p627640, p627641, p627642, p627643, z627774, p627645, p627646, p627647, p627648, p627649, p627650, p627651, p627652, p627653, he627781, ⟨(hB627680.1), (hB627680.2.1), bp627641, (gB_w bz627774 (by decide) (by decide)), (hB627680.2.2.2.2.1), (hB627680.2.2.2.2.2.1), (hB627680.2.2.2.2.2.2.1), (hB627680.2.2.2.2.2.2.2.1), (hB627680.2.2.2.2.2.2.2.2)⟩, ht627654, ht627655, ht627656, ht627657, ht627658, ht627659, ht627660, ht627661, ht627662, ht627663, ht627664, ht627665, ht627666, ht627667, ht627668, ht627669, ht627670, ht627671, ht627672, ht627673, ht627674, ht627675, ht627676, ht627677, hB627681⟩
                              have hs627787 := rSk_put hs627748 hT627785 n627777 ht627630 (by decide) (by decide)
                              have pl627788 := rPl_fr hT627746 ht627631 hf627632 pl627772 (fun b hb _ => n627777 b (rn_ty (show rKd γ b 1 from hb) ht627630 (by decide)))
                              have ac627789 : (fI (F627775 q587500) 11).toInt = p627641.toInt := by rw [he627781]; rfl
                              have ac627790 : (fI (F627775 q587500) 14).toInt = z627774.toInt := by rw [he627781]; rfl
                              refine G_aload_n 2 dr_cX17_spill_369 rfl ?_
                              have rg627791 := rM_ge hT627785 ht627631 hf627632
                              have rm627792 := rM_bd hB627606
                              have bd627793 := rBd_c hT627785 ht627631 hf627632 hB627606
                              have rc627794 := rc_at hT627785 ht627631 hf627632
                              obtain ⟨q627801, hl627802⟩ : ∃ z, z = γ 14 q625974 := ⟨_, rfl⟩
                              have hl627803 : γ 0 q627801 = 3 ∨ γ 0 q627801 = 103 := by rw [hl627802, ← r627610]; exact (RS_lst hT627785 rc627794.2.1 r627609).1
                              refine Gt_row (c := q587501) (f := f) hl0 dr_cX17_spill_370 ⟨wr_10_206, wr_1_15, wr_10_82, by decide, rfl, (Nat.le_of_ble_eq_true rfl), (Nat.le_of_ble_eq_true rfl)⟩ wr_10_80 wr_10_81 hT627785 ht627631 hf627632 (Nat.le_trans bd627793.2.2.1 (Nat.le_trans hBk (by decide))) (rm_cs hph627605 rg627791.2.1 rm627792 (by decide)) (rm_sl hph627605 rg627791.2.1 rm627792 rm_s18) (Nat.le_of_ble_eq_true rfl) (fun P627795 F627796 γ el q627797 dc627798 ds627799 hq627800 => ?_)
                              have pl627804 := rPl_row hT627785 ht627631 hf627632 hq627800 pl627788
                              obtain ⟨hk627805, x0627806, x1627807, x22627808, x8627809, h16627810, h18627811, hnu627812, hot627813, h45627814, hf0627815, ⟨hr1627816, hr2627817⟩, hM627818, hBB627819⟩ := hq627800
                              have hk627820 := rSk_of hk627805
                              obtain ⟨nu627821, nu627822, nu627823, nu627824⟩ := hnu627812
                              have hT627825 := hk627820.1
                              have hs627826 := rSk_tr hs627787 hk627820 (by decide) (by decide) (by decide)
                              have kp627827 : F627796 (γ0 9 3) = F587499 (γ0 9 3) := (rSk_F hk627820 (rSk_k hs627787 k0_3 (by decide) (by decide)) (by decide) (by decide)).trans kp627783
                              have kp627828 : F627796 (γ0 9 19) = F622564 (γ0 9 19) := (rSk_F hk627820 (rSk_k hs627787 k0_19 (by decide) (by decide)) (by decide) (by decide)).trans kp627784
                              have r627829 := rSk_F hk627820 ht627630 (by decide) (by decide)
                              have ht627830 : rKd γ q587500 10 := rSk_k hk627820 ht627630 (by decide) (by decide)
                              have ht627831 : rKd γ q587501 9 := rSk_k hk627820 ht627631 (by decide) (by decide)
                              have hf627832 : γ 1 q587501 = f := rSk_1 hk627820 ht627631 (by decide) hf627632
                              have ht627833 : rKd γ q625974 2 := rSk_k hk627820 ht627607 (by decide) (by decide)
                              have hf627834 : γ 1 q625974 = f := rSk_1 hk627820 ht627607 (by decide) hf627608
                              have ht627835 : rKd γ q627600 1 := rSk_k hk627820 ht627611 (by decide) (by decide)
                              have hf627836 : γ 1 q627600 = f := rSk_1 hk627820 ht627611 (by decide) hf627612
                              have ht627837 : rKd γ q627752 3 := rSk_k hk627820 ht627756 (by decide) (by decide)
                              have hf627838 : γ 1 q627752 = f := rSk_1 hk627820 ht627756 (by decide) hf627765
                              have mk627839 : mKp (F587499 q587500) (F627796 q587500) := mKp_tr mk627782 (mKp_eq (rSk_F hk627820 ht627630 (by decide) (by decide)))
                              have r627840 := (rSk_s hk627820 ht627631 (by decide)).2.1
                              have r627841 := hot627813 _ (by rw [rc627794.2.1]; decide) (by rw [rc627794.2.1]; decide)
                              have r627842 : g625833.toInt.toNat < γ 2 (γ 14 q587501) := by rw [r627840, r627841.1]; exact r627609
                              have r627843 : el (γ 14 q587501) g625833.toInt.toNat = q625974 := by rw [r627840, r627841.2]; exact r627610
                              have he627844 : F627796 q627600 = .inr (20, [.int p627686, .int p627644, .int p627688, .int p627689, .int p627690, .int p627691, .int p627692]) := (rSk_F hk627820 ht627611 (by decide) (by decide)).trans he627778
                              have hm627845 : q627600 ∈ P627795 := RS_m hT627825 ht627835 (by decide)
                              clear bp627754 bp627755 r627763 r627764 rg627791 rm627792 bd627793 rc627794
                              have hm627846 : q587500 ∈ P627795 := RS_m hT627825 ht627830 (by decide)
                              refine rk10_e (show rk_10 γ (F627796 q587500) from RS_o hT627825 ht627830) (fun q627848 q627849 p627850 p627851 p627852 p627853 p627854 p627855 p627856 p627857 p627858 p627859 p627860 p627861 p627862 p627863 p627864 he627847 hB627891 ht627865 ht627866 ht627867 ht627868 ht627869 ht627870 ht627871 ht627872 ht627873 ht627874 ht627875 ht627876 ht627877 ht627878 ht627879 ht627880 ht627881 ht627882 ht627883 ht627884 ht627885 ht627886 ht627887 ht627888 hB627892 => ?_)
                              have r627893 : p627852.toInt = p627641.toInt := by have z : p627852 = p627641 := congrArg (fun e => fI e 11) (he627847.symm.trans (r627829.trans he627781)); rw [z]
                              have bp627852 : gB p627852 0 100 := (hB627891.2.2.1)
                              have r627894 : p627855.toInt = z627774.toInt := by have z : p627855 = z627774 := congrArg (fun e => fI e 14) (he627847.symm.trans (r627829.trans he627781)); rw [z]
                              have bp627855 : gB p627855 0 2000 := (hB627891.2.2.2.1)
                              have bp627855' : gB p627855 1 2000 := ⟨by omega, by omega⟩
                              have sz627895 := (rSk_s hk627820 ht627607 (by decide)).2.1
                              have sz627896 := congrArg (γ 2) sz627895
                              have sz627897 := (hot627813 q627801 (by omega) (by omega)).1
                              rw [hl627802] at sz627897
                              clear hl627803
                              have sz627898 := (hot627813 q627752 (rT0 ht627756 (by decide)) (by rw [show _ = 3 from ht627756]; decide)).1
                              have r627899 := hf0627815.2.2
                              have hB627900 : rBd γ el f B := hBB627819 B (by omega) hB627606
                              have ht627901 : rKd γ q627797 101 := x0627806
                              have r627902 : γ 8 q627797 < γ 16 f := rm_x8 x8627809 h16627810 rfl
                              have hph627903 : rPh γ0 el0 f ≤ rPh γ el f := rm_ph hph627605 hr2627817
                              have pk627904 : rPh γ el f ≤ 387 * B + 6000 := rm_pk (rM_ge hT627825 ht627831 hf627832).1 (rM_bd hB627900)
                              have hm627905 : q627797 ∈ P627795 := RS_m hT627825 ht627901 (by decide)
                              obtain ⟨p627907, p627908, p627909, p627910, p627911, p627912, p627913, he627906, bp627907, bp627908, bp627911, bp627912, bp627913, r627914, r627915, r627916⟩ := show rkR (F627796 q627797) from RS_o hT627825 ht627901
                              have bp627909 := gB_any p627909
                              have bp627910 := gB_any p627910
                              replace r627914 : gH _ := r627914
                              replace r627915 : gH _ := r627915
                              replace r627916 : gH _ := r627916
                              have r627917 : γ 7 (γ 1 q627797) = γ 7 f := by rw [x1627807]
                              have r627918 : p627912.toInt = 0 := by have z := hf0627815.1; rw [he627906] at z; exact z
                              have bp627912' : gB p627912 0 0 := gB_t0 r627918
                              have r627919 : p627913.toInt = 0 := by have z := hf0627815.2.1; rw [he627906] at z; exact z
                              have bp627913' : gB p627913 0 0 := gB_t0 r627919
                              refine G_widen (cs' := ((rPh γ el f - rPh γ0 el0 f) / 18)) (sl' := (rPh γ el f - rPh γ0 el0 f)) (rm_wc hph627605 hr1627816) (rm_ws hph627605 hr2627817) ?_
                              refine G_astore (L' := [(9, .ref q627797), (8, .int z627726), (0, .ref q587500), (1, .ref q587501), (2, .int g625833), (3, .ref q625974), (4, .int g627599), (5, .ref q627600)]) dr_cX17_spill_373 (Nat.le_of_ble_eq_true rfl) rfl ?_
                              refine G_aload 0 dr_cX17_spill_375 rfl ?_
                              refine G_bipush 23 dr_cX17_spill_377 (by decide +kernel) ?_
                              refine Gp_put 0 hm627905 he627906 dr_cX17_spill_379 (gk_X15 D I) (Nat.le_of_ble_eq_true rfl) wr_9_177 rfl rfl rfl (Nat.le_of_ble_eq_true rfl) (fun F627920 e627921 n627922 => ?_)
                              have he627923 : F627920 q627600 = .inr (20, [.int p627686, .int p627644, .int p627688, .int p627689, .int p627690, .int p627691, .int p627692]) := (n627922 q627600 (rn_ty ht627835 ht627901 (by decide))).trans he627844
                              have he627924 : F627920 q587500 = .inr (22, [.ref (γ 9 0), .ref (γ 9 1), .ref (γ 9 2), .ref (γ 9 3), .ref (γ 9 4), .ref (γ 9 5), .ref (γ 9 6), .ref (γ 9 7), .ref (γ 9 8), .int p627850, .int p627851, .int p627852, .int p627853, .int p627854, .int p627855, .ref (γ 9 15), .ref (γ 9 16), .ref (γ 9 17), .ref (γ 9 18), .ref (γ 9 19), .ref (γ 9 20), .ref (γ 9 21), .ref (γ 9 22), .int p627856, .int p627857, .int p627858, .int p627859, .int p627860, .ref q627848, .ref (γ 9 29), .int p627861, .ref (γ 9 31), .int p627862, .int p627863, .int p627864, .ref q627849]) := (n627922 q587500 (rn_oo he627847 he627906 (by decide))).trans he627847
                              have he627925 : F627920 q627797 = .inr (20, [.int 23, .int p627908, .int p627909, .int p627910, .int p627911, .int p627912, .int p627913]) := e627921
                              have mk627926 : mKp (F587499 q587500) (F627920 q587500) := mKp_tr mk627839 (mKp_eq (n627922 q587500 (rn_ty ht627830 ht627901 (by decide))))
                              have kp627927 : F627920 (γ0 9 3) = F587499 (γ0 9 3) := (n627922 (γ0 9 3) (rn_ty (rSk_k hs627826 k0_3 (by decide) (by decide)) ht627901 (by decide))).trans kp627827
                              have kp627928 : F627920 (γ0 9 19) = F622564 (γ0 9 19) := (n627922 (γ0 9 19) (rn_ty (rSk_k hs627826 k0_19 (by decide) (by decide)) ht627901 (by decide))).trans kp627828
                              refine G_aload 0 dr_cX17_spill_382 rfl ?_
                              refine G_iload 1 dr_cX17_spill_384 rfl ?_
                              refine Gp_put 4 hm627905 he627925 dr_cX17_spill_386 (gk_X15 D I) (Nat.le_of_ble_eq_true rfl) wr_9_193 rfl rfl rfl (Nat.le_of_ble_eq_true rfl) (fun F627929 e627930 n627931 => ?_)
                              have he627932 : F627929 q627600 = .inr (20, [.int p627686, .int p627644, .int p627688, .int p627689, .int p627690, .int p627691, .int p627692]) := (n627931 q627600 (rn_ty ht627835 ht627901 (by decide))).trans he627923
                              have he627933 : F627929 q587500 = .inr (22, [.ref (γ 9 0), .ref (γ 9 1), .ref (γ 9 2), .ref (γ 9 3), .ref (γ 9 4), .ref (γ 9 5), .ref (γ 9 6), .ref (γ 9 7), .ref (γ 9 8), .int p627850, .int p627851, .int p627852, .int p627853, .int p627854, .int p627855, .ref (γ 9 15), .ref (γ 9 16), .ref (γ 9 17), .ref (γ 9 18), .ref (γ 9 19), .ref (γ 9 20), .ref (γ 9 21), .ref (γ 9 22), .int p627856, .int p627857, .int p627858, .int p627859, .int p627860, .ref q627848, .ref (γ 9 29), .int p627861, .ref (γ 9 31), .int p627862, .int p627863, .int p627864, .ref q627849]) := (n627931 q587500 (rn_oo he627924 he627925 (by decide))).trans he627924
                              have he627934 : F627929 q627797 = .inr (20, [.int 23, .int p627908, .int p627909, .int p627910, .int z627726, .int p627912, .int p627913]) := e627930
                              have mk627935 : mKp (F587499 q587500) (F627929 q587500) := mKp_tr mk627926 (mKp_eq (n627931 q587500 (rn_ty ht627830 ht627901 (by decide))))
                              have n627936 : ∀ b, b ≠ q627797 → F627929 b = F627796 b := fun b hb => (n627931 b hb).trans (n627922 b hb)
                              have kp627937 : F627929 (γ0 9 3) = F587499 (γ0 9 3) := (n627931 (γ0 9 3) (rn_ty (rSk_k hs627826 k0_3 (by decide) (by decide)) ht627901 (by decide))).trans kp627927
                              have kp627938 : F627929 (γ0 9 19) = F622564 (γ0 9 19) := (n627931 (γ0 9 19) (rn_ty (rSk_k hs627826 k0_19 (by decide) (by decide)) ht627901 (by decide))).trans kp627928
                              refine G_aload 0 dr_cX17_spill_389 rfl ?_
                              refine G_aload 7 dr_cX17_spill_391 rfl ?_
                              refine Gp_get 1 hm627845 he627932 dr_cX17_spill_393 (gk_X15 D I) (Nat.le_of_ble_eq_true rfl) wr_9_182 rfl ?_
                              refine Gp_put 2 hm627905 he627934 dr_cX17_spill_396 (gk_X15 D I) (Nat.le_of_ble_eq_true rfl) wr_9_186 rfl rfl rfl (Nat.le_of_ble_eq_true rfl) (fun F627939 e627940 n627941 => ?_)
                              have he627942 : F627939 q627600 = .inr (20, [.int p627686, .int p627644, .int p627688, .int p627689, .int p627690, .int p627691, .int p627692]) := (n627941 q627600 (rn_ty ht627835 ht627901 (by decide))).trans he627932
                              have he627943 : F627939 q587500 = .inr (22, [.ref (γ 9 0), .ref (γ 9 1), .ref (γ 9 2), .ref (γ 9 3), .ref (γ 9 4), .ref (γ 9 5), .ref (γ 9 6), .ref (γ 9 7), .ref (γ 9 8), .int p627850, .int p627851, .int p627852, .int p627853, .int p627854, .int p627855, .ref (γ 9 15), .ref (γ 9 16), .ref (γ 9 17), .ref (γ 9 18), .ref (γ 9 19), .ref (γ 9 20), .ref (γ 9 21), .ref (γ 9 22), .int p627856, .int p627857, .int p627858, .int p627859, .int p627860, .ref q627848, .ref (γ 9 29), .int p627861, .ref (γ 9 31), .int p627862, .int p627863, .int p627864, .ref q627849]) := (n627941 q587500 (rn_oo he627933 he627934 (by decide))).trans he627933
                              have he627944 : F627939 q627797 = .inr (20, [.int 23, .int p627908, .int p627644, .int p627910, .int z627726, .int p627912, .int p627913]) := e627940
                              have mk627945 : mKp (F587499 q587500) (F627939 q587500) := mKp_tr mk627935 (mKp_eq (n627941 q587500 (rn_ty ht627830 ht627901 (by decide))))
                              have n627946 : ∀ b, b ≠ q627797 → F627939 b = F627796 b := fun b hb => (n627941 b hb).trans (n627936 b hb)
                              have kp627947 : F627939 (γ0 9 3) = F587499 (γ0 9 3) := (n627941 (γ0 9 3) (rn_ty (rSk_k hs627826 k0_3 (by decide) (by decide)) ht627901 (by decide))).trans kp627937
                              have kp627948 : F627939 (γ0 9 19) = F622564 (γ0 9 19) := (n627941 (γ0 9 19) (rn_ty (rSk_k hs627826 k0_19 (by decide) (by decide)) ht627901 (by decide))).trans kp627938
                              refine G_aload 0 dr_cX17_spill_399 rfl ?_
                              refine G_iconst 1 dr_cX17_spill_401 (by decide +kernel) ?_
                              refine Gp_put 5 hm627905 he627944 dr_cX17_spill_402 (gk_X15 D I) (Nat.le_of_ble_eq_true rfl) wr_9_197 rfl rfl rfl (Nat.le_of_ble_eq_true rfl) (fun F627949 e627950 n627951 => ?_)
                              have he627952 : F627949 q627600 = .inr (20, [.int p627686, .int p627644, .int p627688, .int p627689, .int p627690, .int p627691, .int p627692]) := (n627951 q627600 (rn_ty ht627835 ht627901 (by decide))).trans he627942
                              have he627953 : F627949 q587500 = .inr (22, [.ref (γ 9 0), .ref (γ 9 1), .ref (γ 9 2), .ref (γ 9 3), .ref (γ 9 4), .ref (γ 9 5), .ref (γ 9 6), .ref (γ 9 7), .ref (γ 9 8), .int p627850, .int p627851, .int p627852, .int p627853, .int p627854, .int p627855, .ref (γ 9 15), .ref (γ 9 16), .ref (γ 9 17), .ref (γ 9 18), .ref (γ 9 19), .ref (γ 9 20), .ref (γ 9 21), .ref (γ 9 22), .int p627856, .int p627857, .int p627858, .int p627859, .int p627860, .ref q627848, .ref (γ 9 29), .int p627861, .ref (γ 9 31), .int p627862, .int p627863, .int p627864, .ref q627849]) := (n627951 q587500 (rn_oo he627943 he627944 (by decide))).trans he627943
                              have he627954 : F627949 q627797 = .inr (20, [.int 23, .int p627908, .int p627644, .int p627910, .int z627726, .int 1, .int p627913]) := e627950
                              have mk627955 : mKp (F587499 q587500) (F627949 q587500) := mKp_tr mk627945 (mKp_eq (n627951 q587500 (rn_ty ht627830 ht627901 (by decide))))
                              have n627956 : ∀ b, b ≠ q627797 → F627949 b = F627796 b := fun b hb => (n627951 b hb).trans (n627946 b hb)
                              have kp627957 : F627949 (γ0 9 3) = F587499 (γ0 9 3) := (n627951 (γ0 9 3) (rn_ty (rSk_k hs627826 k0_3 (by decide) (by decide)) ht627901 (by decide))).trans kp627947
                              have kp627958 : F627949 (γ0 9 19) = F622564 (γ0 9 19) := (n627951 (γ0 9 19) (rn_ty (rSk_k hs627826 k0_19 (by decide) (by decide)) ht627901 (by decide))).trans kp627948
                              obtain ⟨z627959, hz627959⟩ : ∃ z : Int32, z = g627599 + Int32.ofInt 1 := ⟨_, rfl⟩
                              have ez627959 : z627959.toInt = g627599.toInt + 1 := gI_inc hz627959 (by decide) bg627599 (by decide) (by decide)
                              have bz627959 : gB z627959 1 1000002 := ⟨by omega, by omega⟩
                              refine G_iinc (L' := [(4, .int z627959), (9, .ref q627797), (8, .int z627726), (0, .ref q587500), (1, .ref q587501), (2, .int g625833), (3, .ref q625974), (5, .ref q627600)]) z627959 6 dr_cX17_spill_405 rfl hz627959.symm (Nat.le_of_ble_eq_true rfl) rfl ?_
                              refine G_aload_n 6 dr_cX17_spill_408 rfl ?_
                              have hT627960 : RS D I P627795 F627949 γ el := RS_set hT627825 n627956 ht627901 (by decide) ⟨23, p627908, p627644, p627910, z627726, 1, p627913, he627954, (gB_w (gBl (show Int32.toInt 23 = 23 by decide)) (by decide) (by decide)), bp627908, bz627726', (gB_w (gBl (show Int32.toInt 1 = 1 by decide)) (by decide) (by decide)), (gB_w bp627913' (by decide) (by decide)), (Or.inr (by decide)), (Or.inr bp627644'), (gHe r627916)⟩
                              have hs627962 := rSk_put hs627826 hT627960 n627956 ht627901 (by decide) (by decide)
                              have hm627963 : q625974 ∈ P627795 := RS_m hT627960 ht627833 (by decide)
                              obtain ⟨q627965, q627966, p627967, p627968, he627964, ht627975, ht627969, ht627970, ht627971, ht627972, ht627973, bp627967, bp627968, r627974, r627976, r627977⟩ := show rk_2 γ q625974 (F627949 q625974) from RS_o hT627960 ht627833
                              have hf627978 : γ 1 q627965 = f := (show γ 1 q627965 = γ 1 q625974 from ht627970).trans hf627834
                              have hf627979 : γ 1 q627966 = f := (show γ 1 q627966 = γ 1 q625974 from ht627972).trans hf627834
                              have r627980 : γ 6 (γ 1 q625974) = γ 6 f := by rw [hf627834]
                              have r627981 : γ 7 (γ 1 q625974) = γ 7 f := by rw [hf627834]
                              have r627982 : γ 19 (γ 1 q625974) = γ 19 f := by rw [hf627834]
                              have r627983 := r627974.resolve_left (by omega)
                              clear r627974
                              have r627984 : γ 2 (γ 14 q625974) = γ 2 q627965 := by rw [ht627975.1]
                              refine Gp_get 0 hm627963 he627964 dr_cX17_spill_409 (gk_X12 D I) (Nat.le_of_ble_eq_true rfl) wr_9_220 rfl ?_
                              refine G_iload 0 dr_cX17_spill_412 rfl ?_
                              refine G_aload 1 dr_cX17_spill_414 rfl ?_
                              have pl627985 := rPl_fr hT627825 ht627831 hf627832 pl627804 (fun b hb _ => n627956 b (rn_ty (show rKd γ b 1 from hb) ht627901 (by decide)))
                              have rg627986 := rM_ge hT627960 ht627831 hf627832
                              have rm627987 := rM_bd hB627900
                              have bd627988 := rBd_c hT627960 ht627831 hf627832 hB627900
                              have rc627989 := rc_at hT627960 ht627831 hf627832
                              have r627991 : γ 14 (el (γ 14 q587501) g625833.toInt.toNat) = q627965 := by rw [r627843]; exact ht627975.1
                              have r627992 := rg627986.2.2 _ r627842
                              rw [r627991] at r627992
                              have r627993 := bd627988.2.2.2 _ r627842
                              rw [r627991] at r627993
                              have r627994 : γ 7 (γ 1 q627797) = γ 7 f := by rw [x1627807]
                              have hx627995 : rk_1 γ q627797 (F627949 q627797) := ⟨23, p627908, p627644, p627910, z627726, 1, p627913, he627954, (gB_w (gBl (show Int32.toInt 23 = 23 by decide)) (by decide) (by decide)), bp627908, bz627726', (gB_w (gBl (show Int32.toInt 1 = 1 by decide)) (by decide) (by decide)), (gB_w bp627913' (by decide) (by decide)), (Or.inr (by decide)), (Or.inr bp627644'), (gHe r627916), (Or.inr (by omega)), (Or.inl x22627808)⟩
                              refine Gt_ins (c := q587501) (f := f) hl0 dr_cX17_spill_416 ⟨wr_10_207, wr_1_18, wr_10_210, by decide, rfl, (Nat.le_of_ble_eq_true rfl), (Nat.le_of_ble_eq_true rfl)⟩ wr_10_208 wr_10_209 hT627960 ht627969 hf627978 ht627901 x1627807 x22627808 r627902 (by omega) ht627831 hf627832 r627842 r627991 hx627995 (by omega) (by omega) (Nat.le_trans r627993 (Nat.le_trans hBk (by decide))) (rm_cs hph627903 r627992 rm627987 (by decide)) (rm_sl hph627903 r627992 rm627987 rm_s11) (Nat.le_of_ble_eq_true rfl) (fun P627996 F627990 γ el dc627997 ds627998 hq627999 => ?_)
                              have pl628000 := sp_ins (j1 := ((g627599.toInt : Int).toNat + 1) + 1) hT627960 ht627831 hf627832 hq627999 r627991 (tn_lt (by omega) (by omega)) (tn_le0 (by omega) (by omega)) (by rw [(show z627959.toInt.toNat = ((g627599.toInt : Int).toNat + 1) from tn_eq1 (by omega) (by omega))]; exact pl627985) (nm_sto he627954 (by decide)).1 (nm_sto he627954 (by decide)).2 (tn_ge (show 100 ≤ p627644.toInt by omega)) (congrArg (fun k => k + 1) (show z627959.toInt.toNat = ((g627599.toInt : Int).toNat + 1) from tn_eq1 (by omega) (by omega)).symm)
                              obtain ⟨hk628001, x0628002, h2628003, hel628004, hot628005, h16628006, h18628007, hnu628008, hFx628009, hr628010, hM628011, hBB628012⟩ := hq627999
                              have hk628013 := rSk_of hk628001
                              have r628014 : (fI (F627990 q587501) 3).toInt = (fI (F627949 q587501) 3).toInt := by rw [rSk_F hk628013 ht627831 (by decide) (by decide)]
                              obtain ⟨nu628015, nu628016, nu628017, nu628018⟩ := hnu628008
                              have hT628019 := hk628013.1
                              have hs628020 := rSk_tr hs627962 hk628013 (by decide) (by decide) (by decide)
                              have kp628021 : F627990 (γ0 9 3) = F587499 (γ0 9 3) := (rSk_F hk628013 (rSk_k hs627962 k0_3 (by decide) (by decide)) (by decide) (by decide)).trans kp627957
                              have kp628022 : F627990 (γ0 9 19) = F622564 (γ0 9 19) := (rSk_F hk628013 (rSk_k hs627962 k0_19 (by decide) (by decide)) (by decide) (by decide)).trans kp627958
                              have r628023 := rSk_F hk628013 ht627830 (by decide) (by decide)
                              have ht628024 : rKd γ q587500 10 := rSk_k hk628013 ht627830 (by decide) (by decide)
                              have ht628025 : rKd γ q587501 9 := rSk_k hk628013 ht627831 (by decide) (by decide)
                              have hf628026 : γ 1 q587501 = f := rSk_1 hk628013 ht627831 (by decide) hf627832
                              have ht628027 : rKd γ q625974 2 := rSk_k hk628013 ht627833 (by decide) (by decide)
                              have hf628028 : γ 1 q625974 = f := rSk_1 hk628013 ht627833 (by decide) hf627834
                              have ht628029 : rKd γ q627600 1 := rSk_k hk628013 ht627835 (by decide) (by decide)
                              have hf628030 : γ 1 q627600 = f := rSk_1 hk628013 ht627835 (by decide) hf627836
                              have ht628031 : rKd γ q627752 3 := rSk_k hk628013 ht627837 (by decide) (by decide)
                              have hf628032 : γ 1 q627752 = f := rSk_1 hk628013 ht627837 (by decide) hf627838
                              have ht628033 : rKd γ q627965 3 := rSk_k hk628013 ht627969 (by decide) (by decide)
                              have hf628034 : γ 1 q627965 = f := rSk_1 hk628013 ht627969 (by decide) hf627978
                              have mk628035 : mKp (F587499 q587500) (F627990 q587500) := mKp_tr mk627955 (mKp_eq (rSk_F hk628013 ht627830 (by decide) (by decide)))
                              have r628036 := (rSk_s hk628013 ht627831 (by decide)).2.1
                              have r628037 := hot628005 _ (by rw [rc627989.2.1]; decide) (fun q => by rw [q, show _ = 3 from ht627969] at rc627989; exact absurd rc627989.2.1 (by decide))
                              have r628038 : g625833.toInt.toNat < γ 2 (γ 14 q587501) := by rw [r628036, r628037.1]; exact r627842
                              have r628039 : el (γ 14 q587501) g625833.toInt.toNat = q625974 := by rw [r628036, r628037.2]; exact r627843
                              have he628040 : F627990 q627600 = .inr (20, [.int p627686, .int p627644, .int p627688, .int p627689, .int p627690, .int p627691, .int p627692]) := (rSk_F hk628013 ht627835 (by decide) (by decide)).trans he627952
                              have hm628041 : q627600 ∈ P627996 := RS_m hT628019 ht628029 (by decide)
                              clear bp627907 bp627908 bp627911 bp627912 bp627913 bp627909 bp627910 bp627967 bp627968 r627976 r627977 rg627986 rm627987 bd627988 rc627989 r627992 r627993
                              clear r627914 r627915 r627916
                              have hm628042 : q587500 ∈ P627996 := RS_m hT628019 ht628024 (by decide)
                              refine rk10_e (show rk_10 γ (F627990 q587500) from RS_o hT628019 ht628024) (fun q628044 q628045 p628046 p628047 p628048 p628049 p628050 p628051 p628052 p628053 p628054 p628055 p628056 p628057 p628058 p628059 p628060 he628043 hB628087 ht628061 ht628062 ht628063 ht628064 ht628065 ht628066 ht628067 ht628068 ht628069 ht628070 ht628071 ht628072 ht628073 ht628074 ht628075 ht628076 ht628077 ht628078 ht628079 ht628080 ht628081 ht628082 ht628083 ht628084 hB628088 => ?_)
                              have r628089 : p628048.toInt = p627852.toInt := by have z : p628048 = p627852 := congrArg (fun e => fI e 11) (he628043.symm.trans (r628023.trans he627953)); rw [z]
                              have bp628048 : gB p628048 0 100 := (hB628087.2.2.1)
                              have r628090 : p628051.toInt = p627855.toInt := by have z : p628051 = p627855 := congrArg (fun e => fI e 14) (he628043.symm.trans (r628023.trans he627953)); rw [z]
                              have bp628051 : gB p628051 0 2000 := (hB628087.2.2.2.1)
                              have bp628051' : gB p628051 1 2000 := ⟨by omega, by omega⟩
                              first | have sz628091 := (hot628005 q627752 (rT0 ht627837 (by decide)) (by assumption)).1 | skip
                              have ht628092 : rKd γ q627797 1 := x0628002
                              have hB628093 : rBd γ el f B := hBB628012 B hB627900
                              have hph628094 : rPh γ0 el0 f ≤ rPh γ el f := rm_ph hph627903 hr628010.2
                              have pk628095 : rPh γ el f ≤ 387 * B + 6000 := rm_pk (rM_ge hT628019 ht628025 hf628026).1 (rM_bd hB628093)
                              refine G_widen (cs' := ((rPh γ el f - rPh γ0 el0 f) / 18)) (sl' := (rPh γ el f - rPh γ0 el0 f)) (rm_wc hph627903 hr628010.1) (rm_ws hph627903 hr628010.2) ?_
                              have r628096 : γ 14 q625974 = q627965 := ((rSk_s (rSk_of hk628001) ht627833 (by decide)).2.1).trans ht627975.1
                              have sz628097 : γ 2 (γ 14 q625974) = γ 2 q627965 := by rw [r628096]
                              obtain ⟨z628098, hz628098⟩ : ∃ z : Int32, z = z627959 + Int32.ofInt 1 := ⟨_, rfl⟩
                              have ez628098 : z628098.toInt = z627959.toInt + 1 := gI_inc hz628098 (by decide) bz627959 (by decide) (by decide)
                              have bz628098 : gB z628098 2 1000003 := ⟨by omega, by omega⟩
                              refine G_iinc (L' := [(4, .int z628098), (9, .ref q627797), (8, .int z627726), (0, .ref q587500), (1, .ref q587501), (2, .int g625833), (3, .ref q625974), (5, .ref q627600)]) z628098 0 dr_cX17_spill_419 rfl hz628098.symm (Nat.le_of_ble_eq_true rfl) rfl ?_
                              refine G_goto 90 dr_cX17_spill_422 (by decide +kernel) ?_
                              refine G_lv (L' := [(4, .int z628098), (3, .ref q625974), (2, .int g625833), (0, .ref q587500), (1, .ref q587501)]) [0, 6, 5, 3, 4] rfl ?_
                              have ac628099 : (fI (F627990 q587500) 11).toInt = p628048.toInt := by rw [he628043]; rfl
                              have ac628100 : (fI (F627990 q587500) 14).toInt = p628051.toInt := by rw [he628043]; rfl
                              exact ih90_627500 P627996 F627990 γ el z628098 (gB_w bz628098 (by decide) (by decide)) hT628019 hs628020 hph628094 hB628093 ht628027 hf628028 r628038 r628039 (by omega) (by omega) (by omega) (by omega) (by omega) (by omega) kp628022 (by rw [(show (z628098.toInt : Int).toNat = (((g627599.toInt : Int).toNat + 1) + 1) from tn_eq2 (by omega) (by omega))]; exact pl628000) (by omega) (by omega) kp628021 mk628035 (ms_g x627625 (by omega) (by omega) (by omega))
                            · have r628101 : p627644.toInt = 2000 := gj_eq hc627733 (show Int32.toInt 2000 = 2000 by decide)
                              have bp627644' : gB p627644 2000 2000 := ⟨by omega, by omega⟩
                              refine G_iconst 0 dr_cX17_spill_348 (by decide +kernel) ?_
                              exact G_zretA FieldType.boolean dr_cX17_spill_349 rfl rfl (rm_zc pk627633) (rm_zs pk627633) ⟨P627601, F627602, γ, el, 0, rfl, rfl, hs627604, (rm_pp hph627605), hB627606, (gB_w (gBl (show Int32.toInt 0 = 0 by decide)) (by decide) (by decide)), (by have qa0 : Int32.toInt 0 = 0 := (by decide); omega), (Or.inl (by decide)), x627627, x627628⟩
                          · have r628102 : z627726.toInt < 0 := gj_nleL hc627730 (show Int32.toInt 0 = 0 by decide)
                            have bz627726' : gB z627726 (-1) (-1) := ⟨by omega, by omega⟩
                            refine G_goto 419 dr_cX17_spill_323 (by decide +kernel) ?_
                            have rn628104 : rNx (nSp (cB (F587499 (γ0 9 3))) (cB (F622564 (γ0 9 19)))) (F627602 q627600) := rS2_n he627685 he627685 x627622 (fun _ => Or.inr ⟨rfl, Or.inr (by omega)⟩)
                            have pl628103 := sp_fin x627620 x627621 rn628104 (rfl : (g627599.toInt : Int).toNat + 1 = (g627599.toInt : Int).toNat + 1)
                            obtain ⟨z628105, hz628105⟩ : ∃ z : Int32, z = g627599 + Int32.ofInt 1 := ⟨_, rfl⟩
                            have ez628105 : z628105.toInt = g627599.toInt + 1 := gI_inc hz628105 (by decide) bg627599 (by decide) (by decide)
                            have bz628105 : gB z628105 1 1000002 := ⟨by omega, by omega⟩
                            refine G_iinc (L' := [(4, .int z628105), (0, .ref q587500), (1, .ref q587501), (2, .int g625833), (3, .ref q625974), (5, .ref q627600)]) z628105 4 dr_cX17_spill_419 rfl hz628105.symm (Nat.le_of_ble_eq_true rfl) rfl ?_
                            refine G_goto 90 dr_cX17_spill_422 (by decide +kernel) ?_
                            refine G_lv (L' := [(4, .int z628105), (3, .ref q625974), (2, .int g625833), (0, .ref q587500), (1, .ref q587501)]) [0, 4, 3, 1, 2] rfl ?_
                            have ac628106 : (fI (F627602 q587500) 11).toInt = p627641.toInt := by rw [he627636]; rfl
                            have ac628107 : (fI (F627602 q587500) 14).toInt = p627644.toInt := by rw [he627636]; rfl
                            exact ih90_627500 P627601 F627602 γ el z628105 (gB_w bz628105 (by decide) (by decide)) hT627603 hs627604 hph627605 hB627606 ht627607 hf627608 r627609 r627610 (by omega) (by omega) (by omega) (by omega) (by omega) (by omega) x627619 (by rw [(show (z628105.toInt : Int).toNat = ((g627599.toInt : Int).toNat + 1) from tn_eq1 (by omega) (by omega))]; exact pl628103) (by omega) (by omega) x627627 x627628 (ms_g x627625 (by omega) (by omega) (by omega))
                    have jn236_628139 : ∀ (P628112 : List Nat) (F628113 : Nat → va_E) (γ el : Nat → Nat → Nat) (g628108 : Int32) (q628109 : Nat) (g628110 : Int32) (g628111 : Int32), gB g628108 0 1000001 → gB g628110 (-1) 1999 → gB g628111 (-1) 1999 → RS D I P628112 F628113 γ el → rSk f [101] ([1, 3, 5, 6, 8, 9, 101] ++ npk) D I P587498 F587499 γ0 el0 P628112 F628113 γ el → rPh γ0 el0 f ≤ rPh γ el f → rBd γ el f B → rKd γ q625974 2 → γ 1 q625974 = f → g625833.toInt.toNat < γ 2 (γ 14 q587501) → el (γ 14 q587501) g625833.toInt.toNat = q625974 → rKd γ q628109 1 → γ 1 q628109 = f → γ 6 f = γ0 6 f → γ 18 f = γ0 18 f → ((γ 7 f : Nat) : Int) = (fI (F628113 q587500) 11).toInt → (fI (F628113 q587500) 11).toInt = (fI (F622564 q587500) 11).toInt → ((γ 16 f : Nat) : Int) + 2001 ≤ (B : Int) + (fI (F628113 q587500) 14).toInt → 100 ≤ (fI (F628113 q587500) 14).toInt → (F628113 (γ0 9 19) = F622564 (γ0 9 19)) → rPl γ el F628113 q587501 (γ 6 f) (spX (cB (F587499 (γ0 9 3))) (cB (F622564 (γ0 9 19))) (g625833.toInt : Int).toNat (g628108.toInt : Int).toNat) → rAt γ el q587501 (g625833.toInt : Int).toNat (g628108.toInt : Int).toNat = q628109 → rS1 (cB (F587499 (γ0 9 3))) (cB (F622564 (γ0 9 19))) (F628113 q628109) g628110.toInt g628111.toInt → (g628108.toInt : Int) ≤ γ 2 (γ 14 q625974) → (g625833.toInt : Int) < γ 6 f → (γ 2 (γ 14 q625974) + 1 - (g628108.toInt : Int).toNat) < n90_627500 + 1 → eO g628108.toInt (γ 2 (γ 14 q625974) : Nat) (fI (F628113 q628109) 0).toInt → (F628113 (γ0 9 3) = F587499 (γ0 9 3)) → mKp (F587499 q587500) (F628113 q587500) → G (gV D I) l (gRm 9 195 (((387 * B + 6000) - rPh γ0 el0 f) / 18) ((387 * B + 6000) - rPh γ0 el0 f)) (gMA (gV D I) (pg_587508_SpillForgeModel_spill D I γ0 el0 f B P587498 F587499 q587500 q587501) gNA (((387 * B + 6000) - rPh γ0 el0 f) / 18) ((387 * B + 6000) - rPh γ0 el0 f)) ky_587508_SpillForgeModel_spill 236 [(0, .ref q587500), (1, .ref q587501), (2, .int g625833), (3, .ref q625974), (4, .int g628108), (5, .ref q628109), (6, .int g628110), (7, .int g628111)] [] (va_pl P628112 F628113) ((rPh γ el f - rPh γ0 el0 f) / 18) (rPh γ el f - rPh γ0 el0 f) := by
                      intro P628112 F628113 γ el g628108 q628109 g628110 g628111 bg628108 bg628110 bg628111 hT628114 hs628115 hph628116 hB628117 ht628118 hf628119 r628120 r628121 ht628122 hf628123 x628124 x628125 x628126 x628127 x628128 x628129 x628130 x628131 x628132 x628133 x628134 x628135 x628136 x628137 x628138 x628139
                      clear bp627560 bp627561 r627569 r627570 r627573 r627574 r627575 r627576 r627577 r627583 r627584 r627585 r627587 r627586
                      have ht628141 : rKd γ q587500 10 := rSk_k hs628115 hzq587500 (by decide) (by decide)
                      have ht628142 : rKd γ q587501 9 := rSk_k hs628115 hzq587501 (by decide) (by decide)
                      have hf628143 : γ 1 q587501 = f := rSk_1 hs628115 hzq587501 (by decide) hf0
                      have pk628144 : rPh γ el f ≤ 387 * B + 6000 := rm_pk (rM_ge hT628114 ht628142 hf628143).1 (rM_bd hB628117)
                      have r628145 : 0 < γ 6 (γ 1 q587501) := by rw [hf628143]; omega
                      have hm628146 : q587500 ∈ P628112 := RS_m hT628114 ht628141 (by decide)
                      refine rk10_e (show rk_10 γ (F628113 q587500) from RS_o hT628114 ht628141) (fun q628148 q628149 p628150 p628151 p628152 p628153 p628154 p628155 p628156 p628157 p628158 p628159 p628160 p628161 p628162 p628163 p628164 he628147 hB628191 ht628165 ht628166 ht628167 ht628168 ht628169 ht628170 ht628171 ht628172 ht628173 ht628174 ht628175 ht628176 ht628177 ht628178 ht628179 ht628180 ht628181 ht628182 ht628183 ht628184 ht628185 ht628186 ht628187 ht628188 hB628192 => ?_)
                      have ac628193 : (fI (F628113 q587500) 11).toInt = p628152.toInt := by rw [he628147]; rfl
                      have bp628152 : gB p628152 0 100 := (hB628191.2.2.1)
                      have ac628194 : (fI (F628113 q587500) 14).toInt = p628155.toInt := by rw [he628147]; rfl
                      have bp628155 : gB p628155 0 2000 := (hB628191.2.2.2.1)
                      have hm628195 : q628109 ∈ P628112 := RS_m hT628114 ht628122 (by decide)
                      obtain ⟨p628197, p628198, p628199, p628200, p628201, p628202, p628203, he628196, bp628197, bp628198, bp628201, bp628202, bp628203, r628204, r628205, r628206, r628207, r628208⟩ := show rk_1 γ q628109 (F628113 q628109) from RS_o hT628114 ht628122
                      have bp628199 := gB_any p628199
                      have bp628200 := gB_any p628200
                      replace r628204 : gH _ := r628204
                      replace r628205 : gH _ := r628205
                      replace r628206 : gH _ := r628206
                      replace r628207 : gH _ := r628207
                      replace r628208 : gH _ := r628208
                      have r628209 : γ 7 (γ 1 q628109) = γ 7 f := by rw [hf628123]
                      refine G_iload 7 dr_cX17_spill_236 rfl ?_
                      refine G_if_lt 292 dr_cX17_spill_238 (by decide +kernel) (fun hc628210 => ?_) (fun hc628210 => ?_)
                      · have r628211 : g628111.toInt < 0 := gj_lt hc628210 (show Int32.toInt 0 = 0 by decide)
                        have bg628111' : gB g628111 (-1) (-1) := ⟨by omega, by omega⟩
                        have ac628212 : (fI (F628113 q587500) 11).toInt = p628152.toInt := by rw [he628147]; rfl
                        have ac628213 : (fI (F628113 q587500) 14).toInt = p628155.toInt := by rw [he628147]; rfl
                        refine G_lv (L' := [(0, .ref q587500), (1, .ref q587501), (2, .int g625833), (3, .ref q625974), (4, .int g628108), (5, .ref q628109)]) [0, 1, 2, 3, 4, 5] rfl ?_
                        exact jn292_627628 P628112 F628113 γ el g628108 q628109 bg628108 hT628114 hs628115 hph628116 hB628117 ht628118 hf628119 r628120 r628121 ht628122 hf628123 (by omega) (by omega) (by omega) (by omega) (by omega) (by omega) x628130 (by exact x628131) (by exact x628132) (rS1_2 x628133 (Or.inl (by omega))) (by omega) (by omega) (ms_j x628136 (by omega) (by omega) (by omega)) (eO_j x628137 (by rw [he628196] <;> rfl) (by rw [he628196] <;> rfl) (by omega)) x628138 x628139
                      · have r628214 : 0 ≤ g628111.toInt := gj_nlt hc628210 (show Int32.toInt 0 = 0 by decide)
                        have bg628111' : gB g628111 0 1999 := ⟨by omega, by omega⟩
                        refine G_iload 7 dr_cX17_spill_241 rfl ?_
                        refine G_iload 6 dr_cX17_spill_243 rfl ?_
                        refine G_icmp_eq 292 dr_cX17_spill_245 (by decide +kernel) (fun hc628215 => ?_) (fun hc628215 => ?_)
                        · have r628216 : g628111.toInt = g628110.toInt := gC_eq hc628215
                          have bg628110' : gB g628110 0 1999 := ⟨by omega, by omega⟩
                          have ac628217 : (fI (F628113 q587500) 11).toInt = p628152.toInt := by rw [he628147]; rfl
                          have ac628218 : (fI (F628113 q587500) 14).toInt = p628155.toInt := by rw [he628147]; rfl
                          refine G_lv (L' := [(0, .ref q587500), (1, .ref q587501), (2, .int g625833), (3, .ref q625974), (4, .int g628108), (5, .ref q628109)]) [0, 1, 2, 3, 4, 5] rfl ?_
                          exact jn292_627628 P628112 F628113 γ el g628108 q628109 bg628108 hT628114 hs628115 hph628116 hB628117 ht628118 hf628119 r628120 r628121 ht628122 hf628123 (by omega) (by omega) (by omega) (by omega) (by omega) (by omega) x628130 (by exact x628131) (by exact x628132) (rS1_2 x628133 (Or.inr (Or.inl (by omega)))) (by omega) (by omega) (ms_j x628136 (by omega) (by omega) (by omega)) (eO_j x628137 (by rw [he628196] <;> rfl) (by rw [he628196] <;> rfl) (by omega)) x628138 x628139
                        · have r628219 : g628111.toInt ≠ g628110.toInt := gC_ne hc628215
                          refine G_aload_n 0 dr_cX17_spill_248 rfl ?_
                          refine Gp_get 19 hm628146 he628147 dr_cX17_spill_249 (gk_X17 D I) (Nat.le_of_ble_eq_true rfl) wr_7_93 rfl ?_
                          refine G_iload 7 dr_cX17_spill_252 rfl ?_
                          have hm628220 : (γ 9 19) ∈ P628112 := RS_m hT628114 ht628180 (by decide)
                          obtain ⟨f628222, he628221, bf628222⟩ := show rk_21 I (F628113 (γ 9 19)) from RS_o hT628114 ht628180
                          refine Gp_iald 0 hm628220 he628221 dr_cX17_spill_254 rfl (gB_in bg628111' (by decide) (by decide)) (G_nam fun z628223 hz628223 => ?_)
                          have bz628223 : gB z628223 (-1) 1999 := by rw [hz628223]; exact bf628222 _
                          have c9_628224 : cB (F622564 (γ0 9 19)) = f628222 := by rw [← x628130, ← congrFun (rSk_9 hs628115) 19]; exact cB_of he628221
                          have hs628225 : (cB (F622564 (γ0 9 19)) g628111.toInt.toNat).toInt = z628223.toInt := by rw [c9_628224, hz628223]; rfl
                          refine G_if_lt 292 dr_cX17_spill_255 (by decide +kernel) (fun hc628227 => ?_) (fun hc628227 => ?_)
                          · have r628228 : z628223.toInt < 0 := gj_lt hc628227 (show Int32.toInt 0 = 0 by decide)
                            have bz628223' : gB z628223 (-1) (-1) := ⟨by omega, by omega⟩
                            have ac628229 : (fI (F628113 q587500) 11).toInt = p628152.toInt := by rw [he628147]; rfl
                            have ac628230 : (fI (F628113 q587500) 14).toInt = p628155.toInt := by rw [he628147]; rfl
                            refine G_lv (L' := [(0, .ref q587500), (1, .ref q587501), (2, .int g625833), (3, .ref q625974), (4, .int g628108), (5, .ref q628109)]) [0, 1, 2, 3, 4, 5] rfl ?_
                            exact jn292_627628 P628112 F628113 γ el g628108 q628109 bg628108 hT628114 hs628115 hph628116 hB628117 ht628118 hf628119 r628120 r628121 ht628122 hf628123 (by omega) (by omega) (by omega) (by omega) (by omega) (by omega) x628130 (by exact x628131) (by exact x628132) (rS1_2 x628133 (Or.inr (Or.inr (by omega)))) (by omega) (by omega) (ms_j x628136 (by omega) (by omega) (by omega)) (eO_j x628137 (by rw [he628196] <;> rfl) (by rw [he628196] <;> rfl) (by omega)) x628138 x628139
                          · have r628231 : 0 ≤ z628223.toInt := gj_nlt hc628227 (show Int32.toInt 0 = 0 by decide)
                            have bz628223' : gB z628223 0 1999 := ⟨by omega, by omega⟩
                            refine G_aload_n 0 dr_cX17_spill_258 rfl ?_
                            refine G_aload_n 1 dr_cX17_spill_259 rfl ?_
                            refine G_aload_n 3 dr_cX17_spill_260 rfl ?_
                            refine G_iload 4 dr_cX17_spill_261 rfl ?_
                            refine G_aload_n 0 dr_cX17_spill_263 rfl ?_
                            refine Gp_get 19 hm628146 he628147 dr_cX17_spill_264 (gk_X17 D I) (Nat.le_of_ble_eq_true rfl) wr_7_93 rfl ?_
                            refine G_iload 7 dr_cX17_spill_267 rfl ?_
                            refine Gp_iald 0 hm628220 he628221 dr_cX17_spill_269 rfl (gB_in bg628111' (by decide) (by decide)) (G_eqi (y := z628223) hz628223.symm ?_)
                            have hm628232 : q625974 ∈ P628112 := RS_m hT628114 ht628118 (by decide)
                            obtain ⟨q628234, q628235, p628236, p628237, he628233, ht628244, ht628238, ht628239, ht628240, ht628241, ht628242, bp628236, bp628237, r628243, r628245, r628246⟩ := show rk_2 γ q625974 (F628113 q625974) from RS_o hT628114 ht628118
                            have hf628247 : γ 1 q628234 = f := (show γ 1 q628234 = γ 1 q625974 from ht628239).trans hf628119
                            have hf628248 : γ 1 q628235 = f := (show γ 1 q628235 = γ 1 q625974 from ht628241).trans hf628119
                            have r628249 : γ 6 (γ 1 q625974) = γ 6 f := by rw [hf628119]
                            have r628250 : γ 7 (γ 1 q625974) = γ 7 f := by rw [hf628119]
                            have r628251 : γ 19 (γ 1 q625974) = γ 19 f := by rw [hf628119]
                            have r628252 := r628243.resolve_left (by omega)
                            clear r628243
                            have r628253 : γ 2 (γ 14 q625974) = γ 2 q628234 := by rw [ht628244.1]
                            have hm628254 : q628234 ∈ P628112 := RS_m hT628114 ht628238 (by decide)
                            obtain ⟨⟨p628256, p628257, q628258, he628255, r628259, r628260, r628261, r628263⟩, r628262⟩ := show rk_3 D I γ el F628113 q628234 from RS_o hT628114 ht628238
                            have bp628256 := gB_any p628256
                            have bp628257 : gB p628257 0 1000000 := ⟨by omega, by omega⟩
                            have r628264 := (spi622649.2.2.2 g628111.toInt.toNat (tn_lt (by omega) (by omega)) (by omega)).2.2
                            have ac628265 : (fI (F628113 q587500) 11).toInt = p628152.toInt := by rw [he628147]; rfl
                            have ac628266 : (fI (F628113 q587500) 14).toInt = p628155.toInt := by rw [he628147]; rfl
                            have rg628267 := rM_ge hT628114 ht628142 hf628143
                            have rm628268 := rM_bd hB628117
                            have bd628269 := rBd_c hT628114 ht628142 hf628143 hB628117
                            have rc628270 := rc_at hT628114 ht628142 hf628143
                            refine Gw_callV (As := [.ref q587501, .ref q625974, .int g628108, .int z628223]) (gV_ok D I) (cg_407264_SpillForgeModel_load l hl0 D I γ el f B P628112 F628113 q587500 q587501 q625974 g628108 z628223 g625833.toInt.toNat hT628114 ht628141 ht628142 ht628118 hf628143 hB628117 hBk r628120 r628121 hf628119 ⟨by omega, by omega⟩ bz628223' (by omega) (by omega) (by omega) (by omega) (by omega)) dr_cX17_spill_270 ⟨wr_11_67, wr_1_14, wr_11_70, by decide, rfl, (Nat.le_of_ble_eq_true rfl), (Nat.le_of_ble_eq_true rfl)⟩ wr_11_69 wr_p_111 hm628146 he628147 rfl (rm_gc hph628116 pk628144) (rm_gs hph628116 pk628144) (Nat.le_of_ble_eq_true rfl) (fun r628274 w628275 dc628271 ds628272 hp628273 => ?_) (fun _ _ _ _ _ z => z.elim)
                            obtain ⟨P628286, F628287, γ, el, o628276, rfl, rfl, hk628288, ⟨hr628289, hr628290⟩, hB628291, bo628276, x628277, x628278, x628279, x628280, x628281, x628282, x628283, x628284, x628285⟩ := hp628273
                            have hT628292 := hk628288.1
                            have hs628293 := rSk_tr hs628115 hk628288 (by decide) (by decide) (by decide)
                            have kp628294 : F628287 (γ0 9 3) = F587499 (γ0 9 3) := (rSk_F hk628288 (rSk_k hs628115 k0_3 (by decide) (by decide)) (by decide) (by decide)).trans x628138
                            have kp628295 : F628287 (γ0 9 19) = F622564 (γ0 9 19) := (rSk_F hk628288 (rSk_k hs628115 k0_19 (by decide) (by decide)) (by decide) (by decide)).trans x628130
                            have ht628296 : rKd γ q587500 10 := rSk_k hk628288 ht628141 (by decide) (by decide)
                            have ht628297 : rKd γ q587501 9 := rSk_k hk628288 ht628142 (by decide) (by decide)
                            have hf628298 : γ 1 q587501 = f := rSk_1 hk628288 ht628142 (by decide) hf628143
                            have ht628299 : rKd γ q625974 2 := rSk_k hk628288 ht628118 (by decide) (by decide)
                            have hf628300 : γ 1 q625974 = f := rSk_1 hk628288 ht628118 (by decide) hf628119
                            have ht628301 : rKd γ q628109 1 := rSk_k hk628288 ht628122 (by decide) (by decide)
                            have hf628302 : γ 1 q628109 = f := rSk_1 hk628288 ht628122 (by decide) hf628123
                            have ht628303 : rKd γ q628234 3 := rSk_k hk628288 ht628238 (by decide) (by decide)
                            have hf628304 : γ 1 q628234 = f := rSk_1 hk628288 ht628238 (by decide) hf628247
                            have he628305 : F628287 q628109 = .inr (20, [.int p628197, .int p628198, .int p628199, .int p628200, .int p628201, .int p628202, .int p628203]) := (rSk_F hk628288 ht628122 (by decide) (by decide)).trans he628196
                            have hm628306 : q628109 ∈ P628286 := RS_m hT628292 ht628301 (by decide)
                            clear bp628236 bp628237 r628245 r628246 rg628267 rm628268 bd628269 rc628270
                            have mk628307 : mKp (F587499 q587500) (F628287 q587500) := mKp_tr x628139 x628285
                            have hph628308 : rPh γ0 el0 f ≤ rPh γ el f := rm_ph hph628116 hr628290
                            have pk628309 : rPh γ el f ≤ 387 * B + 6000 := rm_pk (rM_ge hT628292 ht628297 hf628298).1 (rM_bd hB628291)
                            change G _ _ _ _ _ _ _ (.int o628276 :: _) _ _ _
                            refine G_widen (cs' := ((rPh γ el f - rPh γ0 el0 f) / 18)) (sl' := (rPh γ el f - rPh γ0 el0 f)) (rm_wc hph628116 hr628289) (rm_ws hph628116 hr628290) ?_
                            have sz628310 := x628277
                            have r628311 : 0 < γ 6 (γ 1 q587501) := by rw [hf628298]; omega
                            have hm628312 : q587500 ∈ P628286 := RS_m hT628292 ht628296 (by decide)
                            refine rk10_e (show rk_10 γ (F628287 q587500) from RS_o hT628292 ht628296) (fun q628314 q628315 p628316 p628317 p628318 p628319 p628320 p628321 p628322 p628323 p628324 p628325 p628326 p628327 p628328 p628329 p628330 he628313 hB628357 ht628331 ht628332 ht628333 ht628334 ht628335 ht628336 ht628337 ht628338 ht628339 ht628340 ht628341 ht628342 ht628343 ht628344 ht628345 ht628346 ht628347 ht628348 ht628349 ht628350 ht628351 ht628352 ht628353 ht628354 hB628358 => ?_)
                            have ac628359 : (fI (F628287 q587500) 11).toInt = p628318.toInt := by rw [he628313]; rfl
                            have bp628318 : gB p628318 0 100 := (hB628357.2.2.1)
                            have ac628360 : (fI (F628287 q587500) 14).toInt = p628321.toInt := by rw [he628313]; rfl
                            have bp628321 : gB p628321 0 2000 := (hB628357.2.2.2.1)
                            refine G_istore (L' := [(8, .int o628276), (0, .ref q587500), (1, .ref q587501), (2, .int g625833), (3, .ref q625974), (4, .int g628108), (5, .ref q628109), (6, .int g628110), (7, .int g628111)]) dr_cX17_spill_273 (Nat.le_of_ble_eq_true rfl) rfl ?_
                            refine G_iload 0 dr_cX17_spill_275 rfl ?_
                            refine G_if_ge 282 dr_cX17_spill_277 (by decide +kernel) (fun hc628361 => ?_) (fun hc628361 => ?_)
                            · have r628362 : 0 ≤ o628276.toInt := gj_leL hc628361 (show Int32.toInt 0 = 0 by decide)
                              have bo628276' : gB o628276 0 1999 := ⟨by omega, by omega⟩
                              have pl628364 := sp_ld (x628283.resolve_left (by omega)) x628131 (tn_ge (by omega)) (rfl : ((g628108.toInt : Int).toNat + 1) = (g628108.toInt : Int).toNat + 1)
                              have hp628365 : rAt γ el q587501 (g625833.toInt : Int).toNat ((g628108.toInt : Int).toNat + 1) = q628109 := ((x628284.resolve_left (by omega)) (g628108.toInt : Int).toNat (Nat.le_refl _)).trans x628132
                              have r628366 := x628281.resolve_left (by omega)
                              clear x628281 x628283 x628284
                              obtain ⟨z628367, hz628367⟩ : ∃ z : Int32, z = g628108 + Int32.ofInt 1 := ⟨_, rfl⟩
                              have ez628367 : z628367.toInt = g628108.toInt + 1 := gI_inc hz628367 (by decide) bg628108 (by decide) (by decide)
                              have bz628367 : gB z628367 1 1000002 := ⟨by omega, by omega⟩
                              refine G_iinc (L' := [(4, .int z628367), (8, .int o628276), (0, .ref q587500), (1, .ref q587501), (2, .int g625833), (3, .ref q625974), (5, .ref q628109), (6, .int g628110), (7, .int g628111)]) z628367 5 dr_cX17_spill_282 rfl hz628367.symm (Nat.le_of_ble_eq_true rfl) rfl ?_
                              refine G_aload 6 dr_cX17_spill_285 rfl ?_
                              refine G_iload 1 dr_cX17_spill_287 rfl ?_
                              refine Gp_put 3 hm628306 he628305 dr_cX17_spill_289 (gk_X15 D I) (Nat.le_of_ble_eq_true rfl) wr_9_190 rfl rfl rfl (Nat.le_of_ble_eq_true rfl) (fun F628368 e628369 n628370 => ?_)
                              have r628371 := rk1_at hT628292 ht628301 he628305
                              have he628372 : F628368 q587500 = .inr (22, [.ref (γ 9 0), .ref (γ 9 1), .ref (γ 9 2), .ref (γ 9 3), .ref (γ 9 4), .ref (γ 9 5), .ref (γ 9 6), .ref (γ 9 7), .ref (γ 9 8), .int p628316, .int p628317, .int p628318, .int p628319, .int p628320, .int p628321, .ref (γ 9 15), .ref (γ 9 16), .ref (γ 9 17), .ref (γ 9 18), .ref (γ 9 19), .ref (γ 9 20), .ref (γ 9 21), .ref (γ 9 22), .int p628322, .int p628323, .int p628324, .int p628325, .int p628326, .ref q628314, .ref (γ 9 29), .int p628327, .ref (γ 9 31), .int p628328, .int p628329, .int p628330, .ref q628315]) := (n628370 q587500 (rn_oo he628313 he628305 (by decide))).trans he628313
                              have he628373 : F628368 q628109 = .inr (20, [.int p628197, .int p628198, .int p628199, .int o628276, .int p628201, .int p628202, .int p628203]) := e628369
                              have mk628374 : mKp (F587499 q587500) (F628368 q587500) := mKp_tr mk628307 (mKp_eq (n628370 q587500 (rn_ty ht628296 ht628301 (by decide))))
                              have kp628375 : F628368 (γ0 9 3) = F587499 (γ0 9 3) := (n628370 (γ0 9 3) (rn_ty (rSk_k hs628293 k0_3 (by decide) (by decide)) ht628301 (by decide))).trans kp628294
                              have kp628376 : F628368 (γ0 9 19) = F622564 (γ0 9 19) := (n628370 (γ0 9 19) (rn_ty (rSk_k hs628293 k0_19 (by decide) (by decide)) ht628301 (by decide))).trans kp628295
                              have hT628377 : RS D I P628286 F628368 γ el := RS_set hT628292 n628370 ht628301 (by decide) ⟨p628197, p628198, p628199, o628276, p628201, p628202, p628203, he628373, bp628197, bp628198, bp628201, bp628202, bp628203, (gHe r628204), (gHe r628205), (Or.inr bo628276'), r628371.1, r628371.2⟩
                              have hs628379 := rSk_put hs628293 hT628377 n628370 ht628301 (by decide) (by decide)
                              have hm628381 : q625974 ∈ P628286 := RS_m hT628377 ht628299 (by decide)
                              obtain ⟨q628383, q628384, p628385, p628386, he628382, ht628393, ht628387, ht628388, ht628389, ht628390, ht628391, bp628385, bp628386, r628392, r628394, r628395⟩ := show rk_2 γ q625974 (F628368 q625974) from RS_o hT628377 ht628299
                              have hf628396 : γ 1 q628383 = f := (show γ 1 q628383 = γ 1 q625974 from ht628388).trans hf628300
                              have hf628397 : γ 1 q628384 = f := (show γ 1 q628384 = γ 1 q625974 from ht628390).trans hf628300
                              have r628398 : γ 6 (γ 1 q625974) = γ 6 f := by rw [hf628300]
                              have r628399 : γ 7 (γ 1 q625974) = γ 7 f := by rw [hf628300]
                              have r628400 : γ 19 (γ 1 q625974) = γ 19 f := by rw [hf628300]
                              have r628401 := r628392.resolve_left (by omega)
                              clear r628392
                              have r628402 : γ 2 (γ 14 q625974) = γ 2 q628383 := by rw [ht628393.1]
                              have pl628380 := sp_put hT628292 ht628297 hf628298 pl628364 n628370 hp628365 (show (g625833.toInt : Int).toNat < γ 6 f from tn_lt (by omega) (by omega)) (by unfold rwL; rw [x628280.2.2]; exact tn_le1 (by omega) (by omega))
                              have ac628403 : (fI (F628368 q587500) 11).toInt = p628318.toInt := by rw [he628372]; rfl
                              have ac628404 : (fI (F628368 q587500) 14).toInt = p628321.toInt := by rw [he628372]; rfl
                              refine G_lv (L' := [(0, .ref q587500), (1, .ref q587501), (2, .int g625833), (3, .ref q625974), (4, .int z628367), (5, .ref q628109)]) [2, 3, 4, 5, 0, 6] rfl ?_
                              exact jn292_627628 P628286 F628368 γ el z628367 q628109 ⟨by omega, by omega⟩ hT628377 hs628379 hph628308 hB628291 ht628299 hf628300 x628280.2.1 x628280.2.2 ht628301 hf628302 (by omega) (by omega) (by omega) (by omega) (by omega) (by omega) kp628376 (by rw [(show (z628367.toInt : Int).toNat = ((g628108.toInt : Int).toNat + 1) from tn_eq1 (by omega) (by omega))]; exact pl628380) (by rw [(show (z628367.toInt : Int).toNat = ((g628108.toInt : Int).toNat + 1) from tn_eq1 (by omega) (by omega))]; exact hp628365) (rS1_b he628196 he628373 (by omega) x628133) (by omega) (by omega) (ms_j x628136 (by omega) (by omega) (by omega)) (eO_j x628137 (by rw [he628373] <;> rfl) (by rw [he628196] <;> rfl) (by omega)) kp628375 mk628374
                            · have r628405 : o628276.toInt < 0 := gj_nleL hc628361 (show Int32.toInt 0 = 0 by decide)
                              have bo628276' : gB o628276 (-1) (-1) := ⟨by omega, by omega⟩
                              refine G_iconst 0 dr_cX17_spill_280 (by decide +kernel) ?_
                              exact G_zretA FieldType.boolean dr_cX17_spill_281 rfl rfl (rm_zc pk628309) (rm_zs pk628309) ⟨P628286, F628287, γ, el, 0, rfl, rfl, hs628293, (rm_pp hph628308), hB628291, (gB_w (gBl (show Int32.toInt 0 = 0 by decide)) (by decide) (by decide)), (by have qa0 : Int32.toInt 0 = 0 := (by decide); omega), (Or.inl (by decide)), kp628294, mk628307⟩
                    refine G_iload 0 dr_cX17_spill_102 rfl ?_
                    refine G_aload_n 1 dr_cX17_spill_104 rfl ?_
                    refine Gp_get 0 hm627556 he627557 dr_cX17_spill_105 (gk_X12 D I) (Nat.le_of_ble_eq_true rfl) wr_9_220 rfl ?_
                    refine Gw_callV (As := []) (gV_ok D I) (cp_7_ArrayList_size l hl0 D I P627479 F627480 q627558 p627580 q627582 p627581 hm627578 he627579 (gB_w bp627581 (by decide) (by decide))) dr_cX17_spill_108 ⟨wr_10_200, wr_1_18, wr_9_160, by decide, rfl, (Nat.le_of_ble_eq_true rfl), (Nat.le_of_ble_eq_true rfl)⟩ wr_9_158 wr_9_159 hm627578 he627579 rfl (rm_zc pk627505) (rm_zs pk627505) (Nat.le_of_ble_eq_true rfl) (fun r628409 w628410 dc628406 ds628407 hp628408 => ?_) (fun _ _ _ _ _ z => z.elim)
                    obtain ⟨rfl, rfl, hdc, hds⟩ := hp628408
                    change G _ _ _ _ _ _ _ (.int p627581 :: _) _ _ _
                    refine G_widen (cs' := ((rPh γ el f - rPh γ0 el0 f) / 18)) (sl' := (rPh γ el f - rPh γ0 el0 f)) (rm_d0 hdc) (rm_d0 hds) ?_
                    refine G_icmp_ge 129 dr_cX17_spill_111 (by decide +kernel) (fun hc628411 => ?_) (fun hc628411 => ?_)
                    · have r628412 : p627581.toInt ≤ g627478.toInt := gC_le hc628411
                      refine G_aload_n 1 dr_cX17_spill_129 rfl ?_
                      refine Gp_get 1 hm627556 he627557 dr_cX17_spill_130 (gk_X12 D I) (Nat.le_of_ble_eq_true rfl) wr_9_223 rfl ?_
                      have fl628415 : p627581.toInt = γ 2 q627558 := r627583
                      have hp628413 : rAt γ el q587501 (g625833.toInt : Int).toNat (g627478.toInt : Int).toNat = q627559 := (rAt_e r627488 ht627568.1 (by omega)).trans ht627568.2.1
                      have hL628414 : (g627478.toInt : Int).toNat ≤ γ 2 (rwL γ el q587501 (g625833.toInt : Int).toNat) := by unfold rwL; rw [r627488, ht627568.1]; exact tn_le0 (by omega) (by omega)
                      have hm628416 : q627559 ∈ P627479 := RS_m hT627481 ht627564 (by decide)
                      obtain ⟨p628418, p628419, p628420, p628421, p628422, p628423, p628424, he628417, bp628418, bp628419, bp628422, bp628423, bp628424, r628425, r628426, r628427, r628428, r628429⟩ := show rk_1 γ q627559 (F627480 q627559) from RS_o hT627481 ht627564
                      have bp628420 := gB_any p628420
                      have bp628421 := gB_any p628421
                      replace r628425 : gH _ := r628425
                      replace r628426 : gH _ := r628426
                      replace r628427 : gH _ := r628427
                      replace r628428 : gH _ := r628428
                      replace r628429 : gH _ := r628429
                      have r628430 : γ 7 (γ 1 q627559) = γ 7 f := by rw [hf627572]
                      have pl628431 := sp_hd x627496 hp628413 (show (g625833.toInt : Int).toNat < γ 6 f from tn_lt (by omega) (by omega)) hL628414
                      refine G_astore (L' := [(5, .ref q627559), (4, .int g627478), (3, .ref q625974), (2, .int g625833), (0, .ref q587500), (1, .ref q587501)]) dr_cX17_spill_133 (Nat.le_of_ble_eq_true rfl) rfl ?_
                      refine G_aload 0 dr_cX17_spill_135 rfl ?_
                      refine Gw_callV (As := []) (gV_ok D I) (cp_407626_Row_usesA l hl0 D I P627479 F627480 q627559 p628418 p628419 p628420 p628421 p628422 p628423 p628424 hm628416 he628417 bp628418 bp628419 bp628422 bp628423 bp628424) dr_cX17_spill_137 ⟨wr_10_192, wr_1_39, wr_10_195, by decide, rfl, (Nat.le_of_ble_eq_true rfl), (Nat.le_of_ble_eq_true rfl)⟩ wr_10_193 wr_10_194 hm628416 he628417 rfl (rm_zc pk627505) (rm_zs pk627505) (Nat.le_of_ble_eq_true rfl) (fun r628435 w628436 dc628432 ds628433 hp628434 => ?_) (fun _ _ _ _ _ z => z.elim)
                      obtain ⟨o628437, rfl, rfl, hdc, hds, bo628437, x628438, ht628439⟩ := hp628434
                      change G _ _ _ _ _ _ _ (.int o628437 :: _) _ _ _
                      refine G_widen (cs' := ((rPh γ el f - rPh γ0 el0 f) / 18)) (sl' := (rPh γ el f - rPh γ0 el0 f)) (rm_d0 hdc) (rm_d0 hds) ?_
                      refine G_if_eq 151 dr_cX17_spill_140 (by decide +kernel) (fun hc628440 => ?_) (fun hc628440 => ?_)
                      · have r628441 : o628437.toInt = 0 := gj_eq hc628440 (show Int32.toInt 0 = 0 by decide)
                        have bo628437' : gB o628437 0 0 := gB_t0 r628441
                        refine G_iconst (-1) dr_cX17_spill_151 (by decide +kernel) ?_
                        refine G_istore (L' := [(6, .int (-1)), (5, .ref q627559), (4, .int g627478), (3, .ref q625974), (2, .int g625833), (0, .ref q587500), (1, .ref q587501)]) dr_cX17_spill_152 (Nat.le_of_ble_eq_true rfl) rfl ?_
                        refine G_aload 1 dr_cX17_spill_154 rfl ?_
                        refine Gw_callV (As := []) (gV_ok D I) (cp_407650_Row_usesB l hl0 D I P627479 F627480 q627559 p628418 p628419 p628420 p628421 p628422 p628423 p628424 hm628416 he628417 bp628418 bp628419 bp628422 bp628423 bp628424) dr_cX17_spill_156 ⟨wr_10_196, wr_1_39, wr_10_199, by decide, rfl, (Nat.le_of_ble_eq_true rfl), (Nat.le_of_ble_eq_true rfl)⟩ wr_10_197 wr_10_198 hm628416 he628417 rfl (rm_zc pk627505) (rm_zs pk627505) (Nat.le_of_ble_eq_true rfl) (fun r628445 w628446 dc628442 ds628443 hp628444 => ?_) (fun _ _ _ _ _ z => z.elim)
                        obtain ⟨o628447, rfl, rfl, hdc, hds, bo628447, x628448, ht628449⟩ := hp628444
                        change G _ _ _ _ _ _ _ (.int o628447 :: _) _ _ _
                        refine G_widen (cs' := ((rPh γ el f - rPh γ0 el0 f) / 18)) (sl' := (rPh γ el f - rPh γ0 el0 f)) (rm_d0 hdc) (rm_d0 hds) ?_
                        refine G_if_eq 170 dr_cX17_spill_159 (by decide +kernel) (fun hc628450 => ?_) (fun hc628450 => ?_)
                        · have r628451 : o628447.toInt = 0 := gj_eq hc628450 (show Int32.toInt 0 = 0 by decide)
                          have bo628447' : gB o628447 0 0 := gB_t0 r628451
                          refine G_iconst (-1) dr_cX17_spill_170 (by decide +kernel) ?_
                          refine G_istore (L' := [(7, .int (-1)), (6, .int (-1)), (5, .ref q627559), (4, .int g627478), (3, .ref q625974), (2, .int g625833), (0, .ref q587500), (1, .ref q587501)]) dr_cX17_spill_171 (Nat.le_of_ble_eq_true rfl) rfl ?_
                          refine G_iload 1 dr_cX17_spill_173 rfl ?_
                          refine G_if_lt 236 dr_cX17_spill_175 (by decide +kernel) (fun _ => ?_) (fun hc => absurd hc (by decide))
                          have ac628452 : (fI (F627480 q587500) 11).toInt = p627513.toInt := by rw [he627508]; rfl
                          have ac628453 : (fI (F627480 q587500) 14).toInt = p627516.toInt := by rw [he627508]; rfl
                          refine G_lv (L' := [(0, .ref q587500), (1, .ref q587501), (2, .int g625833), (3, .ref q625974), (4, .int g627478), (5, .ref q627559), (6, .int (-1)), (7, .int (-1))]) [6, 7, 5, 4, 3, 2, 1, 0] rfl ?_
                          exact jn236_628139 P627479 F627480 γ el g627478 q627559 (-1) (-1) (gB_w bg627478' (by decide) (by decide)) (gB_w (gBl (show Int32.toInt (-1) = (-1) by decide)) (by decide) (by decide)) (gB_w (gBl (show Int32.toInt (-1) = (-1) by decide)) (by decide) (by decide)) hT627481 hs627482 hph627483 hB627484 ht627485 hf627486 r627487 r627488 ht627564 hf627572 (by have qa0 : Int32.toInt (-1) = (-1) := (by decide); omega) (by have qa0 : Int32.toInt (-1) = (-1) := (by decide); omega) (by have qa0 : Int32.toInt (-1) = (-1) := (by decide); omega) (by have qa0 : Int32.toInt (-1) = (-1) := (by decide); omega) (by have qa0 : Int32.toInt (-1) = (-1) := (by decide); omega) (by have qa0 : Int32.toInt (-1) = (-1) := (by decide); omega) x627495 (by exact pl628431.1) (by exact hp628413) (rS1_of he628417 he628417 pl628431.2 (fun h1 h2 h3 h4 => (uA_0 x628438 (by omega) h1 h2 h3 h4).elim) (fun h1 h2 h3 => (uB_0 x628448 (by omega) h1 h2 h3).elim)) (by have qa0 : Int32.toInt (-1) = (-1) := (by decide); omega) (by have qa0 : Int32.toInt (-1) = (-1) := (by decide); omega) (ms_j hm90_627500 (by omega) (by omega) (by omega)) (eO_c (op := p628418.toInt) (by rw [he628417] <;> rfl) (Or.inr ((gHe r628429).resolve_left (fun z => absurd (ht627566.2.symm.trans z) (by decide))))) x627499 x627500
                        · have r628454 : o628447.toInt ≠ 0 := gj_neq hc628450 (show Int32.toInt 0 = 0 by decide)
                          have bo628447' : gB o628447 1 1 := gB_t1 bo628447 r628454
                          refine G_aload 1 dr_cX17_spill_162 rfl ?_
                          refine Gp_get 3 hm628416 he628417 dr_cX17_spill_164 (gk_X15 D I) (Nat.le_of_ble_eq_true rfl) wr_9_190 rfl ?_
                          have rb628455 : gB p628421 0 1999 := (gHe r628427).resolve_left (by have z := (uB_1 x628448 (by omega)).2.2; omega)
                          refine G_goto 171 dr_cX17_spill_167 (by decide +kernel) ?_
                          refine G_istore (L' := [(7, .int p628421), (6, .int (-1)), (5, .ref q627559), (4, .int g627478), (3, .ref q625974), (2, .int g625833), (0, .ref q587500), (1, .ref q587501)]) dr_cX17_spill_171 (Nat.le_of_ble_eq_true rfl) rfl ?_
                          refine G_iload 1 dr_cX17_spill_173 rfl ?_
                          refine G_if_lt 236 dr_cX17_spill_175 (by decide +kernel) (fun _ => ?_) (fun hc => absurd hc (by decide))
                          have ac628456 : (fI (F627480 q587500) 11).toInt = p627513.toInt := by rw [he627508]; rfl
                          have ac628457 : (fI (F627480 q587500) 14).toInt = p627516.toInt := by rw [he627508]; rfl
                          refine G_lv (L' := [(0, .ref q587500), (1, .ref q587501), (2, .int g625833), (3, .ref q625974), (4, .int g627478), (5, .ref q627559), (6, .int (-1)), (7, .int p628421)]) [6, 7, 5, 4, 3, 2, 1, 0] rfl ?_
                          exact jn236_628139 P627479 F627480 γ el g627478 q627559 (-1) p628421 (gB_w bg627478' (by decide) (by decide)) (gB_w (gBl (show Int32.toInt (-1) = (-1) by decide)) (by decide) (by decide)) (gB_w rb628455 (by decide) (by decide)) hT627481 hs627482 hph627483 hB627484 ht627485 hf627486 r627487 r627488 ht627564 hf627572 (by have qa0 : Int32.toInt (-1) = (-1) := (by decide); omega) (by have qa0 : Int32.toInt (-1) = (-1) := (by decide); omega) (by have qa0 : Int32.toInt (-1) = (-1) := (by decide); omega) (by have qa0 : Int32.toInt (-1) = (-1) := (by decide); omega) (by have qa0 : Int32.toInt (-1) = (-1) := (by decide); omega) (by have qa0 : Int32.toInt (-1) = (-1) := (by decide); omega) x627495 (by exact pl628431.1) (by exact hp628413) (rS1_of he628417 he628417 pl628431.2 (fun h1 h2 h3 h4 => (uA_0 x628438 (by omega) h1 h2 h3 h4).elim) (fun _ _ _ => Or.inr ⟨rfl, rfl, by omega, Or.inl (by have qa : Int32.toInt (-1) = -1 := (by decide); omega)⟩)) (by have qa0 : Int32.toInt (-1) = (-1) := (by decide); omega) (by have qa0 : Int32.toInt (-1) = (-1) := (by decide); omega) (ms_j hm90_627500 (by omega) (by omega) (by omega)) (eO_c (op := p628418.toInt) (by rw [he628417] <;> rfl) (Or.inr ((gHe r628429).resolve_left (fun z => absurd (ht627566.2.symm.trans z) (by decide))))) x627499 x627500
                      · have r628458 : o628437.toInt ≠ 0 := gj_neq hc628440 (show Int32.toInt 0 = 0 by decide)
                        have bo628437' : gB o628437 1 1 := gB_t1 bo628437 r628458
                        refine G_aload 0 dr_cX17_spill_143 rfl ?_
                        refine Gp_get 2 hm628416 he628417 dr_cX17_spill_145 (gk_X15 D I) (Nat.le_of_ble_eq_true rfl) wr_9_186 rfl ?_
                        have rb628459 : gB p628420 0 1999 := (gHe r628426).resolve_left (by have z := (uA_1 x628438 (by omega)).2.2.2; omega)
                        refine G_goto 152 dr_cX17_spill_148 (by decide +kernel) ?_
                        refine G_istore (L' := [(6, .int p628420), (5, .ref q627559), (4, .int g627478), (3, .ref q625974), (2, .int g625833), (0, .ref q587500), (1, .ref q587501)]) dr_cX17_spill_152 (Nat.le_of_ble_eq_true rfl) rfl ?_
                        refine G_aload 1 dr_cX17_spill_154 rfl ?_
                        refine Gw_callV (As := []) (gV_ok D I) (cp_407650_Row_usesB l hl0 D I P627479 F627480 q627559 p628418 p628419 p628420 p628421 p628422 p628423 p628424 hm628416 he628417 bp628418 bp628419 bp628422 bp628423 bp628424) dr_cX17_spill_156 ⟨wr_10_196, wr_1_39, wr_10_199, by decide, rfl, (Nat.le_of_ble_eq_true rfl), (Nat.le_of_ble_eq_true rfl)⟩ wr_10_197 wr_10_198 hm628416 he628417 rfl (rm_zc pk627505) (rm_zs pk627505) (Nat.le_of_ble_eq_true rfl) (fun r628463 w628464 dc628460 ds628461 hp628462 => ?_) (fun _ _ _ _ _ z => z.elim)
                        obtain ⟨o628465, rfl, rfl, hdc, hds, bo628465, x628466, ht628467⟩ := hp628462
                        change G _ _ _ _ _ _ _ (.int o628465 :: _) _ _ _
                        refine G_widen (cs' := ((rPh γ el f - rPh γ0 el0 f) / 18)) (sl' := (rPh γ el f - rPh γ0 el0 f)) (rm_d0 hdc) (rm_d0 hds) ?_
                        refine G_if_eq 170 dr_cX17_spill_159 (by decide +kernel) (fun hc628468 => ?_) (fun hc628468 => ?_)
                        · have r628469 : o628465.toInt = 0 := gj_eq hc628468 (show Int32.toInt 0 = 0 by decide)
                          have bo628465' : gB o628465 0 0 := gB_t0 r628469
                          refine G_iconst (-1) dr_cX17_spill_170 (by decide +kernel) ?_
                          refine G_istore (L' := [(7, .int (-1)), (6, .int p628420), (5, .ref q627559), (4, .int g627478), (3, .ref q625974), (2, .int g625833), (0, .ref q587500), (1, .ref q587501)]) dr_cX17_spill_171 (Nat.le_of_ble_eq_true rfl) rfl ?_
                          refine G_iload 1 dr_cX17_spill_173 rfl ?_
                          refine G_if_lt 236 dr_cX17_spill_175 (by decide +kernel) (fun hc => absurd (show False by have := gj_lt hc (show Int32.toInt 0 = 0 by decide); omega) not_false) (fun _ => ?_)
                          refine G_aload_n 6 dr_cX17_spill_178 rfl ?_
                          refine Gp_get 19 hm627507 he627508 dr_cX17_spill_179 (gk_X17 D I) (Nat.le_of_ble_eq_true rfl) wr_7_93 rfl ?_
                          refine G_iload 1 dr_cX17_spill_182 rfl ?_
                          have hm628470 : (γ 9 19) ∈ P627479 := RS_m hT627481 ht627541 (by decide)
                          obtain ⟨f628472, he628471, bf628472⟩ := show rk_21 I (F627480 (γ 9 19)) from RS_o hT627481 ht627541
                          refine Gp_iald 0 hm628470 he628471 dr_cX17_spill_184 rfl (gB_in rb628459 (by decide) (by decide)) (G_nam fun z628473 hz628473 => ?_)
                          have bz628473 : gB z628473 (-1) 1999 := by rw [hz628473]; exact bf628472 _
                          have c9_628474 : cB (F622564 (γ0 9 19)) = f628472 := by rw [← x627495, ← congrFun (rSk_9 hs627482) 19]; exact cB_of he628471
                          have hs628475 : (cB (F622564 (γ0 9 19)) p628420.toInt.toNat).toInt = z628473.toInt := by rw [c9_628474, hz628473]; rfl
                          refine G_if_lt 236 dr_cX17_spill_185 (by decide +kernel) (fun hc628477 => ?_) (fun hc628477 => ?_)
                          · have r628478 : z628473.toInt < 0 := gj_lt hc628477 (show Int32.toInt 0 = 0 by decide)
                            have bz628473' : gB z628473 (-1) (-1) := ⟨by omega, by omega⟩
                            have ac628479 : (fI (F627480 q587500) 11).toInt = p627513.toInt := by rw [he627508]; rfl
                            have ac628480 : (fI (F627480 q587500) 14).toInt = p627516.toInt := by rw [he627508]; rfl
                            refine G_lv (L' := [(0, .ref q587500), (1, .ref q587501), (2, .int g625833), (3, .ref q625974), (4, .int g627478), (5, .ref q627559), (6, .int p628420), (7, .int (-1))]) [6, 7, 5, 4, 3, 2, 1, 0] rfl ?_
                            exact jn236_628139 P627479 F627480 γ el g627478 q627559 p628420 (-1) (gB_w bg627478' (by decide) (by decide)) (gB_w rb628459 (by decide) (by decide)) (gB_w (gBl (show Int32.toInt (-1) = (-1) by decide)) (by decide) (by decide)) hT627481 hs627482 hph627483 hB627484 ht627485 hf627486 r627487 r627488 ht627564 hf627572 (by have qa0 : Int32.toInt (-1) = (-1) := (by decide); omega) (by have qa0 : Int32.toInt (-1) = (-1) := (by decide); omega) (by have qa0 : Int32.toInt (-1) = (-1) := (by decide); omega) (by have qa0 : Int32.toInt (-1) = (-1) := (by decide); omega) (by have qa0 : Int32.toInt (-1) = (-1) := (by decide); omega) (by have qa0 : Int32.toInt (-1) = (-1) := (by decide); omega) x627495 (by exact pl628431.1) (by exact hp628413) (rS1_of he628417 he628417 pl628431.2 (fun _ _ _ _ => Or.inr ⟨rfl, by omega⟩) (fun h1 h2 h3 => (uB_0 x628466 (by omega) h1 h2 h3).elim)) (by have qa0 : Int32.toInt (-1) = (-1) := (by decide); omega) (by have qa0 : Int32.toInt (-1) = (-1) := (by decide); omega) (ms_j hm90_627500 (by omega) (by omega) (by omega)) (eO_c (op := p628418.toInt) (by rw [he628417] <;> rfl) (Or.inr ((gHe r628429).resolve_left (fun z => absurd (ht627566.2.symm.trans z) (by decide))))) x627499 x627500
                          · have r628481 : 0 ≤ z628473.toInt := gj_nlt hc628477 (show Int32.toInt 0 = 0 by decide)
                            have bz628473' : gB z628473 0 1999 := ⟨by omega, by omega⟩
                            refine G_aload_n 6 dr_cX17_spill_188 rfl ?_
                            refine G_aload_n 7 dr_cX17_spill_189 rfl ?_
                            refine G_aload_n 4 dr_cX17_spill_190 rfl ?_
                            refine G_iload 3 dr_cX17_spill_191 rfl ?_
                            refine G_aload_n 6 dr_cX17_spill_193 rfl ?_
                            refine Gp_get 19 hm627507 he627508 dr_cX17_spill_194 (gk_X17 D I) (Nat.le_of_ble_eq_true rfl) wr_7_93 rfl ?_
                            refine G_iload 1 dr_cX17_spill_197 rfl ?_
                            refine Gp_iald 0 hm628470 he628471 dr_cX17_spill_199 rfl (gB_in rb628459 (by decide) (by decide)) (G_eqi (y := z628473) hz628473.symm ?_)
                            have r628482 := (spi622649.2.2.2 p628420.toInt.toNat (tn_lt (by omega) (by omega)) (by omega)).2.2
                            have ac628483 : (fI (F627480 q587500) 11).toInt = p627513.toInt := by rw [he627508]; rfl
                            have ac628484 : (fI (F627480 q587500) 14).toInt = p627516.toInt := by rw [he627508]; rfl
                            have rg628485 := rM_ge hT627481 ht627503 hf627504
                            have rm628486 := rM_bd hB627484
                            have bd628487 := rBd_c hT627481 ht627503 hf627504 hB627484
                            have rc628488 := rc_at hT627481 ht627503 hf627504
                            refine Gw_callV (As := [.ref q587501, .ref q625974, .int g627478, .int z628473]) (gV_ok D I) (cg_407264_SpillForgeModel_load l hl0 D I γ el f B P627479 F627480 q587500 q587501 q625974 g627478 z628473 g625833.toInt.toNat hT627481 ht627502 ht627503 ht627485 hf627504 hB627484 hBk r627487 r627488 hf627486 bg627478' bz628473' (by have qa0 : Int32.toInt (-1) = (-1) := (by decide); omega) (by have qa0 : Int32.toInt (-1) = (-1) := (by decide); omega) (by have qa0 : Int32.toInt (-1) = (-1) := (by decide); omega) (by have qa0 : Int32.toInt (-1) = (-1) := (by decide); omega) (by have qa0 : Int32.toInt (-1) = (-1) := (by decide); omega)) dr_cX17_spill_200 ⟨wr_11_67, wr_1_14, wr_11_70, by decide, rfl, (Nat.le_of_ble_eq_true rfl), (Nat.le_of_ble_eq_true rfl)⟩ wr_11_69 wr_p_111 hm627507 he627508 rfl (rm_gc hph627483 pk627505) (rm_gs hph627483 pk627505) (Nat.le_of_ble_eq_true rfl) (fun r628492 w628493 dc628489 ds628490 hp628491 => ?_) (fun _ _ _ _ _ z => z.elim)
                            obtain ⟨P628504, F628505, γ, el, o628494, rfl, rfl, hk628506, ⟨hr628507, hr628508⟩, hB628509, bo628494, x628495, x628496, x628497, x628498, x628499, x628500, x628501, x628502, x628503⟩ := hp628491
                            have hT628510 := hk628506.1
                            have hs628511 := rSk_tr hs627482 hk628506 (by decide) (by decide) (by decide)
                            have kp628512 : F628505 (γ0 9 3) = F587499 (γ0 9 3) := (rSk_F hk628506 (rSk_k hs627482 k0_3 (by decide) (by decide)) (by decide) (by decide)).trans x627499
                            have kp628513 : F628505 (γ0 9 19) = F622564 (γ0 9 19) := (rSk_F hk628506 (rSk_k hs627482 k0_19 (by decide) (by decide)) (by decide) (by decide)).trans x627495
                            have ht628514 : rKd γ q587500 10 := rSk_k hk628506 ht627502 (by decide) (by decide)
                            have ht628515 : rKd γ q587501 9 := rSk_k hk628506 ht627503 (by decide) (by decide)
                            have hf628516 : γ 1 q587501 = f := rSk_1 hk628506 ht627503 (by decide) hf627504
                            have ht628517 : rKd γ q625974 2 := rSk_k hk628506 ht627485 (by decide) (by decide)
                            have hf628518 : γ 1 q625974 = f := rSk_1 hk628506 ht627485 (by decide) hf627486
                            have ht628519 : rKd γ q627558 3 := rSk_k hk628506 ht627562 (by decide) (by decide)
                            have hf628520 : γ 1 q627558 = f := rSk_1 hk628506 ht627562 (by decide) hf627571
                            have ht628521 : rKd γ q627559 1 := rSk_k hk628506 ht627564 (by decide) (by decide)
                            have hf628522 : γ 1 q627559 = f := rSk_1 hk628506 ht627564 (by decide) hf627572
                            have he628523 : F628505 q627559 = .inr (20, [.int p628418, .int p628419, .int p628420, .int p628421, .int p628422, .int p628423, .int p628424]) := (rSk_F hk628506 ht627564 (by decide) (by decide)).trans he628417
                            have hm628524 : q627559 ∈ P628504 := RS_m hT628510 ht628521 (by decide)
                            clear bp627560 bp627561 r627569 r627570 rg628485 rm628486 bd628487 rc628488
                            have mk628525 : mKp (F587499 q587500) (F628505 q587500) := mKp_tr x627500 x628503
                            have hph628526 : rPh γ0 el0 f ≤ rPh γ el f := rm_ph hph627483 hr628508
                            have pk628527 : rPh γ el f ≤ 387 * B + 6000 := rm_pk (rM_ge hT628510 ht628515 hf628516).1 (rM_bd hB628509)
                            change G _ _ _ _ _ _ _ (.int o628494 :: _) _ _ _
                            refine G_widen (cs' := ((rPh γ el f - rPh γ0 el0 f) / 18)) (sl' := (rPh γ el f - rPh γ0 el0 f)) (rm_wc hph627483 hr628507) (rm_ws hph627483 hr628508) ?_
                            have sz628528 := x628495
                            have r628529 : 0 < γ 6 (γ 1 q587501) := by rw [hf628516]; omega
                            have hm628530 : q587500 ∈ P628504 := RS_m hT628510 ht628514 (by decide)
                            refine rk10_e (show rk_10 γ (F628505 q587500) from RS_o hT628510 ht628514) (fun q628532 q628533 p628534 p628535 p628536 p628537 p628538 p628539 p628540 p628541 p628542 p628543 p628544 p628545 p628546 p628547 p628548 he628531 hB628575 ht628549 ht628550 ht628551 ht628552 ht628553 ht628554 ht628555 ht628556 ht628557 ht628558 ht628559 ht628560 ht628561 ht628562 ht628563 ht628564 ht628565 ht628566 ht628567 ht628568 ht628569 ht628570 ht628571 ht628572 hB628576 => ?_)
                            have ac628577 : (fI (F628505 q587500) 11).toInt = p628536.toInt := by rw [he628531]; rfl
                            have bp628536 : gB p628536 0 100 := (hB628575.2.2.1)
                            have ac628578 : (fI (F628505 q587500) 14).toInt = p628539.toInt := by rw [he628531]; rfl
                            have bp628539 : gB p628539 0 2000 := (hB628575.2.2.2.1)
                            refine G_istore (L' := [(8, .int o628494), (7, .int (-1)), (6, .int p628420), (5, .ref q627559), (4, .int g627478), (3, .ref q625974), (2, .int g625833), (0, .ref q587500), (1, .ref q587501)]) dr_cX17_spill_203 (Nat.le_of_ble_eq_true rfl) rfl ?_
                            refine G_iload 0 dr_cX17_spill_205 rfl ?_
                            refine G_if_ge 212 dr_cX17_spill_207 (by decide +kernel) (fun hc628579 => ?_) (fun hc628579 => ?_)
                            · have r628580 : 0 ≤ o628494.toInt := gj_leL hc628579 (show Int32.toInt 0 = 0 by decide)
                              have bo628494' : gB o628494 0 1999 := ⟨by omega, by omega⟩
                              have pl628582 := sp_ld (x628501.resolve_left (by omega)) pl628431.1 (tn_ge (by omega)) (rfl : ((g627478.toInt : Int).toNat + 1) = (g627478.toInt : Int).toNat + 1)
                              have hp628583 : rAt γ el q587501 (g625833.toInt : Int).toNat ((g627478.toInt : Int).toNat + 1) = q627559 := ((x628502.resolve_left (by omega)) (g627478.toInt : Int).toNat (Nat.le_refl _)).trans hp628413
                              have r628584 := x628499.resolve_left (by omega)
                              clear x628499 x628501 x628502
                              obtain ⟨z628585, hz628585⟩ : ∃ z : Int32, z = g627478 + Int32.ofInt 1 := ⟨_, rfl⟩
                              have ez628585 : z628585.toInt = g627478.toInt + 1 := gI_inc hz628585 (by decide) bg627478' (by decide) (by decide)
                              have bz628585 : gB z628585 1 1000001 := ⟨by omega, by omega⟩
                              refine G_iinc (L' := [(4, .int z628585), (8, .int o628494), (7, .int (-1)), (6, .int p628420), (5, .ref q627559), (3, .ref q625974), (2, .int g625833), (0, .ref q587500), (1, .ref q587501)]) z628585 4 dr_cX17_spill_212 rfl hz628585.symm (Nat.le_of_ble_eq_true rfl) rfl ?_
                              refine G_aload 4 dr_cX17_spill_215 rfl ?_
                              refine G_iload 1 dr_cX17_spill_217 rfl ?_
                              refine Gp_put 2 hm628524 he628523 dr_cX17_spill_219 (gk_X15 D I) (Nat.le_of_ble_eq_true rfl) wr_9_186 rfl rfl rfl (Nat.le_of_ble_eq_true rfl) (fun F628586 e628587 n628588 => ?_)
                              have r628589 := rk1_at hT628510 ht628521 he628523
                              have he628590 : F628586 q587500 = .inr (22, [.ref (γ 9 0), .ref (γ 9 1), .ref (γ 9 2), .ref (γ 9 3), .ref (γ 9 4), .ref (γ 9 5), .ref (γ 9 6), .ref (γ 9 7), .ref (γ 9 8), .int p628534, .int p628535, .int p628536, .int p628537, .int p628538, .int p628539, .ref (γ 9 15), .ref (γ 9 16), .ref (γ 9 17), .ref (γ 9 18), .ref (γ 9 19), .ref (γ 9 20), .ref (γ 9 21), .ref (γ 9 22), .int p628540, .int p628541, .int p628542, .int p628543, .int p628544, .ref q628532, .ref (γ 9 29), .int p628545, .ref (γ 9 31), .int p628546, .int p628547, .int p628548, .ref q628533]) := (n628588 q587500 (rn_oo he628531 he628523 (by decide))).trans he628531
                              have he628591 : F628586 q627559 = .inr (20, [.int p628418, .int p628419, .int o628494, .int p628421, .int p628422, .int p628423, .int p628424]) := e628587
                              have mk628592 : mKp (F587499 q587500) (F628586 q587500) := mKp_tr mk628525 (mKp_eq (n628588 q587500 (rn_ty ht628514 ht628521 (by decide))))
                              have kp628593 : F628586 (γ0 9 3) = F587499 (γ0 9 3) := (n628588 (γ0 9 3) (rn_ty (rSk_k hs628511 k0_3 (by decide) (by decide)) ht628521 (by decide))).trans kp628512
                              have kp628594 : F628586 (γ0 9 19) = F622564 (γ0 9 19) := (n628588 (γ0 9 19) (rn_ty (rSk_k hs628511 k0_19 (by decide) (by decide)) ht628521 (by decide))).trans kp628513
                              refine G_iload 2 dr_cX17_spill_222 rfl ?_
                              refine G_iload 3 dr_cX17_spill_224 rfl ?_
                              refine G_icmp_ne 236 dr_cX17_spill_226 (by decide +kernel) (fun _ => ?_) (fun hc => absurd (show False by have := gj_eqL hc (show Int32.toInt (-1) = (-1) by decide); omega) not_false)
                              have hT628595 : RS D I P628504 F628586 γ el := RS_set hT628510 n628588 ht628521 (by decide) ⟨p628418, p628419, o628494, p628421, p628422, p628423, p628424, he628591, bp628418, bp628419, bp628422, bp628423, bp628424, (gHe r628425), (Or.inr bo628494'), (gHe r628427), r628589.1, r628589.2⟩
                              have hs628597 := rSk_put hs628511 hT628595 n628588 ht628521 (by decide) (by decide)
                              have hm628599 : q625974 ∈ P628504 := RS_m hT628595 ht628517 (by decide)
                              obtain ⟨q628601, q628602, p628603, p628604, he628600, ht628611, ht628605, ht628606, ht628607, ht628608, ht628609, bp628603, bp628604, r628610, r628612, r628613⟩ := show rk_2 γ q625974 (F628586 q625974) from RS_o hT628595 ht628517
                              have hf628614 : γ 1 q628601 = f := (show γ 1 q628601 = γ 1 q625974 from ht628606).trans hf628518
                              have hf628615 : γ 1 q628602 = f := (show γ 1 q628602 = γ 1 q625974 from ht628608).trans hf628518
                              have r628616 : γ 6 (γ 1 q625974) = γ 6 f := by rw [hf628518]
                              have r628617 : γ 7 (γ 1 q625974) = γ 7 f := by rw [hf628518]
                              have r628618 : γ 19 (γ 1 q625974) = γ 19 f := by rw [hf628518]
                              have r628619 := r628610.resolve_left (by omega)
                              clear r628610
                              have r628620 : γ 2 (γ 14 q625974) = γ 2 q628601 := by rw [ht628611.1]
                              have pl628598 := sp_put hT628510 ht628515 hf628516 pl628582 n628588 hp628583 (show (g625833.toInt : Int).toNat < γ 6 f from tn_lt (by omega) (by omega)) (by unfold rwL; rw [x628498.2.2]; exact tn_le1 (by omega) (by omega))
                              have ac628621 : (fI (F628586 q587500) 11).toInt = p628536.toInt := by rw [he628590]; rfl
                              have ac628622 : (fI (F628586 q587500) 14).toInt = p628539.toInt := by rw [he628590]; rfl
                              refine G_lv (L' := [(0, .ref q587500), (1, .ref q587501), (2, .int g625833), (3, .ref q625974), (4, .int z628585), (5, .ref q627559), (6, .int p628420), (7, .int (-1))]) [7, 8, 6, 5, 0, 4, 3, 2] rfl ?_
                              exact jn236_628139 P628504 F628586 γ el z628585 q627559 p628420 (-1) (gB_w bz628585 (by decide) (by decide)) (gB_w rb628459 (by decide) (by decide)) (gB_w (gBl (show Int32.toInt (-1) = (-1) by decide)) (by decide) (by decide)) hT628595 hs628597 hph628526 hB628509 ht628517 hf628518 x628498.2.1 x628498.2.2 ht628521 hf628522 (by have qa0 : Int32.toInt (-1) = (-1) := (by decide); omega) (by have qa0 : Int32.toInt (-1) = (-1) := (by decide); omega) (by have qa0 : Int32.toInt (-1) = (-1) := (by decide); omega) (by have qa0 : Int32.toInt (-1) = (-1) := (by decide); omega) (by have qa0 : Int32.toInt (-1) = (-1) := (by decide); omega) (by have qa0 : Int32.toInt (-1) = (-1) := (by decide); omega) kp628594 (by rw [(show (z628585.toInt : Int).toNat = ((g627478.toInt : Int).toNat + 1) from tn_eq1 (by omega) (by omega))]; exact pl628598) (by rw [(show (z628585.toInt : Int).toNat = ((g627478.toInt : Int).toNat + 1) from tn_eq1 (by omega) (by omega))]; exact hp628583) (rS1_of he628417 he628591 pl628431.2 (fun _ _ _ _ => Or.inl (by omega)) (fun h1 h2 h3 => (uB_0 x628466 (by omega) h1 h2 h3).elim)) (by have qa0 : Int32.toInt (-1) = (-1) := (by decide); omega) (by have qa0 : Int32.toInt (-1) = (-1) := (by decide); omega) (ms_j hm90_627500 (by omega) (by omega) (by omega)) (eO_c (op := p628418.toInt) (by rw [he628591] <;> rfl) (Or.inr ((gHe r628429).resolve_left (fun z => absurd (ht627566.2.symm.trans z) (by decide))))) kp628593 mk628592
                            · have r628623 : o628494.toInt < 0 := gj_nleL hc628579 (show Int32.toInt 0 = 0 by decide)
                              have bo628494' : gB o628494 (-1) (-1) := ⟨by omega, by omega⟩
                              refine G_iconst 0 dr_cX17_spill_210 (by decide +kernel) ?_
                              exact G_zretA FieldType.boolean dr_cX17_spill_211 rfl rfl (rm_zc pk628527) (rm_zs pk628527) ⟨P628504, F628505, γ, el, 0, rfl, rfl, hs628511, (rm_pp hph628526), hB628509, (gB_w (gBl (show Int32.toInt 0 = 0 by decide)) (by decide) (by decide)), (by have qa0 : Int32.toInt (-1) = (-1) := (by decide); have qa1 : Int32.toInt 0 = 0 := (by decide); omega), (Or.inl (by decide)), kp628512, mk628525⟩
                        · have r628624 : o628465.toInt ≠ 0 := gj_neq hc628468 (show Int32.toInt 0 = 0 by decide)
                          have bo628465' : gB o628465 1 1 := gB_t1 bo628465 r628624
                          refine G_aload 1 dr_cX17_spill_162 rfl ?_
                          refine Gp_get 3 hm628416 he628417 dr_cX17_spill_164 (gk_X15 D I) (Nat.le_of_ble_eq_true rfl) wr_9_190 rfl ?_
                          have rb628625 : gB p628421 0 1999 := (gHe r628427).resolve_left (by have z := (uB_1 x628466 (by omega)).2.2; omega)
                          refine G_goto 171 dr_cX17_spill_167 (by decide +kernel) ?_
                          refine G_istore (L' := [(7, .int p628421), (6, .int p628420), (5, .ref q627559), (4, .int g627478), (3, .ref q625974), (2, .int g625833), (0, .ref q587500), (1, .ref q587501)]) dr_cX17_spill_171 (Nat.le_of_ble_eq_true rfl) rfl ?_
                          refine G_iload 1 dr_cX17_spill_173 rfl ?_
                          refine G_if_lt 236 dr_cX17_spill_175 (by decide +kernel) (fun hc => absurd (show False by have := gj_lt hc (show Int32.toInt 0 = 0 by decide); omega) not_false) (fun _ => ?_)
                          refine G_aload_n 6 dr_cX17_spill_178 rfl ?_
                          refine Gp_get 19 hm627507 he627508 dr_cX17_spill_179 (gk_X17 D I) (Nat.le_of_ble_eq_true rfl) wr_7_93 rfl ?_
                          refine G_iload 1 dr_cX17_spill_182 rfl ?_
                          have hm628626 : (γ 9 19) ∈ P627479 := RS_m hT627481 ht627541 (by decide)
                          obtain ⟨f628628, he628627, bf628628⟩ := show rk_21 I (F627480 (γ 9 19)) from RS_o hT627481 ht627541
                          refine Gp_iald 0 hm628626 he628627 dr_cX17_spill_184 rfl (gB_in rb628459 (by decide) (by decide)) (G_nam fun z628629 hz628629 => ?_)
                          have bz628629 : gB z628629 (-1) 1999 := by rw [hz628629]; exact bf628628 _
                          have c9_628630 : cB (F622564 (γ0 9 19)) = f628628 := by rw [← x627495, ← congrFun (rSk_9 hs627482) 19]; exact cB_of he628627
                          have hs628631 : (cB (F622564 (γ0 9 19)) p628420.toInt.toNat).toInt = z628629.toInt := by rw [c9_628630, hz628629]; rfl
                          refine G_if_lt 236 dr_cX17_spill_185 (by decide +kernel) (fun hc628633 => ?_) (fun hc628633 => ?_)
                          · have r628634 : z628629.toInt < 0 := gj_lt hc628633 (show Int32.toInt 0 = 0 by decide)
                            have bz628629' : gB z628629 (-1) (-1) := ⟨by omega, by omega⟩
                            have ac628635 : (fI (F627480 q587500) 11).toInt = p627513.toInt := by rw [he627508]; rfl
                            have ac628636 : (fI (F627480 q587500) 14).toInt = p627516.toInt := by rw [he627508]; rfl
                            refine G_lv (L' := [(0, .ref q587500), (1, .ref q587501), (2, .int g625833), (3, .ref q625974), (4, .int g627478), (5, .ref q627559), (6, .int p628420), (7, .int p628421)]) [6, 7, 5, 4, 3, 2, 1, 0] rfl ?_
                            exact jn236_628139 P627479 F627480 γ el g627478 q627559 p628420 p628421 (gB_w bg627478' (by decide) (by decide)) (gB_w rb628459 (by decide) (by decide)) (gB_w rb628625 (by decide) (by decide)) hT627481 hs627482 hph627483 hB627484 ht627485 hf627486 r627487 r627488 ht627564 hf627572 (by omega) (by omega) (by omega) (by omega) (by omega) (by omega) x627495 (by exact pl628431.1) (by exact hp628413) (rS1_of he628417 he628417 pl628431.2 (fun _ _ _ _ => Or.inr ⟨rfl, by omega⟩) (fun _ _ _ => Or.inr ⟨rfl, rfl, by omega, (Classical.em (p628421.toInt = p628420.toInt)).elim (fun e => Or.inr (by rw [e]; omega)) (fun e => Or.inl e)⟩)) (by omega) (by omega) (ms_j hm90_627500 (by omega) (by omega) (by omega)) (eO_c (op := p628418.toInt) (by rw [he628417] <;> rfl) (Or.inr ((gHe r628429).resolve_left (fun z => absurd (ht627566.2.symm.trans z) (by decide))))) x627499 x627500
                          · have r628637 : 0 ≤ z628629.toInt := gj_nlt hc628633 (show Int32.toInt 0 = 0 by decide)
                            have bz628629' : gB z628629 0 1999 := ⟨by omega, by omega⟩
                            refine G_aload_n 6 dr_cX17_spill_188 rfl ?_
                            refine G_aload_n 7 dr_cX17_spill_189 rfl ?_
                            refine G_aload_n 4 dr_cX17_spill_190 rfl ?_
                            refine G_iload 3 dr_cX17_spill_191 rfl ?_
                            refine G_aload_n 6 dr_cX17_spill_193 rfl ?_
                            refine Gp_get 19 hm627507 he627508 dr_cX17_spill_194 (gk_X17 D I) (Nat.le_of_ble_eq_true rfl) wr_7_93 rfl ?_
                            refine G_iload 1 dr_cX17_spill_197 rfl ?_
                            refine Gp_iald 0 hm628626 he628627 dr_cX17_spill_199 rfl (gB_in rb628459 (by decide) (by decide)) (G_eqi (y := z628629) hz628629.symm ?_)
                            have r628638 := (spi622649.2.2.2 p628420.toInt.toNat (tn_lt (by omega) (by omega)) (by omega)).2.2
                            have ac628639 : (fI (F627480 q587500) 11).toInt = p627513.toInt := by rw [he627508]; rfl
                            have ac628640 : (fI (F627480 q587500) 14).toInt = p627516.toInt := by rw [he627508]; rfl
                            have rg628641 := rM_ge hT627481 ht627503 hf627504
                            have rm628642 := rM_bd hB627484
                            have bd628643 := rBd_c hT627481 ht627503 hf627504 hB627484
                            have rc628644 := rc_at hT627481 ht627503 hf627504
                            refine Gw_callV (As := [.ref q587501, .ref q625974, .int g627478, .int z628629]) (gV_ok D I) (cg_407264_SpillForgeModel_load l hl0 D I γ el f B P627479 F627480 q587500 q587501 q625974 g627478 z628629 g625833.toInt.toNat hT627481 ht627502 ht627503 ht627485 hf627504 hB627484 hBk r627487 r627488 hf627486 bg627478' bz628629' (by omega) (by omega) (by omega) (by omega) (by omega)) dr_cX17_spill_200 ⟨wr_11_67, wr_1_14, wr_11_70, by decide, rfl, (Nat.le_of_ble_eq_true rfl), (Nat.le_of_ble_eq_true rfl)⟩ wr_11_69 wr_p_111 hm627507 he627508 rfl (rm_gc hph627483 pk627505) (rm_gs hph627483 pk627505) (Nat.le_of_ble_eq_true rfl) (fun r628648 w628649 dc628645 ds628646 hp628647 => ?_) (fun _ _ _ _ _ z => z.elim)
                            obtain ⟨P628660, F628661, γ, el, o628650, rfl, rfl, hk628662, ⟨hr628663, hr628664⟩, hB628665, bo628650, x628651, x628652, x628653, x628654, x628655, x628656, x628657, x628658, x628659⟩ := hp628647
                            have hT628666 := hk628662.1
                            have hs628667 := rSk_tr hs627482 hk628662 (by decide) (by decide) (by decide)
                            have kp628668 : F628661 (γ0 9 3) = F587499 (γ0 9 3) := (rSk_F hk628662 (rSk_k hs627482 k0_3 (by decide) (by decide)) (by decide) (by decide)).trans x627499
                            have kp628669 : F628661 (γ0 9 19) = F622564 (γ0 9 19) := (rSk_F hk628662 (rSk_k hs627482 k0_19 (by decide) (by decide)) (by decide) (by decide)).trans x627495
                            have ht628670 : rKd γ q587500 10 := rSk_k hk628662 ht627502 (by decide) (by decide)
                            have ht628671 : rKd γ q587501 9 := rSk_k hk628662 ht627503 (by decide) (by decide)
                            have hf628672 : γ 1 q587501 = f := rSk_1 hk628662 ht627503 (by decide) hf627504
                            have ht628673 : rKd γ q625974 2 := rSk_k hk628662 ht627485 (by decide) (by decide)
                            have hf628674 : γ 1 q625974 = f := rSk_1 hk628662 ht627485 (by decide) hf627486
                            have ht628675 : rKd γ q627558 3 := rSk_k hk628662 ht627562 (by decide) (by decide)
                            have hf628676 : γ 1 q627558 = f := rSk_1 hk628662 ht627562 (by decide) hf627571
                            have ht628677 : rKd γ q627559 1 := rSk_k hk628662 ht627564 (by decide) (by decide)
                            have hf628678 : γ 1 q627559 = f := rSk_1 hk628662 ht627564 (by decide) hf627572
                            have he628679 : F628661 q627559 = .inr (20, [.int p628418, .int p628419, .int p628420, .int p628421, .int p628422, .int p628423, .int p628424]) := (rSk_F hk628662 ht627564 (by decide) (by decide)).trans he628417
                            have hm628680 : q627559 ∈ P628660 := RS_m hT628666 ht628677 (by decide)
                            clear bp627560 bp627561 r627569 r627570 rg628641 rm628642 bd628643 rc628644
                            have mk628681 : mKp (F587499 q587500) (F628661 q587500) := mKp_tr x627500 x628659
                            have hph628682 : rPh γ0 el0 f ≤ rPh γ el f := rm_ph hph627483 hr628664
                            have pk628683 : rPh γ el f ≤ 387 * B + 6000 := rm_pk (rM_ge hT628666 ht628671 hf628672).1 (rM_bd hB628665)
                            change G _ _ _ _ _ _ _ (.int o628650 :: _) _ _ _
                            refine G_widen (cs' := ((rPh γ el f - rPh γ0 el0 f) / 18)) (sl' := (rPh γ el f - rPh γ0 el0 f)) (rm_wc hph627483 hr628663) (rm_ws hph627483 hr628664) ?_
                            have sz628684 := x628651
                            have r628685 : 0 < γ 6 (γ 1 q587501) := by rw [hf628672]; omega
                            have hm628686 : q587500 ∈ P628660 := RS_m hT628666 ht628670 (by decide)
                            refine rk10_e (show rk_10 γ (F628661 q587500) from RS_o hT628666 ht628670) (fun q628688 q628689 p628690 p628691 p628692 p628693 p628694 p628695 p628696 p628697 p628698 p628699 p628700 p628701 p628702 p628703 p628704 he628687 hB628731 ht628705 ht628706 ht628707 ht628708 ht628709 ht628710 ht628711 ht628712 ht628713 ht628714 ht628715 ht628716 ht628717 ht628718 ht628719 ht628720 ht628721 ht628722 ht628723 ht628724 ht628725 ht628726 ht628727 ht628728 hB628732 => ?_)
                            have ac628733 : (fI (F628661 q587500) 11).toInt = p628692.toInt := by rw [he628687]; rfl
                            have bp628692 : gB p628692 0 100 := (hB628731.2.2.1)
                            have ac628734 : (fI (F628661 q587500) 14).toInt = p628695.toInt := by rw [he628687]; rfl
                            have bp628695 : gB p628695 0 2000 := (hB628731.2.2.2.1)
                            refine G_istore (L' := [(8, .int o628650), (7, .int p628421), (6, .int p628420), (5, .ref q627559), (4, .int g627478), (3, .ref q625974), (2, .int g625833), (0, .ref q587500), (1, .ref q587501)]) dr_cX17_spill_203 (Nat.le_of_ble_eq_true rfl) rfl ?_
                            refine G_iload 0 dr_cX17_spill_205 rfl ?_
                            refine G_if_ge 212 dr_cX17_spill_207 (by decide +kernel) (fun hc628735 => ?_) (fun hc628735 => ?_)
                            · have r628736 : 0 ≤ o628650.toInt := gj_leL hc628735 (show Int32.toInt 0 = 0 by decide)
                              have bo628650' : gB o628650 0 1999 := ⟨by omega, by omega⟩
                              have pl628738 := sp_ld (x628657.resolve_left (by omega)) pl628431.1 (tn_ge (by omega)) (rfl : ((g627478.toInt : Int).toNat + 1) = (g627478.toInt : Int).toNat + 1)
                              have hp628739 : rAt γ el q587501 (g625833.toInt : Int).toNat ((g627478.toInt : Int).toNat + 1) = q627559 := ((x628658.resolve_left (by omega)) (g627478.toInt : Int).toNat (Nat.le_refl _)).trans hp628413
                              have r628740 := x628655.resolve_left (by omega)
                              clear x628655 x628657 x628658
                              obtain ⟨z628741, hz628741⟩ : ∃ z : Int32, z = g627478 + Int32.ofInt 1 := ⟨_, rfl⟩
                              have ez628741 : z628741.toInt = g627478.toInt + 1 := gI_inc hz628741 (by decide) bg627478' (by decide) (by decide)
                              have bz628741 : gB z628741 1 1000001 := ⟨by omega, by omega⟩
                              refine G_iinc (L' := [(4, .int z628741), (8, .int o628650), (7, .int p628421), (6, .int p628420), (5, .ref q627559), (3, .ref q625974), (2, .int g625833), (0, .ref q587500), (1, .ref q587501)]) z628741 4 dr_cX17_spill_212 rfl hz628741.symm (Nat.le_of_ble_eq_true rfl) rfl ?_
                              refine G_aload 4 dr_cX17_spill_215 rfl ?_
                              refine G_iload 1 dr_cX17_spill_217 rfl ?_
                              refine Gp_put 2 hm628680 he628679 dr_cX17_spill_219 (gk_X15 D I) (Nat.le_of_ble_eq_true rfl) wr_9_186 rfl rfl rfl (Nat.le_of_ble_eq_true rfl) (fun F628742 e628743 n628744 => ?_)
                              have r628745 := rk1_at hT628666 ht628677 he628679
                              have he628746 : F628742 q587500 = .inr (22, [.ref (γ 9 0), .ref (γ 9 1), .ref (γ 9 2), .ref (γ 9 3), .ref (γ 9 4), .ref (γ 9 5), .ref (γ 9 6), .ref (γ 9 7), .ref (γ 9 8), .int p628690, .int p628691, .int p628692, .int p628693, .int p628694, .int p628695, .ref (γ 9 15), .ref (γ 9 16), .ref (γ 9 17), .ref (γ 9 18), .ref (γ 9 19), .ref (γ 9 20), .ref (γ 9 21), .ref (γ 9 22), .int p628696, .int p628697, .int p628698, .int p628699, .int p628700, .ref q628688, .ref (γ 9 29), .int p628701, .ref (γ 9 31), .int p628702, .int p628703, .int p628704, .ref q628689]) := (n628744 q587500 (rn_oo he628687 he628679 (by decide))).trans he628687
                              have he628747 : F628742 q627559 = .inr (20, [.int p628418, .int p628419, .int o628650, .int p628421, .int p628422, .int p628423, .int p628424]) := e628743
                              have mk628748 : mKp (F587499 q587500) (F628742 q587500) := mKp_tr mk628681 (mKp_eq (n628744 q587500 (rn_ty ht628670 ht628677 (by decide))))
                              have kp628749 : F628742 (γ0 9 3) = F587499 (γ0 9 3) := (n628744 (γ0 9 3) (rn_ty (rSk_k hs628667 k0_3 (by decide) (by decide)) ht628677 (by decide))).trans kp628668
                              have kp628750 : F628742 (γ0 9 19) = F622564 (γ0 9 19) := (n628744 (γ0 9 19) (rn_ty (rSk_k hs628667 k0_19 (by decide) (by decide)) ht628677 (by decide))).trans kp628669
                              refine G_iload 2 dr_cX17_spill_222 rfl ?_
                              refine G_iload 3 dr_cX17_spill_224 rfl ?_
                              refine G_icmp_ne 236 dr_cX17_spill_226 (by decide +kernel) (fun hc628751 => ?_) (fun hc628751 => ?_)
                              · have r628752 : p628421.toInt ≠ p628420.toInt := gC_ne hc628751
                                have hT628753 : RS D I P628660 F628742 γ el := RS_set hT628666 n628744 ht628677 (by decide) ⟨p628418, p628419, o628650, p628421, p628422, p628423, p628424, he628747, bp628418, bp628419, bp628422, bp628423, bp628424, (gHe r628425), (Or.inr bo628650'), (gHe r628427), r628745.1, r628745.2⟩
                                have hs628755 := rSk_put hs628667 hT628753 n628744 ht628677 (by decide) (by decide)
                                have hm628757 : q625974 ∈ P628660 := RS_m hT628753 ht628673 (by decide)
                                obtain ⟨q628759, q628760, p628761, p628762, he628758, ht628769, ht628763, ht628764, ht628765, ht628766, ht628767, bp628761, bp628762, r628768, r628770, r628771⟩ := show rk_2 γ q625974 (F628742 q625974) from RS_o hT628753 ht628673
                                have hf628772 : γ 1 q628759 = f := (show γ 1 q628759 = γ 1 q625974 from ht628764).trans hf628674
                                have hf628773 : γ 1 q628760 = f := (show γ 1 q628760 = γ 1 q625974 from ht628766).trans hf628674
                                have r628774 : γ 6 (γ 1 q625974) = γ 6 f := by rw [hf628674]
                                have r628775 : γ 7 (γ 1 q625974) = γ 7 f := by rw [hf628674]
                                have r628776 : γ 19 (γ 1 q625974) = γ 19 f := by rw [hf628674]
                                have r628777 := r628768.resolve_left (by omega)
                                clear r628768
                                have r628778 : γ 2 (γ 14 q625974) = γ 2 q628759 := by rw [ht628769.1]
                                have pl628756 := sp_put hT628666 ht628671 hf628672 pl628738 n628744 hp628739 (show (g625833.toInt : Int).toNat < γ 6 f from tn_lt (by omega) (by omega)) (by unfold rwL; rw [x628654.2.2]; exact tn_le1 (by omega) (by omega))
                                have ac628779 : (fI (F628742 q587500) 11).toInt = p628692.toInt := by rw [he628746]; rfl
                                have ac628780 : (fI (F628742 q587500) 14).toInt = p628695.toInt := by rw [he628746]; rfl
                                refine G_lv (L' := [(0, .ref q587500), (1, .ref q587501), (2, .int g625833), (3, .ref q625974), (4, .int z628741), (5, .ref q627559), (6, .int p628420), (7, .int p628421)]) [7, 8, 6, 5, 0, 4, 3, 2] rfl ?_
                                exact jn236_628139 P628660 F628742 γ el z628741 q627559 p628420 p628421 (gB_w bz628741 (by decide) (by decide)) (gB_w rb628459 (by decide) (by decide)) (gB_w rb628625 (by decide) (by decide)) hT628753 hs628755 hph628682 hB628665 ht628673 hf628674 x628654.2.1 x628654.2.2 ht628677 hf628678 (by omega) (by omega) (by omega) (by omega) (by omega) (by omega) kp628750 (by rw [(show (z628741.toInt : Int).toNat = ((g627478.toInt : Int).toNat + 1) from tn_eq1 (by omega) (by omega))]; exact pl628756) (by rw [(show (z628741.toInt : Int).toNat = ((g627478.toInt : Int).toNat + 1) from tn_eq1 (by omega) (by omega))]; exact hp628739) (rS1_of he628417 he628747 pl628431.2 (fun _ _ _ _ => Or.inl (by omega)) (fun _ _ _ => Or.inr ⟨rfl, rfl, by omega, Or.inl (by omega)⟩)) (by omega) (by omega) (ms_j hm90_627500 (by omega) (by omega) (by omega)) (eO_c (op := p628418.toInt) (by rw [he628747] <;> rfl) (Or.inr ((gHe r628429).resolve_left (fun z => absurd (ht627566.2.symm.trans z) (by decide))))) kp628749 mk628748
                              · have r628781 : p628421.toInt = p628420.toInt := gC_eq hc628751
                                refine G_aload 4 dr_cX17_spill_229 rfl ?_
                                refine G_iload 1 dr_cX17_spill_231 rfl ?_
                                refine Gp_put 3 hm628680 he628747 dr_cX17_spill_233 (gk_X15 D I) (Nat.le_of_ble_eq_true rfl) wr_9_190 rfl rfl rfl (Nat.le_of_ble_eq_true rfl) (fun F628782 e628783 n628784 => ?_)
                                have he628785 : F628782 q587500 = .inr (22, [.ref (γ 9 0), .ref (γ 9 1), .ref (γ 9 2), .ref (γ 9 3), .ref (γ 9 4), .ref (γ 9 5), .ref (γ 9 6), .ref (γ 9 7), .ref (γ 9 8), .int p628690, .int p628691, .int p628692, .int p628693, .int p628694, .int p628695, .ref (γ 9 15), .ref (γ 9 16), .ref (γ 9 17), .ref (γ 9 18), .ref (γ 9 19), .ref (γ 9 20), .ref (γ 9 21), .ref (γ 9 22), .int p628696, .int p628697, .int p628698, .int p628699, .int p628700, .ref q628688, .ref (γ 9 29), .int p628701, .ref (γ 9 31), .int p628702, .int p628703, .int p628704, .ref q628689]) := (n628784 q587500 (rn_oo he628746 he628747 (by decide))).trans he628746
                                have he628786 : F628782 q627559 = .inr (20, [.int p628418, .int p628419, .int o628650, .int o628650, .int p628422, .int p628423, .int p628424]) := e628783
                                have mk628787 : mKp (F587499 q587500) (F628782 q587500) := mKp_tr mk628748 (mKp_eq (n628784 q587500 (rn_ty ht628670 ht628677 (by decide))))
                                have n628788 : ∀ b, b ≠ q627559 → F628782 b = F628661 b := fun b hb => (n628784 b hb).trans (n628744 b hb)
                                have kp628789 : F628782 (γ0 9 3) = F587499 (γ0 9 3) := (n628784 (γ0 9 3) (rn_ty (rSk_k hs628667 k0_3 (by decide) (by decide)) ht628677 (by decide))).trans kp628749
                                have kp628790 : F628782 (γ0 9 19) = F622564 (γ0 9 19) := (n628784 (γ0 9 19) (rn_ty (rSk_k hs628667 k0_19 (by decide) (by decide)) ht628677 (by decide))).trans kp628750
                                have hT628791 : RS D I P628660 F628782 γ el := RS_set hT628666 n628788 ht628677 (by decide) ⟨p628418, p628419, o628650, o628650, p628422, p628423, p628424, he628786, bp628418, bp628419, bp628422, bp628423, bp628424, (gHe r628425), (Or.inr bo628650'), (Or.inr bo628650'), r628745.1, r628745.2⟩
                                have hs628793 := rSk_put hs628667 hT628791 n628788 ht628677 (by decide) (by decide)
                                have hm628795 : q625974 ∈ P628660 := RS_m hT628791 ht628673 (by decide)
                                obtain ⟨q628797, q628798, p628799, p628800, he628796, ht628807, ht628801, ht628802, ht628803, ht628804, ht628805, bp628799, bp628800, r628806, r628808, r628809⟩ := show rk_2 γ q625974 (F628782 q625974) from RS_o hT628791 ht628673
                                have hf628810 : γ 1 q628797 = f := (show γ 1 q628797 = γ 1 q625974 from ht628802).trans hf628674
                                have hf628811 : γ 1 q628798 = f := (show γ 1 q628798 = γ 1 q625974 from ht628804).trans hf628674
                                have r628812 : γ 6 (γ 1 q625974) = γ 6 f := by rw [hf628674]
                                have r628813 : γ 7 (γ 1 q625974) = γ 7 f := by rw [hf628674]
                                have r628814 : γ 19 (γ 1 q625974) = γ 19 f := by rw [hf628674]
                                have r628815 := r628806.resolve_left (by omega)
                                clear r628806
                                have r628816 : γ 2 (γ 14 q625974) = γ 2 q628797 := by rw [ht628807.1]
                                have pl628794 := sp_put hT628666 ht628671 hf628672 pl628738 n628788 hp628739 (show (g625833.toInt : Int).toNat < γ 6 f from tn_lt (by omega) (by omega)) (by unfold rwL; rw [x628654.2.2]; exact tn_le1 (by omega) (by omega))
                                have ac628817 : (fI (F628782 q587500) 11).toInt = p628692.toInt := by rw [he628785]; rfl
                                have ac628818 : (fI (F628782 q587500) 14).toInt = p628695.toInt := by rw [he628785]; rfl
                                refine G_lv (L' := [(0, .ref q587500), (1, .ref q587501), (2, .int g625833), (3, .ref q625974), (4, .int z628741), (5, .ref q627559), (6, .int p628420), (7, .int p628421)]) [7, 8, 6, 5, 0, 4, 3, 2] rfl ?_
                                exact jn236_628139 P628660 F628782 γ el z628741 q627559 p628420 p628421 (gB_w bz628741 (by decide) (by decide)) (gB_w rb628459 (by decide) (by decide)) (gB_w rb628625 (by decide) (by decide)) hT628791 hs628793 hph628682 hB628665 ht628673 hf628674 x628654.2.1 x628654.2.2 ht628677 hf628678 (by omega) (by omega) (by omega) (by omega) (by omega) (by omega) kp628790 (by rw [(show (z628741.toInt : Int).toNat = ((g627478.toInt : Int).toNat + 1) from tn_eq1 (by omega) (by omega))]; exact pl628794) (by rw [(show (z628741.toInt : Int).toNat = ((g627478.toInt : Int).toNat + 1) from tn_eq1 (by omega) (by omega))]; exact hp628739) (rS1_of he628417 he628786 pl628431.2 (fun _ _ _ _ => Or.inl (by omega)) (fun _ _ _ => Or.inl (by omega))) (by omega) (by omega) (ms_j hm90_627500 (by omega) (by omega) (by omega)) (eO_c (op := p628418.toInt) (by rw [he628786] <;> rfl) (Or.inr ((gHe r628429).resolve_left (fun z => absurd (ht627566.2.symm.trans z) (by decide))))) kp628789 mk628787
                            · have r628819 : o628650.toInt < 0 := gj_nleL hc628735 (show Int32.toInt 0 = 0 by decide)
                              have bo628650' : gB o628650 (-1) (-1) := ⟨by omega, by omega⟩
                              refine G_iconst 0 dr_cX17_spill_210 (by decide +kernel) ?_
                              exact G_zretA FieldType.boolean dr_cX17_spill_211 rfl rfl (rm_zc pk628683) (rm_zs pk628683) ⟨P628660, F628661, γ, el, 0, rfl, rfl, hs628667, (rm_pp hph628682), hB628665, (gB_w (gBl (show Int32.toInt 0 = 0 by decide)) (by decide) (by decide)), (by have qa0 : Int32.toInt 0 = 0 := (by decide); omega), (Or.inl (by decide)), kp628668, mk628681⟩
                    · have r628820 : g627478.toInt < p627581.toInt := gC_nle hc628411
                      have bg627478'' : gB g627478 0 999999 := ⟨by omega, by omega⟩
                      have bp627581' : gB p627581 1 1000000 := ⟨by omega, by omega⟩
                      refine G_aload_n 1 dr_cX17_spill_114 rfl ?_
                      refine Gp_get 0 hm627556 he627557 dr_cX17_spill_115 (gk_X12 D I) (Nat.le_of_ble_eq_true rfl) wr_9_220 rfl ?_
                      refine G_iload 0 dr_cX17_spill_118 rfl ?_
                      obtain ⟨r628821, r628822, n628829, f628830, r628823, r628824, r628825, r628826, r628827, r628828⟩ := rLC_n r627585 (by omega)
                      have hm628831 : q627582 ∈ P627479 := RS_m hT627481 r628821 (by decide)
                      obtain ⟨q628832, hx628833⟩ : ∃ x, x = el q627558 g627478.toInt.toNat := ⟨_, rfl⟩
                      have hx628834 : f628830 g627478.toNatClampNeg = some q628832 := (r628827 _ (show g627478.toInt.toNat < γ 2 q627558 by first | assumption | omega)).trans (by rw [hx628833])
                      have ht628835 : rKd γ q628832 1 := by rw [hx628833]; exact (r627586 _ (show g627478.toInt.toNat < γ 2 q627558 by first | assumption | omega)).1
                      have ht628836 : rFm γ q628832 q627558 := by rw [hx628833]; exact (r627586 _ (show g627478.toInt.toNat < γ 2 q627558 by first | assumption | omega)).2.1
                      have hf628837 : γ 1 q628832 = f := (show γ 1 q628832 = γ 1 q627558 from ht628836).trans hf627571
                      refine Gw_callV (As := [.int g627478]) (gV_ok D I) (cp_22_ArrayList_get l hl0 D I P627479 F627480 q627558 q627582 g627478 p627580 p627581 f628830 n628829 q628832 hm627578 hm628831 he627579 r628823 (gB_w bg627478'' (by decide) (by decide)) (gB_w bp627581' (by decide) (by decide)) (by omega) (by omega) (by assumption) (by omega)) dr_cX17_spill_120 ⟨wr_10_201, wr_1_18, wr_10_65, by decide, rfl, (Nat.le_of_ble_eq_true rfl), (Nat.le_of_ble_eq_true rfl)⟩ wr_10_63 wr_10_64 hm627578 he627579 rfl (rm_zc pk627505) (rm_zs pk627505) (Nat.le_of_ble_eq_true rfl) (fun r628841 w628842 dc628838 ds628839 hp628840 => ?_) (fun _ _ _ _ _ z => z.elim)
                      obtain ⟨rfl, rfl, hdc, hds, ht628843⟩ := hp628840
                      change G _ _ _ _ _ _ _ (.ref q628832 :: _) _ _ _
                      refine G_widen (cs' := ((rPh γ el f - rPh γ0 el0 f) / 18)) (sl' := (rPh γ el f - rPh γ0 el0 f)) (rm_d0 hdc) (rm_d0 hds) ?_
                      have hm628844 : q628832 ∈ P627479 := RS_m hT627481 ht628835 (by decide)
                      obtain ⟨p628846, p628847, p628848, p628849, p628850, p628851, p628852, he628845, bp628846, bp628847, bp628850, bp628851, bp628852, r628853, r628854, r628855, r628856, r628857⟩ := show rk_1 γ q628832 (F627480 q628832) from RS_o hT627481 ht628835
                      have bp628848 := gB_any p628848
                      have bp628849 := gB_any p628849
                      replace r628853 : gH _ := r628853
                      replace r628854 : gH _ := r628854
                      replace r628855 : gH _ := r628855
                      replace r628856 : gH _ := r628856
                      replace r628857 : gH _ := r628857
                      have r628858 : γ 7 (γ 1 q628832) = γ 7 f := by rw [hf628837]
                      refine Gp_cast hm628844 he628845 rfl dr_cX17_spill_123 wr_10_202 (gr_cast 1 rfl) ?_
                      refine G_goto 133 dr_cX17_spill_126 (by decide +kernel) ?_
                      have fl628861 : p627581.toInt = γ 2 q627558 := r627583
                      have hp628859 : rAt γ el q587501 (g625833.toInt : Int).toNat (g627478.toInt : Int).toNat = q628832 := (rAt_r r627488 ht627568.1 (by omega)).trans (by rw [hx628833])
                      have hL628860 : (g627478.toInt : Int).toNat ≤ γ 2 (rwL γ el q587501 (g625833.toInt : Int).toNat) := by unfold rwL; rw [r627488, ht627568.1]; exact tn_le0 (by omega) (by omega)
                      have pl628862 := sp_hd x627496 hp628859 (show (g625833.toInt : Int).toNat < γ 6 f from tn_lt (by omega) (by omega)) hL628860
                      refine G_astore (L' := [(5, .ref q628832), (4, .int g627478), (3, .ref q625974), (2, .int g625833), (0, .ref q587500), (1, .ref q587501)]) dr_cX17_spill_133 (Nat.le_of_ble_eq_true rfl) rfl ?_
                      refine G_aload 0 dr_cX17_spill_135 rfl ?_
                      refine Gw_callV (As := []) (gV_ok D I) (cp_407626_Row_usesA l hl0 D I P627479 F627480 q628832 p628846 p628847 p628848 p628849 p628850 p628851 p628852 hm628844 he628845 bp628846 bp628847 bp628850 bp628851 bp628852) dr_cX17_spill_137 ⟨wr_10_192, wr_1_39, wr_10_195, by decide, rfl, (Nat.le_of_ble_eq_true rfl), (Nat.le_of_ble_eq_true rfl)⟩ wr_10_193 wr_10_194 hm628844 he628845 rfl (rm_zc pk627505) (rm_zs pk627505) (Nat.le_of_ble_eq_true rfl) (fun r628866 w628867 dc628863 ds628864 hp628865 => ?_) (fun _ _ _ _ _ z => z.elim)
                      obtain ⟨o628868, rfl, rfl, hdc, hds, bo628868, x628869, ht628870⟩ := hp628865
                      change G _ _ _ _ _ _ _ (.int o628868 :: _) _ _ _
                      refine G_widen (cs' := ((rPh γ el f - rPh γ0 el0 f) / 18)) (sl' := (rPh γ el f - rPh γ0 el0 f)) (rm_d0 hdc) (rm_d0 hds) ?_
                      refine G_if_eq 151 dr_cX17_spill_140 (by decide +kernel) (fun hc628871 => ?_) (fun hc628871 => ?_)
                      · have r628872 : o628868.toInt = 0 := gj_eq hc628871 (show Int32.toInt 0 = 0 by decide)
                        have bo628868' : gB o628868 0 0 := gB_t0 r628872
                        refine G_iconst (-1) dr_cX17_spill_151 (by decide +kernel) ?_
                        refine G_istore (L' := [(6, .int (-1)), (5, .ref q628832), (4, .int g627478), (3, .ref q625974), (2, .int g625833), (0, .ref q587500), (1, .ref q587501)]) dr_cX17_spill_152 (Nat.le_of_ble_eq_true rfl) rfl ?_
                        refine G_aload 1 dr_cX17_spill_154 rfl ?_
                        refine Gw_callV (As := []) (gV_ok D I) (cp_407650_Row_usesB l hl0 D I P627479 F627480 q628832 p628846 p628847 p628848 p628849 p628850 p628851 p628852 hm628844 he628845 bp628846 bp628847 bp628850 bp628851 bp628852) dr_cX17_spill_156 ⟨wr_10_196, wr_1_39, wr_10_199, by decide, rfl, (Nat.le_of_ble_eq_true rfl), (Nat.le_of_ble_eq_true rfl)⟩ wr_10_197 wr_10_198 hm628844 he628845 rfl (rm_zc pk627505) (rm_zs pk627505) (Nat.le_of_ble_eq_true rfl) (fun r628876 w628877 dc628873 ds628874 hp628875 => ?_) (fun _ _ _ _ _ z => z.elim)
                        obtain ⟨o628878, rfl, rfl, hdc, hds, bo628878, x628879, ht628880⟩ := hp628875
                        change G _ _ _ _ _ _ _ (.int o628878 :: _) _ _ _
                        refine G_widen (cs' := ((rPh γ el f - rPh γ0 el0 f) / 18)) (sl' := (rPh γ el f - rPh γ0 el0 f)) (rm_d0 hdc) (rm_d0 hds) ?_
                        refine G_if_eq 170 dr_cX17_spill_159 (by decide +kernel) (fun hc628881 => ?_) (fun hc628881 => ?_)
                        · have r628882 : o628878.toInt = 0 := gj_eq hc628881 (show Int32.toInt 0 = 0 by decide)
                          have bo628878' : gB o628878 0 0 := gB_t0 r628882
                          refine G_iconst (-1) dr_cX17_spill_170 (by decide +kernel) ?_
                          refine G_istore (L' := [(7, .int (-1)), (6, .int (-1)), (5, .ref q628832), (4, .int g627478), (3, .ref q625974), (2, .int g625833), (0, .ref q587500), (1, .ref q587501)]) dr_cX17_spill_171 (Nat.le_of_ble_eq_true rfl) rfl ?_
                          refine G_iload 1 dr_cX17_spill_173 rfl ?_
                          refine G_if_lt 236 dr_cX17_spill_175 (by decide +kernel) (fun _ => ?_) (fun hc => absurd hc (by decide))
                          have ac628883 : (fI (F627480 q587500) 11).toInt = p627513.toInt := by rw [he627508]; rfl
                          have ac628884 : (fI (F627480 q587500) 14).toInt = p627516.toInt := by rw [he627508]; rfl
                          refine G_lv (L' := [(0, .ref q587500), (1, .ref q587501), (2, .int g625833), (3, .ref q625974), (4, .int g627478), (5, .ref q628832), (6, .int (-1)), (7, .int (-1))]) [6, 7, 5, 4, 3, 2, 1, 0] rfl ?_
                          exact jn236_628139 P627479 F627480 γ el g627478 q628832 (-1) (-1) (gB_w bg627478'' (by decide) (by decide)) (gB_w (gBl (show Int32.toInt (-1) = (-1) by decide)) (by decide) (by decide)) (gB_w (gBl (show Int32.toInt (-1) = (-1) by decide)) (by decide) (by decide)) hT627481 hs627482 hph627483 hB627484 ht627485 hf627486 r627487 r627488 ht628835 hf628837 (by have qa0 : Int32.toInt (-1) = (-1) := (by decide); omega) (by have qa0 : Int32.toInt (-1) = (-1) := (by decide); omega) (by have qa0 : Int32.toInt (-1) = (-1) := (by decide); omega) (by have qa0 : Int32.toInt (-1) = (-1) := (by decide); omega) (by have qa0 : Int32.toInt (-1) = (-1) := (by decide); omega) (by have qa0 : Int32.toInt (-1) = (-1) := (by decide); omega) x627495 (by exact pl628862.1) (by exact hp628859) (rS1_of he628845 he628845 pl628862.2 (fun h1 h2 h3 h4 => (uA_0 x628869 (by omega) h1 h2 h3 h4).elim) (fun h1 h2 h3 => (uB_0 x628879 (by omega) h1 h2 h3).elim)) (by have qa0 : Int32.toInt (-1) = (-1) := (by decide); omega) (by have qa0 : Int32.toInt (-1) = (-1) := (by decide); omega) (ms_j hm90_627500 (by omega) (by omega) (by omega)) (eO_l (by omega)) x627499 x627500
                        · have r628885 : o628878.toInt ≠ 0 := gj_neq hc628881 (show Int32.toInt 0 = 0 by decide)
                          have bo628878' : gB o628878 1 1 := gB_t1 bo628878 r628885
                          refine G_aload 1 dr_cX17_spill_162 rfl ?_
                          refine Gp_get 3 hm628844 he628845 dr_cX17_spill_164 (gk_X15 D I) (Nat.le_of_ble_eq_true rfl) wr_9_190 rfl ?_
                          have rb628886 : gB p628849 0 1999 := (gHe r628855).resolve_left (by have z := (uB_1 x628879 (by omega)).2.2; omega)
                          refine G_goto 171 dr_cX17_spill_167 (by decide +kernel) ?_
                          refine G_istore (L' := [(7, .int p628849), (6, .int (-1)), (5, .ref q628832), (4, .int g627478), (3, .ref q625974), (2, .int g625833), (0, .ref q587500), (1, .ref q587501)]) dr_cX17_spill_171 (Nat.le_of_ble_eq_true rfl) rfl ?_
                          refine G_iload 1 dr_cX17_spill_173 rfl ?_
                          refine G_if_lt 236 dr_cX17_spill_175 (by decide +kernel) (fun _ => ?_) (fun hc => absurd hc (by decide))
                          have ac628887 : (fI (F627480 q587500) 11).toInt = p627513.toInt := by rw [he627508]; rfl
                          have ac628888 : (fI (F627480 q587500) 14).toInt = p627516.toInt := by rw [he627508]; rfl
                          refine G_lv (L' := [(0, .ref q587500), (1, .ref q587501), (2, .int g625833), (3, .ref q625974), (4, .int g627478), (5, .ref q628832), (6, .int (-1)), (7, .int p628849)]) [6, 7, 5, 4, 3, 2, 1, 0] rfl ?_
                          exact jn236_628139 P627479 F627480 γ el g627478 q628832 (-1) p628849 (gB_w bg627478'' (by decide) (by decide)) (gB_w (gBl (show Int32.toInt (-1) = (-1) by decide)) (by decide) (by decide)) (gB_w rb628886 (by decide) (by decide)) hT627481 hs627482 hph627483 hB627484 ht627485 hf627486 r627487 r627488 ht628835 hf628837 (by have qa0 : Int32.toInt (-1) = (-1) := (by decide); omega) (by have qa0 : Int32.toInt (-1) = (-1) := (by decide); omega) (by have qa0 : Int32.toInt (-1) = (-1) := (by decide); omega) (by have qa0 : Int32.toInt (-1) = (-1) := (by decide); omega) (by have qa0 : Int32.toInt (-1) = (-1) := (by decide); omega) (by have qa0 : Int32.toInt (-1) = (-1) := (by decide); omega) x627495 (by exact pl628862.1) (by exact hp628859) (rS1_of he628845 he628845 pl628862.2 (fun h1 h2 h3 h4 => (uA_0 x628869 (by omega) h1 h2 h3 h4).elim) (fun _ _ _ => Or.inr ⟨rfl, rfl, by omega, Or.inl (by have qa : Int32.toInt (-1) = -1 := (by decide); omega)⟩)) (by have qa0 : Int32.toInt (-1) = (-1) := (by decide); omega) (by have qa0 : Int32.toInt (-1) = (-1) := (by decide); omega) (ms_j hm90_627500 (by omega) (by omega) (by omega)) (eO_l (by omega)) x627499 x627500
                      · have r628889 : o628868.toInt ≠ 0 := gj_neq hc628871 (show Int32.toInt 0 = 0 by decide)
                        have bo628868' : gB o628868 1 1 := gB_t1 bo628868 r628889
                        refine G_aload 0 dr_cX17_spill_143 rfl ?_
                        refine Gp_get 2 hm628844 he628845 dr_cX17_spill_145 (gk_X15 D I) (Nat.le_of_ble_eq_true rfl) wr_9_186 rfl ?_
                        have rb628890 : gB p628848 0 1999 := (gHe r628854).resolve_left (by have z := (uA_1 x628869 (by omega)).2.2.2; omega)
                        refine G_goto 152 dr_cX17_spill_148 (by decide +kernel) ?_
                        refine G_istore (L' := [(6, .int p628848), (5, .ref q628832), (4, .int g627478), (3, .ref q625974), (2, .int g625833), (0, .ref q587500), (1, .ref q587501)]) dr_cX17_spill_152 (Nat.le_of_ble_eq_true rfl) rfl ?_
                        refine G_aload 1 dr_cX17_spill_154 rfl ?_
                        refine Gw_callV (As := []) (gV_ok D I) (cp_407650_Row_usesB l hl0 D I P627479 F627480 q628832 p628846 p628847 p628848 p628849 p628850 p628851 p628852 hm628844 he628845 bp628846 bp628847 bp628850 bp628851 bp628852) dr_cX17_spill_156 ⟨wr_10_196, wr_1_39, wr_10_199, by decide, rfl, (Nat.le_of_ble_eq_true rfl), (Nat.le_of_ble_eq_true rfl)⟩ wr_10_197 wr_10_198 hm628844 he628845 rfl (rm_zc pk627505) (rm_zs pk627505) (Nat.le_of_ble_eq_true rfl) (fun r628894 w628895 dc628891 ds628892 hp628893 => ?_) (fun _ _ _ _ _ z => z.elim)
                        obtain ⟨o628896, rfl, rfl, hdc, hds, bo628896, x628897, ht628898⟩ := hp628893
                        change G _ _ _ _ _ _ _ (.int o628896 :: _) _ _ _
                        refine G_widen (cs' := ((rPh γ el f - rPh γ0 el0 f) / 18)) (sl' := (rPh γ el f - rPh γ0 el0 f)) (rm_d0 hdc) (rm_d0 hds) ?_
                        refine G_if_eq 170 dr_cX17_spill_159 (by decide +kernel) (fun hc628899 => ?_) (fun hc628899 => ?_)
                        · have r628900 : o628896.toInt = 0 := gj_eq hc628899 (show Int32.toInt 0 = 0 by decide)
                          have bo628896' : gB o628896 0 0 := gB_t0 r628900
                          refine G_iconst (-1) dr_cX17_spill_170 (by decide +kernel) ?_
                          refine G_istore (L' := [(7, .int (-1)), (6, .int p628848), (5, .ref q628832), (4, .int g627478), (3, .ref q625974), (2, .int g625833), (0, .ref q587500), (1, .ref q587501)]) dr_cX17_spill_171 (Nat.le_of_ble_eq_true rfl) rfl ?_
                          refine G_iload 1 dr_cX17_spill_173 rfl ?_
                          refine G_if_lt 236 dr_cX17_spill_175 (by decide +kernel) (fun hc => absurd (show False by have := gj_lt hc (show Int32.toInt 0 = 0 by decide); omega) not_false) (fun _ => ?_)
                          refine G_aload_n 6 dr_cX17_spill_178 rfl ?_
                          refine Gp_get 19 hm627507 he627508 dr_cX17_spill_179 (gk_X17 D I) (Nat.le_of_ble_eq_true rfl) wr_7_93 rfl ?_
                          refine G_iload 1 dr_cX17_spill_182 rfl ?_
                          have hm628901 : (γ 9 19) ∈ P627479 := RS_m hT627481 ht627541 (by decide)
                          obtain ⟨f628903, he628902, bf628903⟩ := show rk_21 I (F627480 (γ 9 19)) from RS_o hT627481 ht627541
                          refine Gp_iald 0 hm628901 he628902 dr_cX17_spill_184 rfl (gB_in rb628890 (by decide) (by decide)) (G_nam fun z628904 hz628904 => ?_)
                          have bz628904 : gB z628904 (-1) 1999 := by rw [hz628904]; exact bf628903 _
                          have c9_628905 : cB (F622564 (γ0 9 19)) = f628903 := by rw [← x627495, ← congrFun (rSk_9 hs627482) 19]; exact cB_of he628902
                          have hs628906 : (cB (F622564 (γ0 9 19)) p628848.toInt.toNat).toInt = z628904.toInt := by rw [c9_628905, hz628904]; rfl
                          refine G_if_lt 236 dr_cX17_spill_185 (by decide +kernel) (fun hc628908 => ?_) (fun hc628908 => ?_)
                          · have r628909 : z628904.toInt < 0 := gj_lt hc628908 (show Int32.toInt 0 = 0 by decide)
                            have bz628904' : gB z628904 (-1) (-1) := ⟨by omega, by omega⟩
                            have ac628910 : (fI (F627480 q587500) 11).toInt = p627513.toInt := by rw [he627508]; rfl
                            have ac628911 : (fI (F627480 q587500) 14).toInt = p627516.toInt := by rw [he627508]; rfl
                            refine G_lv (L' := [(0, .ref q587500), (1, .ref q587501), (2, .int g625833), (3, .ref q625974), (4, .int g627478), (5, .ref q628832), (6, .int p628848), (7, .int (-1))]) [6, 7, 5, 4, 3, 2, 1, 0] rfl ?_
                            exact jn236_628139 P627479 F627480 γ el g627478 q628832 p628848 (-1) (gB_w bg627478'' (by decide) (by decide)) (gB_w rb628890 (by decide) (by decide)) (gB_w (gBl (show Int32.toInt (-1) = (-1) by decide)) (by decide) (by decide)) hT627481 hs627482 hph627483 hB627484 ht627485 hf627486 r627487 r627488 ht628835 hf628837 (by have qa0 : Int32.toInt (-1) = (-1) := (by decide); omega) (by have qa0 : Int32.toInt (-1) = (-1) := (by decide); omega) (by have qa0 : Int32.toInt (-1) = (-1) := (by decide); omega) (by have qa0 : Int32.toInt (-1) = (-1) := (by decide); omega) (by have qa0 : Int32.toInt (-1) = (-1) := (by decide); omega) (by have qa0 : Int32.toInt (-1) = (-1) := (by decide); omega) x627495 (by exact pl628862.1) (by exact hp628859) (rS1_of he628845 he628845 pl628862.2 (fun _ _ _ _ => Or.inr ⟨rfl, by omega⟩) (fun h1 h2 h3 => (uB_0 x628897 (by omega) h1 h2 h3).elim)) (by have qa0 : Int32.toInt (-1) = (-1) := (by decide); omega) (by have qa0 : Int32.toInt (-1) = (-1) := (by decide); omega) (ms_j hm90_627500 (by omega) (by omega) (by omega)) (eO_l (by omega)) x627499 x627500
                          · have r628912 : 0 ≤ z628904.toInt := gj_nlt hc628908 (show Int32.toInt 0 = 0 by decide)
                            have bz628904' : gB z628904 0 1999 := ⟨by omega, by omega⟩
                            refine G_aload_n 6 dr_cX17_spill_188 rfl ?_
                            refine G_aload_n 7 dr_cX17_spill_189 rfl ?_
                            refine G_aload_n 4 dr_cX17_spill_190 rfl ?_
                            refine G_iload 3 dr_cX17_spill_191 rfl ?_
                            refine G_aload_n 6 dr_cX17_spill_193 rfl ?_
                            refine Gp_get 19 hm627507 he627508 dr_cX17_spill_194 (gk_X17 D I) (Nat.le_of_ble_eq_true rfl) wr_7_93 rfl ?_
                            refine G_iload 1 dr_cX17_spill_197 rfl ?_
                            refine Gp_iald 0 hm628901 he628902 dr_cX17_spill_199 rfl (gB_in rb628890 (by decide) (by decide)) (G_eqi (y := z628904) hz628904.symm ?_)
                            have r628913 := (spi622649.2.2.2 p628848.toInt.toNat (tn_lt (by omega) (by omega)) (by omega)).2.2
                            have ac628914 : (fI (F627480 q587500) 11).toInt = p627513.toInt := by rw [he627508]; rfl
                            have ac628915 : (fI (F627480 q587500) 14).toInt = p627516.toInt := by rw [he627508]; rfl
                            have rg628916 := rM_ge hT627481 ht627503 hf627504
                            have rm628917 := rM_bd hB627484
                            have bd628918 := rBd_c hT627481 ht627503 hf627504 hB627484
                            have rc628919 := rc_at hT627481 ht627503 hf627504
                            refine Gw_callV (As := [.ref q587501, .ref q625974, .int g627478, .int z628904]) (gV_ok D I) (cg_407264_SpillForgeModel_load l hl0 D I γ el f B P627479 F627480 q587500 q587501 q625974 g627478 z628904 g625833.toInt.toNat hT627481 ht627502 ht627503 ht627485 hf627504 hB627484 hBk r627487 r627488 hf627486 (gB_w bg627478'' (by decide) (by decide)) bz628904' (by have qa0 : Int32.toInt (-1) = (-1) := (by decide); omega) (by have qa0 : Int32.toInt (-1) = (-1) := (by decide); omega) (by have qa0 : Int32.toInt (-1) = (-1) := (by decide); omega) (by have qa0 : Int32.toInt (-1) = (-1) := (by decide); omega) (by have qa0 : Int32.toInt (-1) = (-1) := (by decide); omega)) dr_cX17_spill_200 ⟨wr_11_67, wr_1_14, wr_11_70, by decide, rfl, (Nat.le_of_ble_eq_true rfl), (Nat.le_of_ble_eq_true rfl)⟩ wr_11_69 wr_p_111 hm627507 he627508 rfl (rm_gc hph627483 pk627505) (rm_gs hph627483 pk627505) (Nat.le_of_ble_eq_true rfl) (fun r628923 w628924 dc628920 ds628921 hp628922 => ?_) (fun _ _ _ _ _ z => z.elim)
                            obtain ⟨P628935, F628936, γ, el, o628925, rfl, rfl, hk628937, ⟨hr628938, hr628939⟩, hB628940, bo628925, x628926, x628927, x628928, x628929, x628930, x628931, x628932, x628933, x628934⟩ := hp628922
                            have hT628941 := hk628937.1
                            have hs628942 := rSk_tr hs627482 hk628937 (by decide) (by decide) (by decide)
                            have kp628943 : F628936 (γ0 9 3) = F587499 (γ0 9 3) := (rSk_F hk628937 (rSk_k hs627482 k0_3 (by decide) (by decide)) (by decide) (by decide)).trans x627499
                            have kp628944 : F628936 (γ0 9 19) = F622564 (γ0 9 19) := (rSk_F hk628937 (rSk_k hs627482 k0_19 (by decide) (by decide)) (by decide) (by decide)).trans x627495
                            have ht628945 : rKd γ q587500 10 := rSk_k hk628937 ht627502 (by decide) (by decide)
                            have ht628946 : rKd γ q587501 9 := rSk_k hk628937 ht627503 (by decide) (by decide)
                            have hf628947 : γ 1 q587501 = f := rSk_1 hk628937 ht627503 (by decide) hf627504
                            have ht628948 : rKd γ q625974 2 := rSk_k hk628937 ht627485 (by decide) (by decide)
                            have hf628949 : γ 1 q625974 = f := rSk_1 hk628937 ht627485 (by decide) hf627486
                            have ht628950 : rKd γ q627558 3 := rSk_k hk628937 ht627562 (by decide) (by decide)
                            have hf628951 : γ 1 q627558 = f := rSk_1 hk628937 ht627562 (by decide) hf627571
                            have ht628952 : rKd γ q628832 1 := rSk_k hk628937 ht628835 (by decide) (by decide)
                            have hf628953 : γ 1 q628832 = f := rSk_1 hk628937 ht628835 (by decide) hf628837
                            have he628954 : F628936 q628832 = .inr (20, [.int p628846, .int p628847, .int p628848, .int p628849, .int p628850, .int p628851, .int p628852]) := (rSk_F hk628937 ht628835 (by decide) (by decide)).trans he628845
                            have hm628955 : q628832 ∈ P628935 := RS_m hT628941 ht628952 (by decide)
                            clear bp627560 bp627561 r627569 r627570 rg628916 rm628917 bd628918 rc628919
                            have mk628956 : mKp (F587499 q587500) (F628936 q587500) := mKp_tr x627500 x628934
                            have hph628957 : rPh γ0 el0 f ≤ rPh γ el f := rm_ph hph627483 hr628939
                            have pk628958 : rPh γ el f ≤ 387 * B + 6000 := rm_pk (rM_ge hT628941 ht628946 hf628947).1 (rM_bd hB628940)
                            change G _ _ _ _ _ _ _ (.int o628925 :: _) _ _ _
                            refine G_widen (cs' := ((rPh γ el f - rPh γ0 el0 f) / 18)) (sl' := (rPh γ el f - rPh γ0 el0 f)) (rm_wc hph627483 hr628938) (rm_ws hph627483 hr628939) ?_
                            have sz628959 := x628926
                            have r628960 : 0 < γ 6 (γ 1 q587501) := by rw [hf628947]; omega
                            have hm628961 : q587500 ∈ P628935 := RS_m hT628941 ht628945 (by decide)
                            refine rk10_e (show rk_10 γ (F628936 q587500) from RS_o hT628941 ht628945) (fun q628963 q628964 p628965 p628966 p628967 p628968 p628969 p628970 p628971 p628972 p628973 p628974 p628975 p628976 p628977 p628978 p628979 he628962 hB629006 ht628980 ht628981 ht628982 ht628983 ht628984 ht628985 ht628986 ht628987 ht628988 ht628989 ht628990 ht628991 ht628992 ht628993 ht628994 ht628995 ht628996 ht628997 ht628998 ht628999 ht629000 ht629001 ht629002 ht629003 hB629007 => ?_)
                            have ac629008 : (fI (F628936 q587500) 11).toInt = p628967.toInt := by rw [he628962]; rfl
                            have bp628967 : gB p628967 0 100 := (hB629006.2.2.1)
                            have ac629009 : (fI (F628936 q587500) 14).toInt = p628970.toInt := by rw [he628962]; rfl
                            have bp628970 : gB p628970 0 2000 := (hB629006.2.2.2.1)
                            refine G_istore (L' := [(8, .int o628925), (7, .int (-1)), (6, .int p628848), (5, .ref q628832), (4, .int g627478), (3, .ref q625974), (2, .int g625833), (0, .ref q587500), (1, .ref q587501)]) dr_cX17_spill_203 (Nat.le_of_ble_eq_true rfl) rfl ?_
                            refine G_iload 0 dr_cX17_spill_205 rfl ?_
                            refine G_if_ge 212 dr_cX17_spill_207 (by decide +kernel) (fun hc629010 => ?_) (fun hc629010 => ?_)
                            · have r629011 : 0 ≤ o628925.toInt := gj_leL hc629010 (show Int32.toInt 0 = 0 by decide)
                              have bo628925' : gB o628925 0 1999 := ⟨by omega, by omega⟩
                              have pl629013 := sp_ld (x628932.resolve_left (by omega)) pl628862.1 (tn_ge (by omega)) (rfl : ((g627478.toInt : Int).toNat + 1) = (g627478.toInt : Int).toNat + 1)
                              have hp629014 : rAt γ el q587501 (g625833.toInt : Int).toNat ((g627478.toInt : Int).toNat + 1) = q628832 := ((x628933.resolve_left (by omega)) (g627478.toInt : Int).toNat (Nat.le_refl _)).trans hp628859
                              have r629015 := x628930.resolve_left (by omega)
                              clear x628930 x628932 x628933
                              obtain ⟨z629016, hz629016⟩ : ∃ z : Int32, z = g627478 + Int32.ofInt 1 := ⟨_, rfl⟩
                              have ez629016 : z629016.toInt = g627478.toInt + 1 := gI_inc hz629016 (by decide) bg627478'' (by decide) (by decide)
                              have bz629016 : gB z629016 1 1000000 := ⟨by omega, by omega⟩
                              refine G_iinc (L' := [(4, .int z629016), (8, .int o628925), (7, .int (-1)), (6, .int p628848), (5, .ref q628832), (3, .ref q625974), (2, .int g625833), (0, .ref q587500), (1, .ref q587501)]) z629016 4 dr_cX17_spill_212 rfl hz629016.symm (Nat.le_of_ble_eq_true rfl) rfl ?_
                              refine G_aload 4 dr_cX17_spill_215 rfl ?_
                              refine G_iload 1 dr_cX17_spill_217 rfl ?_
                              refine Gp_put 2 hm628955 he628954 dr_cX17_spill_219 (gk_X15 D I) (Nat.le_of_ble_eq_true rfl) wr_9_186 rfl rfl rfl (Nat.le_of_ble_eq_true rfl) (fun F629017 e629018 n629019 => ?_)
                              have r629020 := rk1_at hT628941 ht628952 he628954
                              have he629021 : F629017 q587500 = .inr (22, [.ref (γ 9 0), .ref (γ 9 1), .ref (γ 9 2), .ref (γ 9 3), .ref (γ 9 4), .ref (γ 9 5), .ref (γ 9 6), .ref (γ 9 7), .ref (γ 9 8), .int p628965, .int p628966, .int p628967, .int p628968, .int p628969, .int p628970, .ref (γ 9 15), .ref (γ 9 16), .ref (γ 9 17), .ref (γ 9 18), .ref (γ 9 19), .ref (γ 9 20), .ref (γ 9 21), .ref (γ 9 22), .int p628971, .int p628972, .int p628973, .int p628974, .int p628975, .ref q628963, .ref (γ 9 29), .int p628976, .ref (γ 9 31), .int p628977, .int p628978, .int p628979, .ref q628964]) := (n629019 q587500 (rn_oo he628962 he628954 (by decide))).trans he628962
                              have he629022 : F629017 q628832 = .inr (20, [.int p628846, .int p628847, .int o628925, .int p628849, .int p628850, .int p628851, .int p628852]) := e629018
                              have mk629023 : mKp (F587499 q587500) (F629017 q587500) := mKp_tr mk628956 (mKp_eq (n629019 q587500 (rn_ty ht628945 ht628952 (by decide))))
                              have kp629024 : F629017 (γ0 9 3) = F587499 (γ0 9 3) := (n629019 (γ0 9 3) (rn_ty (rSk_k hs628942 k0_3 (by decide) (by decide)) ht628952 (by decide))).trans kp628943
                              have kp629025 : F629017 (γ0 9 19) = F622564 (γ0 9 19) := (n629019 (γ0 9 19) (rn_ty (rSk_k hs628942 k0_19 (by decide) (by decide)) ht628952 (by decide))).trans kp628944
                              refine G_iload 2 dr_cX17_spill_222 rfl ?_
                              refine G_iload 3 dr_cX17_spill_224 rfl ?_
                              refine G_icmp_ne 236 dr_cX17_spill_226 (by decide +kernel) (fun _ => ?_) (fun hc => absurd (show False by have := gj_eqL hc (show Int32.toInt (-1) = (-1) by decide); omega) not_false)
                              have hT629026 : RS D I P628935 F629017 γ el := RS_set hT628941 n629019 ht628952 (by decide) ⟨p628846, p628847, o628925, p628849, p628850, p628851, p628852, he629022, bp628846, bp628847, bp628850, bp628851, bp628852, (gHe r628853), (Or.inr bo628925'), (gHe r628855), r629020.1, r629020.2⟩
                              have hs629028 := rSk_put hs628942 hT629026 n629019 ht628952 (by decide) (by decide)
                              have hm629030 : q625974 ∈ P628935 := RS_m hT629026 ht628948 (by decide)
                              obtain ⟨q629032, q629033, p629034, p629035, he629031, ht629042, ht629036, ht629037, ht629038, ht629039, ht629040, bp629034, bp629035, r629041, r629043, r629044⟩ := show rk_2 γ q625974 (F629017 q625974) from RS_o hT629026 ht628948
                              have hf629045 : γ 1 q629032 = f := (show γ 1 q629032 = γ 1 q625974 from ht629037).trans hf628949
                              have hf629046 : γ 1 q629033 = f := (show γ 1 q629033 = γ 1 q625974 from ht629039).trans hf628949
                              have r629047 : γ 6 (γ 1 q625974) = γ 6 f := by rw [hf628949]
                              have r629048 : γ 7 (γ 1 q625974) = γ 7 f := by rw [hf628949]
                              have r629049 : γ 19 (γ 1 q625974) = γ 19 f := by rw [hf628949]
                              have r629050 := r629041.resolve_left (by omega)
                              clear r629041
                              have r629051 : γ 2 (γ 14 q625974) = γ 2 q629032 := by rw [ht629042.1]
                              have pl629029 := sp_put hT628941 ht628946 hf628947 pl629013 n629019 hp629014 (show (g625833.toInt : Int).toNat < γ 6 f from tn_lt (by omega) (by omega)) (by unfold rwL; rw [x628929.2.2]; exact tn_le1 (by omega) (by omega))
                              have ac629052 : (fI (F629017 q587500) 11).toInt = p628967.toInt := by rw [he629021]; rfl
                              have ac629053 : (fI (F629017 q587500) 14).toInt = p628970.toInt := by rw [he629021]; rfl
                              refine G_lv (L' := [(0, .ref q587500), (1, .ref q587501), (2, .int g625833), (3, .ref q625974), (4, .int z629016), (5, .ref q628832), (6, .int p628848), (7, .int (-1))]) [7, 8, 6, 5, 0, 4, 3, 2] rfl ?_
                              exact jn236_628139 P628935 F629017 γ el z629016 q628832 p628848 (-1) (gB_w bz629016 (by decide) (by decide)) (gB_w rb628890 (by decide) (by decide)) (gB_w (gBl (show Int32.toInt (-1) = (-1) by decide)) (by decide) (by decide)) hT629026 hs629028 hph628957 hB628940 ht628948 hf628949 x628929.2.1 x628929.2.2 ht628952 hf628953 (by have qa0 : Int32.toInt (-1) = (-1) := (by decide); omega) (by have qa0 : Int32.toInt (-1) = (-1) := (by decide); omega) (by have qa0 : Int32.toInt (-1) = (-1) := (by decide); omega) (by have qa0 : Int32.toInt (-1) = (-1) := (by decide); omega) (by have qa0 : Int32.toInt (-1) = (-1) := (by decide); omega) (by have qa0 : Int32.toInt (-1) = (-1) := (by decide); omega) kp629025 (by rw [(show (z629016.toInt : Int).toNat = ((g627478.toInt : Int).toNat + 1) from tn_eq1 (by omega) (by omega))]; exact pl629029) (by rw [(show (z629016.toInt : Int).toNat = ((g627478.toInt : Int).toNat + 1) from tn_eq1 (by omega) (by omega))]; exact hp629014) (rS1_of he628845 he629022 pl628862.2 (fun _ _ _ _ => Or.inl (by omega)) (fun h1 h2 h3 => (uB_0 x628897 (by omega) h1 h2 h3).elim)) (by have qa0 : Int32.toInt (-1) = (-1) := (by decide); omega) (by have qa0 : Int32.toInt (-1) = (-1) := (by decide); omega) (ms_j hm90_627500 (by omega) (by omega) (by omega)) (eO_l (by omega)) kp629024 mk629023
                            · have r629054 : o628925.toInt < 0 := gj_nleL hc629010 (show Int32.toInt 0 = 0 by decide)
                              have bo628925' : gB o628925 (-1) (-1) := ⟨by omega, by omega⟩
                              refine G_iconst 0 dr_cX17_spill_210 (by decide +kernel) ?_
                              exact G_zretA FieldType.boolean dr_cX17_spill_211 rfl rfl (rm_zc pk628958) (rm_zs pk628958) ⟨P628935, F628936, γ, el, 0, rfl, rfl, hs628942, (rm_pp hph628957), hB628940, (gB_w (gBl (show Int32.toInt 0 = 0 by decide)) (by decide) (by decide)), (by have qa0 : Int32.toInt (-1) = (-1) := (by decide); have qa1 : Int32.toInt 0 = 0 := (by decide); omega), (Or.inl (by decide)), kp628943, mk628956⟩
                        · have r629055 : o628896.toInt ≠ 0 := gj_neq hc628899 (show Int32.toInt 0 = 0 by decide)
                          have bo628896' : gB o628896 1 1 := gB_t1 bo628896 r629055
                          refine G_aload 1 dr_cX17_spill_162 rfl ?_
                          refine Gp_get 3 hm628844 he628845 dr_cX17_spill_164 (gk_X15 D I) (Nat.le_of_ble_eq_true rfl) wr_9_190 rfl ?_
                          have rb629056 : gB p628849 0 1999 := (gHe r628855).resolve_left (by have z := (uB_1 x628897 (by omega)).2.2; omega)
                          refine G_goto 171 dr_cX17_spill_167 (by decide +kernel) ?_
                          refine G_istore (L' := [(7, .int p628849), (6, .int p628848), (5, .ref q628832), (4, .int g627478), (3, .ref q625974), (2, .int g625833), (0, .ref q587500), (1, .ref q587501)]) dr_cX17_spill_171 (Nat.le_of_ble_eq_true rfl) rfl ?_
                          refine G_iload 1 dr_cX17_spill_173 rfl ?_
                          refine G_if_lt 236 dr_cX17_spill_175 (by decide +kernel) (fun hc => absurd (show False by have := gj_lt hc (show Int32.toInt 0 = 0 by decide); omega) not_false) (fun _ => ?_)
                          refine G_aload_n 6 dr_cX17_spill_178 rfl ?_
                          refine Gp_get 19 hm627507 he627508 dr_cX17_spill_179 (gk_X17 D I) (Nat.le_of_ble_eq_true rfl) wr_7_93 rfl ?_
                          refine G_iload 1 dr_cX17_spill_182 rfl ?_
                          have hm629057 : (γ 9 19) ∈ P627479 := RS_m hT627481 ht627541 (by decide)
                          obtain ⟨f629059, he629058, bf629059⟩ := show rk_21 I (F627480 (γ 9 19)) from RS_o hT627481 ht627541
                          refine Gp_iald 0 hm629057 he629058 dr_cX17_spill_184 rfl (gB_in rb628890 (by decide) (by decide)) (G_nam fun z629060 hz629060 => ?_)
                          have bz629060 : gB z629060 (-1) 1999 := by rw [hz629060]; exact bf629059 _
                          have c9_629061 : cB (F622564 (γ0 9 19)) = f629059 := by rw [← x627495, ← congrFun (rSk_9 hs627482) 19]; exact cB_of he629058
                          have hs629062 : (cB (F622564 (γ0 9 19)) p628848.toInt.toNat).toInt = z629060.toInt := by rw [c9_629061, hz629060]; rfl
                          refine G_if_lt 236 dr_cX17_spill_185 (by decide +kernel) (fun hc629064 => ?_) (fun hc629064 => ?_)
                          · have r629065 : z629060.toInt < 0 := gj_lt hc629064 (show Int32.toInt 0 = 0 by decide)
                            have bz629060' : gB z629060 (-1) (-1) := ⟨by omega, by omega⟩
                            have ac629066 : (fI (F627480 q587500) 11).toInt = p627513.toInt := by rw [he627508]; rfl
                            have ac629067 : (fI (F627480 q587500) 14).toInt = p627516.toInt := by rw [he627508]; rfl
                            refine G_lv (L' := [(0, .ref q587500), (1, .ref q587501), (2, .int g625833), (3, .ref q625974), (4, .int g627478), (5, .ref q628832), (6, .int p628848), (7, .int p628849)]) [6, 7, 5, 4, 3, 2, 1, 0] rfl ?_
                            exact jn236_628139 P627479 F627480 γ el g627478 q628832 p628848 p628849 (gB_w bg627478'' (by decide) (by decide)) (gB_w rb628890 (by decide) (by decide)) (gB_w rb629056 (by decide) (by decide)) hT627481 hs627482 hph627483 hB627484 ht627485 hf627486 r627487 r627488 ht628835 hf628837 (by omega) (by omega) (by omega) (by omega) (by omega) (by omega) x627495 (by exact pl628862.1) (by exact hp628859) (rS1_of he628845 he628845 pl628862.2 (fun _ _ _ _ => Or.inr ⟨rfl, by omega⟩) (fun _ _ _ => Or.inr ⟨rfl, rfl, by omega, (Classical.em (p628849.toInt = p628848.toInt)).elim (fun e => Or.inr (by rw [e]; omega)) (fun e => Or.inl e)⟩)) (by omega) (by omega) (ms_j hm90_627500 (by omega) (by omega) (by omega)) (eO_l (by omega)) x627499 x627500
                          · have r629068 : 0 ≤ z629060.toInt := gj_nlt hc629064 (show Int32.toInt 0 = 0 by decide)
                            have bz629060' : gB z629060 0 1999 := ⟨by omega, by omega⟩
                            refine G_aload_n 6 dr_cX17_spill_188 rfl ?_
                            refine G_aload_n 7 dr_cX17_spill_189 rfl ?_
                            refine G_aload_n 4 dr_cX17_spill_190 rfl ?_
                            refine G_iload 3 dr_cX17_spill_191 rfl ?_
                            refine G_aload_n 6 dr_cX17_spill_193 rfl ?_
                            refine Gp_get 19 hm627507 he627508 dr_cX17_spill_194 (gk_X17 D I) (Nat.le_of_ble_eq_true rfl) wr_7_93 rfl ?_
                            refine G_iload 1 dr_cX17_spill_197 rfl ?_
                            refine Gp_iald 0 hm629057 he629058 dr_cX17_spill_199 rfl (gB_in rb628890 (by decide) (by decide)) (G_eqi (y := z629060) hz629060.symm ?_)
                            have r629069 := (spi622649.2.2.2 p628848.toInt.toNat (tn_lt (by omega) (by omega)) (by omega)).2.2
                            have ac629070 : (fI (F627480 q587500) 11).toInt = p627513.toInt := by rw [he627508]; rfl
                            have ac629071 : (fI (F627480 q587500) 14).toInt = p627516.toInt := by rw [he627508]; rfl
                            have rg629072 := rM_ge hT627481 ht627503 hf627504
                            have rm629073 := rM_bd hB627484
                            have bd629074 := rBd_c hT627481 ht627503 hf627504 hB627484
                            have rc629075 := rc_at hT627481 ht627503 hf627504
                            refine Gw_callV (As := [.ref q587501, .ref q625974, .int g627478, .int z629060]) (gV_ok D I) (cg_407264_SpillForgeModel_load l hl0 D I γ el f B P627479 F627480 q587500 q587501 q625974 g627478 z629060 g625833.toInt.toNat hT627481 ht627502 ht627503 ht627485 hf627504 hB627484 hBk r627487 r627488 hf627486 (gB_w bg627478'' (by decide) (by decide)) bz629060' (by omega) (by omega) (by omega) (by omega) (by omega)) dr_cX17_spill_200 ⟨wr_11_67, wr_1_14, wr_11_70, by decide, rfl, (Nat.le_of_ble_eq_true rfl), (Nat.le_of_ble_eq_true rfl)⟩ wr_11_69 wr_p_111 hm627507 he627508 rfl (rm_gc hph627483 pk627505) (rm_gs hph627483 pk627505) (Nat.le_of_ble_eq_true rfl) (fun r629079 w629080 dc629076 ds629077 hp629078 => ?_) (fun _ _ _ _ _ z => z.elim)
                            obtain ⟨P629091, F629092, γ, el, o629081, rfl, rfl, hk629093, ⟨hr629094, hr629095⟩, hB629096, bo629081, x629082, x629083, x629084, x629085, x629086, x629087, x629088, x629089, x629090⟩ := hp629078
                            have hT629097 := hk629093.1
                            have hs629098 := rSk_tr hs627482 hk629093 (by decide) (by decide) (by decide)
                            have kp629099 : F629092 (γ0 9 3) = F587499 (γ0 9 3) := (rSk_F hk629093 (rSk_k hs627482 k0_3 (by decide) (by decide)) (by decide) (by decide)).trans x627499
                            have kp629100 : F629092 (γ0 9 19) = F622564 (γ0 9 19) := (rSk_F hk629093 (rSk_k hs627482 k0_19 (by decide) (by decide)) (by decide) (by decide)).trans x627495
                            have ht629101 : rKd γ q587500 10 := rSk_k hk629093 ht627502 (by decide) (by decide)
                            have ht629102 : rKd γ q587501 9 := rSk_k hk629093 ht627503 (by decide) (by decide)
                            have hf629103 : γ 1 q587501 = f := rSk_1 hk629093 ht627503 (by decide) hf627504
                            have ht629104 : rKd γ q625974 2 := rSk_k hk629093 ht627485 (by decide) (by decide)
                            have hf629105 : γ 1 q625974 = f := rSk_1 hk629093 ht627485 (by decide) hf627486
                            have ht629106 : rKd γ q627558 3 := rSk_k hk629093 ht627562 (by decide) (by decide)
                            have hf629107 : γ 1 q627558 = f := rSk_1 hk629093 ht627562 (by decide) hf627571
                            have ht629108 : rKd γ q628832 1 := rSk_k hk629093 ht628835 (by decide) (by decide)
                            have hf629109 : γ 1 q628832 = f := rSk_1 hk629093 ht628835 (by decide) hf628837
                            have he629110 : F629092 q628832 = .inr (20, [.int p628846, .int p628847, .int p628848, .int p628849, .int p628850, .int p628851, .int p628852]) := (rSk_F hk629093 ht628835 (by decide) (by decide)).trans he628845
                            have hm629111 : q628832 ∈ P629091 := RS_m hT629097 ht629108 (by decide)
                            clear bp627560 bp627561 r627569 r627570 rg629072 rm629073 bd629074 rc629075
                            have mk629112 : mKp (F587499 q587500) (F629092 q587500) := mKp_tr x627500 x629090
                            have hph629113 : rPh γ0 el0 f ≤ rPh γ el f := rm_ph hph627483 hr629095
                            have pk629114 : rPh γ el f ≤ 387 * B + 6000 := rm_pk (rM_ge hT629097 ht629102 hf629103).1 (rM_bd hB629096)
                            change G _ _ _ _ _ _ _ (.int o629081 :: _) _ _ _
                            refine G_widen (cs' := ((rPh γ el f - rPh γ0 el0 f) / 18)) (sl' := (rPh γ el f - rPh γ0 el0 f)) (rm_wc hph627483 hr629094) (rm_ws hph627483 hr629095) ?_
                            have sz629115 := x629082
                            have r629116 : 0 < γ 6 (γ 1 q587501) := by rw [hf629103]; omega
                            have hm629117 : q587500 ∈ P629091 := RS_m hT629097 ht629101 (by decide)
                            refine rk10_e (show rk_10 γ (F629092 q587500) from RS_o hT629097 ht629101) (fun q629119 q629120 p629121 p629122 p629123 p629124 p629125 p629126 p629127 p629128 p629129 p629130 p629131 p629132 p629133 p629134 p629135 he629118 hB629162 ht629136 ht629137 ht629138 ht629139 ht629140 ht629141 ht629142 ht629143 ht629144 ht629145 ht629146 ht629147 ht629148 ht629149 ht629150 ht629151 ht629152 ht629153 ht629154 ht629155 ht629156 ht629157 ht629158 ht629159 hB629163 => ?_)
                            have ac629164 : (fI (F629092 q587500) 11).toInt = p629123.toInt := by rw [he629118]; rfl
                            have bp629123 : gB p629123 0 100 := (hB629162.2.2.1)
                            have ac629165 : (fI (F629092 q587500) 14).toInt = p629126.toInt := by rw [he629118]; rfl
                            have bp629126 : gB p629126 0 2000 := (hB629162.2.2.2.1)
                            refine G_istore (L' := [(8, .int o629081), (7, .int p628849), (6, .int p628848), (5, .ref q628832), (4, .int g627478), (3, .ref q625974), (2, .int g625833), (0, .ref q587500), (1, .ref q587501)]) dr_cX17_spill_203 (Nat.le_of_ble_eq_true rfl) rfl ?_
                            refine G_iload 0 dr_cX17_spill_205 rfl ?_
                            refine G_if_ge 212 dr_cX17_spill_207 (by decide +kernel) (fun hc629166 => ?_) (fun hc629166 => ?_)
                            · have r629167 : 0 ≤ o629081.toInt := gj_leL hc629166 (show Int32.toInt 0 = 0 by decide)
                              have bo629081' : gB o629081 0 1999 := ⟨by omega, by omega⟩
                              have pl629169 := sp_ld (x629088.resolve_left (by omega)) pl628862.1 (tn_ge (by omega)) (rfl : ((g627478.toInt : Int).toNat + 1) = (g627478.toInt : Int).toNat + 1)
                              have hp629170 : rAt γ el q587501 (g625833.toInt : Int).toNat ((g627478.toInt : Int).toNat + 1) = q628832 := ((x629089.resolve_left (by omega)) (g627478.toInt : Int).toNat (Nat.le_refl _)).trans hp628859
                              have r629171 := x629086.resolve_left (by omega)
                              clear x629086 x629088 x629089
                              obtain ⟨z629172, hz629172⟩ : ∃ z : Int32, z = g627478 + Int32.ofInt 1 := ⟨_, rfl⟩
                              have ez629172 : z629172.toInt = g627478.toInt + 1 := gI_inc hz629172 (by decide) bg627478'' (by decide) (by decide)
                              have bz629172 : gB z629172 1 1000000 := ⟨by omega, by omega⟩
                              refine G_iinc (L' := [(4, .int z629172), (8, .int o629081), (7, .int p628849), (6, .int p628848), (5, .ref q628832), (3, .ref q625974), (2, .int g625833), (0, .ref q587500), (1, .ref q587501)]) z629172 4 dr_cX17_spill_212 rfl hz629172.symm (Nat.le_of_ble_eq_true rfl) rfl ?_
                              refine G_aload 4 dr_cX17_spill_215 rfl ?_
                              refine G_iload 1 dr_cX17_spill_217 rfl ?_
                              refine Gp_put 2 hm629111 he629110 dr_cX17_spill_219 (gk_X15 D I) (Nat.le_of_ble_eq_true rfl) wr_9_186 rfl rfl rfl (Nat.le_of_ble_eq_true rfl) (fun F629173 e629174 n629175 => ?_)
                              have r629176 := rk1_at hT629097 ht629108 he629110
                              have he629177 : F629173 q587500 = .inr (22, [.ref (γ 9 0), .ref (γ 9 1), .ref (γ 9 2), .ref (γ 9 3), .ref (γ 9 4), .ref (γ 9 5), .ref (γ 9 6), .ref (γ 9 7), .ref (γ 9 8), .int p629121, .int p629122, .int p629123, .int p629124, .int p629125, .int p629126, .ref (γ 9 15), .ref (γ 9 16), .ref (γ 9 17), .ref (γ 9 18), .ref (γ 9 19), .ref (γ 9 20), .ref (γ 9 21), .ref (γ 9 22), .int p629127, .int p629128, .int p629129, .int p629130, .int p629131, .ref q629119, .ref (γ 9 29), .int p629132, .ref (γ 9 31), .int p629133, .int p629134, .int p629135, .ref q629120]) := (n629175 q587500 (rn_oo he629118 he629110 (by decide))).trans he629118
                              have he629178 : F629173 q628832 = .inr (20, [.int p628846, .int p628847, .int o629081, .int p628849, .int p628850, .int p628851, .int p628852]) := e629174
                              have mk629179 : mKp (F587499 q587500) (F629173 q587500) := mKp_tr mk629112 (mKp_eq (n629175 q587500 (rn_ty ht629101 ht629108 (by decide))))
                              have kp629180 : F629173 (γ0 9 3) = F587499 (γ0 9 3) := (n629175 (γ0 9 3) (rn_ty (rSk_k hs629098 k0_3 (by decide) (by decide)) ht629108 (by decide))).trans kp629099
                              have kp629181 : F629173 (γ0 9 19) = F622564 (γ0 9 19) := (n629175 (γ0 9 19) (rn_ty (rSk_k hs629098 k0_19 (by decide) (by decide)) ht629108 (by decide))).trans kp629100
                              refine G_iload 2 dr_cX17_spill_222 rfl ?_
                              refine G_iload 3 dr_cX17_spill_224 rfl ?_
                              refine G_icmp_ne 236 dr_cX17_spill_226 (by decide +kernel) (fun hc629182 => ?_) (fun hc629182 => ?_)
                              · have r629183 : p628849.toInt ≠ p628848.toInt := gC_ne hc629182
                                have hT629184 : RS D I P629091 F629173 γ el := RS_set hT629097 n629175 ht629108 (by decide) ⟨p628846, p628847, o629081, p628849, p628850, p628851, p628852, he629178, bp628846, bp628847, bp628850, bp628851, bp628852, (gHe r628853), (Or.inr bo629081'), (gHe r628855), r629176.1, r629176.2⟩
                                have hs629186 := rSk_put hs629098 hT629184 n629175 ht629108 (by decide) (by decide)
                                have hm629188 : q625974 ∈ P629091 := RS_m hT629184 ht629104 (by decide)
                                obtain ⟨q629190, q629191, p629192, p629193, he629189, ht629200, ht629194, ht629195, ht629196, ht629197, ht629198, bp629192, bp629193, r629199, r629201, r629202⟩ := show rk_2 γ q625974 (F629173 q625974) from RS_o hT629184 ht629104
                                have hf629203 : γ 1 q629190 = f := (show γ 1 q629190 = γ 1 q625974 from ht629195).trans hf629105
                                have hf629204 : γ 1 q629191 = f := (show γ 1 q629191 = γ 1 q625974 from ht629197).trans hf629105
                                have r629205 : γ 6 (γ 1 q625974) = γ 6 f := by rw [hf629105]
                                have r629206 : γ 7 (γ 1 q625974) = γ 7 f := by rw [hf629105]
                                have r629207 : γ 19 (γ 1 q625974) = γ 19 f := by rw [hf629105]
                                have r629208 := r629199.resolve_left (by omega)
                                clear r629199
                                have r629209 : γ 2 (γ 14 q625974) = γ 2 q629190 := by rw [ht629200.1]
                                have pl629187 := sp_put hT629097 ht629102 hf629103 pl629169 n629175 hp629170 (show (g625833.toInt : Int).toNat < γ 6 f from tn_lt (by omega) (by omega)) (by unfold rwL; rw [x629085.2.2]; exact tn_le1 (by omega) (by omega))
                                have ac629210 : (fI (F629173 q587500) 11).toInt = p629123.toInt := by rw [he629177]; rfl
                                have ac629211 : (fI (F629173 q587500) 14).toInt = p629126.toInt := by rw [he629177]; rfl
                                refine G_lv (L' := [(0, .ref q587500), (1, .ref q587501), (2, .int g625833), (3, .ref q625974), (4, .int z629172), (5, .ref q628832), (6, .int p628848), (7, .int p628849)]) [7, 8, 6, 5, 0, 4, 3, 2] rfl ?_
                                exact jn236_628139 P629091 F629173 γ el z629172 q628832 p628848 p628849 (gB_w bz629172 (by decide) (by decide)) (gB_w rb628890 (by decide) (by decide)) (gB_w rb629056 (by decide) (by decide)) hT629184 hs629186 hph629113 hB629096 ht629104 hf629105 x629085.2.1 x629085.2.2 ht629108 hf629109 (by omega) (by omega) (by omega) (by omega) (by omega) (by omega) kp629181 (by rw [(show (z629172.toInt : Int).toNat = ((g627478.toInt : Int).toNat + 1) from tn_eq1 (by omega) (by omega))]; exact pl629187) (by rw [(show (z629172.toInt : Int).toNat = ((g627478.toInt : Int).toNat + 1) from tn_eq1 (by omega) (by omega))]; exact hp629170) (rS1_of he628845 he629178 pl628862.2 (fun _ _ _ _ => Or.inl (by omega)) (fun _ _ _ => Or.inr ⟨rfl, rfl, by omega, Or.inl (by omega)⟩)) (by omega) (by omega) (ms_j hm90_627500 (by omega) (by omega) (by omega)) (eO_l (by omega)) kp629180 mk629179
                              · have r629212 : p628849.toInt = p628848.toInt := gC_eq hc629182
                                refine G_aload 4 dr_cX17_spill_229 rfl ?_
                                refine G_iload 1 dr_cX17_spill_231 rfl ?_
                                refine Gp_put 3 hm629111 he629178 dr_cX17_spill_233 (gk_X15 D I) (Nat.le_of_ble_eq_true rfl) wr_9_190 rfl rfl rfl (Nat.le_of_ble_eq_true rfl) (fun F629213 e629214 n629215 => ?_)
                                have he629216 : F629213 q587500 = .inr (22, [.ref (γ 9 0), .ref (γ 9 1), .ref (γ 9 2), .ref (γ 9 3), .ref (γ 9 4), .ref (γ 9 5), .ref (γ 9 6), .ref (γ 9 7), .ref (γ 9 8), .int p629121, .int p629122, .int p629123, .int p629124, .int p629125, .int p629126, .ref (γ 9 15), .ref (γ 9 16), .ref (γ 9 17), .ref (γ 9 18), .ref (γ 9 19), .ref (γ 9 20), .ref (γ 9 21), .ref (γ 9 22), .int p629127, .int p629128, .int p629129, .int p629130, .int p629131, .ref q629119, .ref (γ 9 29), .int p629132, .ref (γ 9 31), .int p629133, .int p629134, .int p629135, .ref q629120]) := (n629215 q587500 (rn_oo he629177 he629178 (by decide))).trans he629177
                                have he629217 : F629213 q628832 = .inr (20, [.int p628846, .int p628847, .int o629081, .int o629081, .int p628850, .int p628851, .int p628852]) := e629214
                                have mk629218 : mKp (F587499 q587500) (F629213 q587500) := mKp_tr mk629179 (mKp_eq (n629215 q587500 (rn_ty ht629101 ht629108 (by decide))))
                                have n629219 : ∀ b, b ≠ q628832 → F629213 b = F629092 b := fun b hb => (n629215 b hb).trans (n629175 b hb)
                                have kp629220 : F629213 (γ0 9 3) = F587499 (γ0 9 3) := (n629215 (γ0 9 3) (rn_ty (rSk_k hs629098 k0_3 (by decide) (by decide)) ht629108 (by decide))).trans kp629180
                                have kp629221 : F629213 (γ0 9 19) = F622564 (γ0 9 19) := (n629215 (γ0 9 19) (rn_ty (rSk_k hs629098 k0_19 (by decide) (by decide)) ht629108 (by decide))).trans kp629181
                                have hT629222 : RS D I P629091 F629213 γ el := RS_set hT629097 n629219 ht629108 (by decide) ⟨p628846, p628847, o629081, o629081, p628850, p628851, p628852, he629217, bp628846, bp628847, bp628850, bp628851, bp628852, (gHe r628853), (Or.inr bo629081'), (Or.inr bo629081'), r629176.1, r629176.2⟩
                                have hs629224 := rSk_put hs629098 hT629222 n629219 ht629108 (by decide) (by decide)
                                have hm629226 : q625974 ∈ P629091 := RS_m hT629222 ht629104 (by decide)
                                obtain ⟨q629228, q629229, p629230, p629231, he629227, ht629238, ht629232, ht629233, ht629234, ht629235, ht629236, bp629230, bp629231, r629237, r629239, r629240⟩ := show rk_2 γ q625974 (F629213 q625974) from RS_o hT629222 ht629104
                                have hf629241 : γ 1 q629228 = f := (show γ 1 q629228 = γ 1 q625974 from ht629233).trans hf629105
                                have hf629242 : γ 1 q629229 = f := (show γ 1 q629229 = γ 1 q625974 from ht629235).trans hf629105
                                have r629243 : γ 6 (γ 1 q625974) = γ 6 f := by rw [hf629105]
                                have r629244 : γ 7 (γ 1 q625974) = γ 7 f := by rw [hf629105]
                                have r629245 : γ 19 (γ 1 q625974) = γ 19 f := by rw [hf629105]
                                have r629246 := r629237.resolve_left (by omega)
                                clear r629237
                                have r629247 : γ 2 (γ 14 q625974) = γ 2 q629228 := by rw [ht629238.1]
                                have pl629225 := sp_put hT629097 ht629102 hf629103 pl629169 n629219 hp629170 (show (g625833.toInt : Int).toNat < γ 6 f from tn_lt (by omega) (by omega)) (by unfold rwL; rw [x629085.2.2]; exact tn_le1 (by omega) (by omega))
                                have ac629248 : (fI (F629213 q587500) 11).toInt = p629123.toInt := by rw [he629216]; rfl
                                have ac629249 : (fI (F629213 q587500) 14).toInt = p629126.toInt := by rw [he629216]; rfl
                                refine G_lv (L' := [(0, .ref q587500), (1, .ref q587501), (2, .int g625833), (3, .ref q625974), (4, .int z629172), (5, .ref q628832), (6, .int p628848), (7, .int p628849)]) [7, 8, 6, 5, 0, 4, 3, 2] rfl ?_
                                exact jn236_628139 P629091 F629213 γ el z629172 q628832 p628848 p628849 (gB_w bz629172 (by decide) (by decide)) (gB_w rb628890 (by decide) (by decide)) (gB_w rb629056 (by decide) (by decide)) hT629222 hs629224 hph629113 hB629096 ht629104 hf629105 x629085.2.1 x629085.2.2 ht629108 hf629109 (by omega) (by omega) (by omega) (by omega) (by omega) (by omega) kp629221 (by rw [(show (z629172.toInt : Int).toNat = ((g627478.toInt : Int).toNat + 1) from tn_eq1 (by omega) (by omega))]; exact pl629225) (by rw [(show (z629172.toInt : Int).toNat = ((g627478.toInt : Int).toNat + 1) from tn_eq1 (by omega) (by omega))]; exact hp629170) (rS1_of he628845 he629217 pl628862.2 (fun _ _ _ _ => Or.inl (by omega)) (fun _ _ _ => Or.inl (by omega))) (by omega) (by omega) (ms_j hm90_627500 (by omega) (by omega) (by omega)) (eO_l (by omega)) kp629220 mk629218
                            · have r629250 : o629081.toInt < 0 := gj_nleL hc629166 (show Int32.toInt 0 = 0 by decide)
                              have bo629081' : gB o629081 (-1) (-1) := ⟨by omega, by omega⟩
                              refine G_iconst 0 dr_cX17_spill_210 (by decide +kernel) ?_
                              exact G_zretA FieldType.boolean dr_cX17_spill_211 rfl rfl (rm_zc pk629114) (rm_zs pk629114) ⟨P629091, F629092, γ, el, 0, rfl, rfl, hs629098, (rm_pp hph629113), hB629096, (gB_w (gBl (show Int32.toInt 0 = 0 by decide)) (by decide) (by decide)), (by have qa0 : Int32.toInt 0 = 0 := (by decide); omega), (Or.inl (by decide)), kp629099, mk629112⟩
              have ac629251 : (fI (F625835 q587500) 11).toInt = p625862.toInt := by rw [he625857]; rfl
              have ac629252 : (fI (F625835 q587500) 14).toInt = p625865.toInt := by rw [he625857]; rfl
              exact hlp90_627500 ((γ 2 (γ 14 q625974) + 1 - (0 : Int).toNat) + 1) P625834 F625835 γ el 0 (gB_w (gBl (show Int32.toInt 0 = 0 by decide)) (by decide) (by decide)) hT625836 hs625837 hph625838 hB625839 ht625979 hf626002 r626010 r626011 (by have qa0 : Int32.toInt 0 = 0 := (by decide); omega) (by have qa0 : Int32.toInt 0 = 0 := (by decide); omega) (by have qa0 : Int32.toInt 0 = 0 := (by decide); omega) (by have qa0 : Int32.toInt 0 = 0 := (by decide); omega) (by have qa0 : Int32.toInt 0 = 0 := (by decide); omega) (by have qa0 : Int32.toInt 0 = 0 := (by decide); omega) x625846 (by have qa : Int32.toInt 0 = 0 := (by decide); rw [qa]; exact x625847) (by have qa0 : Int32.toInt 0 = 0 := (by decide); omega) (by have qa0 : Int32.toInt 0 = 0 := (by decide); omega) x625848 x625849 (Nat.lt_succ_self _)
        have ac629253 : (fI (F622564 q587500) 11).toInt = p622670.toInt := by rw [he622665]; rfl
        have ac629254 : (fI (F622564 q587500) 14).toInt = p622673.toInt := by rw [he622665]; rfl
        exact hlp73_625849 (((1000001 : Int) - 0).toNat + 1) P622563 F622564 γ el 0 (gB_w (gBl (show Int32.toInt 0 = 0 by decide)) (by decide) (by decide)) hT622655 hs622656 hph622714 hB622713 (by have qa0 : Int32.toInt 0 = 0 := (by decide); omega) (by have qa0 : Int32.toInt 0 = 0 := (by decide); omega) (by have qa0 : Int32.toInt 0 = 0 := (by decide); omega) (by have qa0 : Int32.toInt 0 = 0 := (by decide); omega) (by have qa0 : Int32.toInt 0 = 0 := (by decide); omega) (by have qa0 : Int32.toInt 0 = 0 := (by decide); omega) kp622658 (by have qa : Int32.toInt 0 = 0 := (by decide); rw [qa]; exact pl622717) kp622657 mk622663 (Nat.lt_succ_self _)
      · have r629255 : g622562.toInt < 2000 := gj_nleL hc622645 (show Int32.toInt 2000 = 2000 by decide)
        have bg622562' : gB g622562 0 1999 := ⟨by omega, by omega⟩
        refine G_aload_n 1 dr_cX17_spill_9 rfl ?_
        refine Gp_get 19 hm622583 he622584 dr_cX17_spill_10 (gk_X17 D I) (Nat.le_of_ble_eq_true rfl) wr_7_93 rfl ?_
        refine G_iload_n 0 dr_cX17_spill_13 rfl ?_
        refine G_iconst (-1) dr_cX17_spill_14 (by decide +kernel) ?_
        refine Gp_iast 0 hm622637 he622638 dr_cX17_spill_15 rfl (gB_in bg622562' (by decide) (by decide)) (fun F629256 e629257 n629258 => ?_)
        obtain ⟨f629259, hf629259⟩ : ∃ z, z = upd f622639 g622562.toNatClampNeg (-1) := ⟨_, rfl⟩
        rw [← hf629259] at e629257
        have he629260 : F629256 q587500 = .inr (22, [.ref (γ 9 0), .ref (γ 9 1), .ref (γ 9 2), .ref (γ 9 3), .ref (γ 9 4), .ref (γ 9 5), .ref (γ 9 6), .ref (γ 9 7), .ref (γ 9 8), .int p622587, .int p622588, .int p622589, .int p622590, .int p622591, .int p622592, .ref (γ 9 15), .ref (γ 9 16), .ref (γ 9 17), .ref (γ 9 18), .ref (γ 9 19), .ref (γ 9 20), .ref (γ 9 21), .ref (γ 9 22), .int p622593, .int p622594, .int p622595, .int p622596, .int p622597, .ref q622585, .ref (γ 9 29), .int p622598, .ref (γ 9 31), .int p622599, .int p622600, .int p622601, .ref q622586]) := (n629258 q587500 (rn_oa he622584 he622638)).trans he622584
        have he629261 : F629256 (γ 9 3) = .inl (I .boolean, 2000, .inl f622635) := (n629258 (γ 9 3) (rn_ty ht622607 ht622617 (by decide))).trans he622634
        have he629262 : F629256 (γ 9 17) = .inl (I .int, 2000, .inl f622643) := (n629258 (γ 9 17) (rn_ty ht622615 ht622617 (by decide))).trans he622642
        have he629263 : F629256 (γ 9 19) = .inl (I .int, 2000, .inl f629259) := e629257
        have mk629264 : mKp (F587499 q587500) (F629256 q587500) := mKp_tr x622577 (mKp_eq (n629258 q587500 (rn_ty ht622579 ht622617 (by decide))))
        have kp629265 : F629256 (γ0 9 3) = F587499 (γ0 9 3) := (n629258 (γ0 9 3) (rn_ty (rSk_k hs622566 k0_3 (by decide) (by decide)) ht622617 (by decide))).trans x622576
        have bf629259 : gF f629259 (-1) 1999 := gF_upd hf629259 bf622639 (gB_w (gBl (show Int32.toInt (-1) = (-1) by decide)) (by decide) (by decide))
        have hT629266 : RS D I P622563 F629256 γ el := RS_set hT622565 n629258 ht622617 (by decide) ⟨f629259, he629263, bf629259⟩
        have hs629268 := rSk_put hs622566 hT629266 n629258 ht622617 (by decide) (by decide)
        have pl629269 := rPl_fr hT622565 ht622580 hf622581 x622575 (fun b hb _ => n629258 b (rn_ty (show rKd γ b 1 from hb) ht622617 (by decide)))
        refine G_aload_n 1 dr_cX17_spill_16 rfl ?_
        refine Gp_get 3 hm622583 he629260 dr_cX17_spill_17 (gk_X17 D I) (Nat.le_of_ble_eq_true rfl) wr_7_77 rfl ?_
        refine G_iload_n 0 dr_cX17_spill_20 rfl ?_
        refine Gp_zald 3 hm622633 he629261 dr_cX17_spill_21 rfl (gB_in bg622562' (by decide) (by decide)) (G_nam fun z629270 hz629270 => ?_)
        have bz629270 : gB z629270 0 1 := by rw [hz629270]; exact bf622635 _
        refine G_if_eq 65 dr_cX17_spill_22 (by decide +kernel) (fun hc629271 => ?_) (fun hc629271 => ?_)
        · have r629272 : z629270.toInt = 0 := gj_eq hc629271 (show Int32.toInt 0 = 0 by decide)
          have bz629270' : gB z629270 0 0 := gB_t0 r629272
          obtain ⟨z629273, hz629273⟩ : ∃ z : Int32, z = g622562 + Int32.ofInt 1 := ⟨_, rfl⟩
          have ez629273 : z629273.toInt = g622562.toInt + 1 := gI_inc hz629273 (by decide) bg622562' (by decide) (by decide)
          have bz629273 : gB z629273 1 2000 := ⟨by omega, by omega⟩
          refine G_iinc (L' := [(2, .int z629273), (0, .ref q587500), (1, .ref q587501)]) z629273 0 dr_cX17_spill_65 rfl hz629273.symm (Nat.le_of_ble_eq_true rfl) rfl ?_
          refine G_goto 2 dr_cX17_spill_68 (by decide +kernel) ?_
          have ac629274 : (fI (F629256 q587500) 11).toInt = p622589.toInt := by rw [he629260]; rfl
          have ac629275 : (fI (F629256 q587500) 14).toInt = p622592.toInt := by rw [he629260]; rfl
          have c9_629276 : cB (F587499 (γ0 9 3)) = f622635 := by rw [← kp629265, ← congrFun (rSk_9 hs629268) 3]; exact cB_of he629261
          have c9_629277 : cB (F629256 (γ0 9 19)) = f629259 := by rw [← congrFun (rSk_9 hs629268) 19]; exact cB_of he629263
          exact ih2_622577 P622563 F629256 γ el z629273 (gB_w bz629273 (by decide) (by decide)) hT629266 hs629268 hph622567 hB622568 (by omega) (by omega) (by omega) (by omega) (by omega) (by rw [c9_629276, c9_629277, ac629274]; exact spI_n (h2 := fun _ => 0) hf629259 (by decide) (by omega) ez629273 cq622644) pl629269 kp629265 mk629264 (by omega)
        · have r629278 : z629270.toInt ≠ 0 := gj_neq hc629271 (show Int32.toInt 0 = 0 by decide)
          have bz629270' : gB z629270 1 1 := gB_t1 bz629270 r629278
          refine G_aload_n 1 dr_cX17_spill_25 rfl ?_
          refine Gp_get 17 hm622583 he629260 dr_cX17_spill_26 (gk_X17 D I) (Nat.le_of_ble_eq_true rfl) wr_7_91 rfl ?_
          refine G_iload_n 0 dr_cX17_spill_29 rfl ?_
          refine Gp_iald 0 hm622641 he629262 dr_cX17_spill_30 rfl (gB_in bg622562' (by decide) (by decide)) (G_nam fun z629279 hz629279 => ?_)
          have bz629279 : gB z629279 (-1) 31 := by rw [hz629279]; exact bf622643 _
          refine G_if_lt 37 dr_cX17_spill_31 (by decide +kernel) (fun hc629280 => ?_) (fun hc629280 => ?_)
          · have r629281 : z629279.toInt < 0 := gj_lt hc629280 (show Int32.toInt 0 = 0 by decide)
            have bz629279' : gB z629279 (-1) (-1) := ⟨by omega, by omega⟩
            refine G_iload_n 0 dr_cX17_spill_37 rfl ?_
            refine G_bipush 100 dr_cX17_spill_38 (by decide +kernel) ?_
            refine G_icmp_lt 45 dr_cX17_spill_40 (by decide +kernel) (fun hc629282 => ?_) (fun hc629282 => ?_)
            · have r629283 : g622562.toInt < 100 := gj_lt hc629282 (show Int32.toInt 100 = 100 by decide)
              have bg622562'' : gB g622562 0 99 := ⟨by omega, by omega⟩
              refine G_aload_n 1 dr_cX17_spill_45 rfl ?_
              refine Gp_get 19 hm622583 he629260 dr_cX17_spill_46 (gk_X17 D I) (Nat.le_of_ble_eq_true rfl) wr_7_93 rfl ?_
              refine G_iload_n 0 dr_cX17_spill_49 rfl ?_
              refine G_aload_n 1 dr_cX17_spill_50 rfl ?_
              refine Gp_get 11 hm622583 he629260 dr_cX17_spill_51 (gk_X17 D I) (Nat.le_of_ble_eq_true rfl) wr_7_85 rfl ?_
              refine Gp_iast 0 hm622637 he629263 dr_cX17_spill_54 rfl (gB_in bg622562'' (by decide) (by decide)) (fun F629284 e629285 n629286 => ?_)
              obtain ⟨f629287, hf629287⟩ : ∃ z, z = upd f629259 g622562.toNatClampNeg p622589 := ⟨_, rfl⟩
              rw [← hf629287] at e629285
              have he629288 : F629284 q587500 = .inr (22, [.ref (γ 9 0), .ref (γ 9 1), .ref (γ 9 2), .ref (γ 9 3), .ref (γ 9 4), .ref (γ 9 5), .ref (γ 9 6), .ref (γ 9 7), .ref (γ 9 8), .int p622587, .int p622588, .int p622589, .int p622590, .int p622591, .int p622592, .ref (γ 9 15), .ref (γ 9 16), .ref (γ 9 17), .ref (γ 9 18), .ref (γ 9 19), .ref (γ 9 20), .ref (γ 9 21), .ref (γ 9 22), .int p622593, .int p622594, .int p622595, .int p622596, .int p622597, .ref q622585, .ref (γ 9 29), .int p622598, .ref (γ 9 31), .int p622599, .int p622600, .int p622601, .ref q622586]) := (n629286 q587500 (rn_oa he629260 he629263)).trans he629260
              have he629289 : F629284 (γ 9 3) = .inl (I .boolean, 2000, .inl f622635) := (n629286 (γ 9 3) (rn_ty ht622607 ht622617 (by decide))).trans he629261
              have he629290 : F629284 (γ 9 17) = .inl (I .int, 2000, .inl f622643) := (n629286 (γ 9 17) (rn_ty ht622615 ht622617 (by decide))).trans he629262
              have he629291 : F629284 (γ 9 19) = .inl (I .int, 2000, .inl f629287) := e629285
              have mk629292 : mKp (F587499 q587500) (F629284 q587500) := mKp_tr mk629264 (mKp_eq (n629286 q587500 (rn_ty ht622579 ht622617 (by decide))))
              have kp629293 : F629284 (γ0 9 3) = F587499 (γ0 9 3) := (n629286 (γ0 9 3) (rn_ty (rSk_k hs629268 k0_3 (by decide) (by decide)) ht622617 (by decide))).trans kp629265
              have bf629287 : gF f629287 (-1) 1999 := gF_upd hf629287 bf629259 (gB_w bp622589 (by decide) (by decide))
              have hT629294 : RS D I P622563 F629284 γ el := RS_set hT629266 n629286 ht622617 (by decide) ⟨f629287, he629291, bf629287⟩
              have of629295 : ∀ b, b ≠ (γ 9 19) → F629284 b = F622564 b := fun b hb => (n629286 b hb).trans (n629258 b hb)
              have hs629296 := rSk_put hs629268 hT629294 n629286 ht622617 (by decide) (by decide)
              have pl629297 := rPl_fr hT629266 ht622580 hf622581 pl629269 (fun b hb _ => n629286 b (rn_ty (show rKd γ b 1 from hb) ht622617 (by decide)))
              have cq629298 := spI_s (r1 := g622562.toInt + 1) (s1 := p622589.toInt + 1) hf629259 hf629287 rfl (by omega) (by omega) rfl (by omega) (sd_of hz629270 (by omega) (by omega) (by omega)) rfl cq622644
              have r629299 := cq629298.2
              have r629300 := cq622644.1
              have r629301 := x587505
              rw [c9_622636] at r629301
              have bp622589' : gB p622589 0 99 := ⟨by omega, by omega⟩
              refine G_aload_n 1 dr_cX17_spill_55 rfl ?_
              refine G_dup dr_cX17_spill_56 rfl ?_
              refine Gp_get 11 hm622583 he629288 dr_cX17_spill_57 (gk_X17 D I) (Nat.le_of_ble_eq_true rfl) wr_7_85 rfl ?_
              refine G_iconst 1 dr_cX17_spill_60 (by decide +kernel) ?_
              refine G_iadd dr_cX17_spill_61 (G_nam fun z629302 hz629302 => ?_)
              have ez629302 : z629302.toInt = p622589.toInt + 1 := by rw [gI_add hz629302 bp622589' (gBl (show Int32.toInt 1 = 1 by decide)) (by decide) (by decide), show Int32.toInt 1 = 1 from by decide]
              have bz629302 : gB z629302 1 100 := gB_add (gI_add hz629302 bp622589' (gBl (show Int32.toInt 1 = 1 by decide)) (by decide) (by decide)) bp622589' (gBl (show Int32.toInt 1 = 1 by decide)) (by decide) (by decide)
              refine Gp_put 11 hm622583 he629288 dr_cX17_spill_62 (gk_X17 D I) (Nat.le_of_ble_eq_true rfl) wr_7_85 rfl rfl rfl (Nat.le_of_ble_eq_true rfl) (fun F629303 e629304 n629305 => ?_)
              have he629306 : F629303 (γ 9 3) = .inl (I .boolean, 2000, .inl f622635) := (n629305 (γ 9 3) (rn_ao he629289 he629288)).trans he629289
              have he629307 : F629303 (γ 9 19) = .inl (I .int, 2000, .inl f629287) := (n629305 (γ 9 19) (rn_ao he629291 he629288)).trans he629291
              have he629308 : F629303 (γ 9 17) = .inl (I .int, 2000, .inl f622643) := (n629305 (γ 9 17) (rn_ao he629290 he629288)).trans he629290
              have he629309 : F629303 q587500 = .inr (22, [.ref (γ 9 0), .ref (γ 9 1), .ref (γ 9 2), .ref (γ 9 3), .ref (γ 9 4), .ref (γ 9 5), .ref (γ 9 6), .ref (γ 9 7), .ref (γ 9 8), .int p622587, .int p622588, .int z629302, .int p622590, .int p622591, .int p622592, .ref (γ 9 15), .ref (γ 9 16), .ref (γ 9 17), .ref (γ 9 18), .ref (γ 9 19), .ref (γ 9 20), .ref (γ 9 21), .ref (γ 9 22), .int p622593, .int p622594, .int p622595, .int p622596, .int p622597, .ref q622585, .ref (γ 9 29), .int p622598, .ref (γ 9 31), .int p622599, .int p622600, .int p622601, .ref q622586]) := e629304
              have mk629310 : mKp (F587499 q587500) (F629303 q587500) := mKp_tr mk629292 (by rw [he629288, he629309]; exact ⟨rfl, rfl⟩)
              have kp629311 : F629303 (γ0 9 3) = F587499 (γ0 9 3) := (n629305 (γ0 9 3) (rn_ty (rSk_k hs629296 k0_3 (by decide) (by decide)) ht622579 (by decide))).trans kp629293
              have kp629312 : F629303 (γ0 9 19) = F629284 (γ0 9 19) := n629305 (γ0 9 19) (rn_ty (rSk_k hs629296 k0_19 (by decide) (by decide)) ht622579 (by decide))
              have hT629313 : RS D I P622563 F629303 γ el := RS_set hT629294 n629305 ht622579 (by decide) ⟨q622585, q622586, p622587, p622588, z629302, p622590, p622591, p622592, p622593, p622594, p622595, p622596, p622597, p622598, p622599, p622600, p622601, he629309, ⟨(hB622628.1), (hB622628.2.1), (gB_w bz629302 (by decide) (by decide)), bp622592, (hB622628.2.2.2.2.1), (hB622628.2.2.2.2.2.1), (hB622628.2.2.2.2.2.2.1), (hB622628.2.2.2.2.2.2.2.1), (hB622628.2.2.2.2.2.2.2.2)⟩, ht622602, ht622603, ht622604, ht622605, ht622606, ht622607, ht622608, ht622609, ht622610, ht622611, ht622612, ht622613, ht622614, ht622615, ht622616, ht622617, ht622618, ht622619, ht622620, ht622621, ht622622, ht622623, ht622624, ht622625, hB622629⟩
              have hs629315 := rSk_put hs629296 hT629313 n629305 ht622579 (by decide) (by decide)
              have pl629316 := rPl_fr hT629294 ht622580 hf622581 pl629297 (fun b hb _ => n629305 b (rn_ty (show rKd γ b 1 from hb) ht622579 (by decide)))
              obtain ⟨z629317, hz629317⟩ : ∃ z : Int32, z = g622562 + Int32.ofInt 1 := ⟨_, rfl⟩
              have ez629317 : z629317.toInt = g622562.toInt + 1 := gI_inc hz629317 (by decide) bg622562'' (by decide) (by decide)
              have bz629317 : gB z629317 1 100 := ⟨by omega, by omega⟩
              refine G_iinc (L' := [(2, .int z629317), (0, .ref q587500), (1, .ref q587501)]) z629317 0 dr_cX17_spill_65 rfl hz629317.symm (Nat.le_of_ble_eq_true rfl) rfl ?_
              refine G_goto 2 dr_cX17_spill_68 (by decide +kernel) ?_
              have ac629318 : (fI (F629303 q587500) 11).toInt = z629302.toInt := by rw [he629309]; rfl
              have ac629319 : (fI (F629303 q587500) 14).toInt = p622592.toInt := by rw [he629309]; rfl
              have c9_629320 : cB (F587499 (γ0 9 3)) = f622635 := by rw [← kp629311, ← congrFun (rSk_9 hs629315) 3]; exact cB_of he629306
              have c9_629321 : cB (F629303 (γ0 9 19)) = f629287 := by rw [← congrFun (rSk_9 hs629315) 19]; exact cB_of he629307
              exact ih2_622577 P622563 F629303 γ el z629317 (gB_w bz629317 (by decide) (by decide)) hT629313 hs629315 hph622567 hB622568 (by omega) (by omega) (by omega) (by omega) (by omega) (by rw [c9_629320, c9_629321, ac629318, ez629317, ez629302]; exact cq629298.1) pl629316 kp629311 mk629310 (by omega)
            · have r629322 : 100 ≤ g622562.toInt := gj_nlt hc629282 (show Int32.toInt 100 = 100 by decide)
              have bg622562'' : gB g622562 100 1999 := ⟨by omega, by omega⟩
              refine G_iconst 0 dr_cX17_spill_43 (by decide +kernel) ?_
              exact G_zretA FieldType.boolean dr_cX17_spill_44 rfl rfl (rm_zc pk622582) (rm_zs pk622582) ⟨P622563, F629256, γ, el, 0, rfl, rfl, hs629268, (rm_pp hph622567), hB622568, (gB_w (gBl (show Int32.toInt 0 = 0 by decide)) (by decide) (by decide)), (by have qa0 : Int32.toInt 0 = 0 := (by decide); omega), (Or.inl (by decide)), kp629265, mk629264⟩
          · have r629323 : 0 ≤ z629279.toInt := gj_nlt hc629280 (show Int32.toInt 0 = 0 by decide)
            have bz629279' : gB z629279 0 31 := ⟨by omega, by omega⟩
            refine G_goto 65 dr_cX17_spill_34 (by decide +kernel) ?_
            obtain ⟨z629324, hz629324⟩ : ∃ z : Int32, z = g622562 + Int32.ofInt 1 := ⟨_, rfl⟩
            have ez629324 : z629324.toInt = g622562.toInt + 1 := gI_inc hz629324 (by decide) bg622562' (by decide) (by decide)
            have bz629324 : gB z629324 1 2000 := ⟨by omega, by omega⟩
            refine G_iinc (L' := [(2, .int z629324), (0, .ref q587500), (1, .ref q587501)]) z629324 0 dr_cX17_spill_65 rfl hz629324.symm (Nat.le_of_ble_eq_true rfl) rfl ?_
            refine G_goto 2 dr_cX17_spill_68 (by decide +kernel) ?_
            have ac629325 : (fI (F629256 q587500) 11).toInt = p622589.toInt := by rw [he629260]; rfl
            have ac629326 : (fI (F629256 q587500) 14).toInt = p622592.toInt := by rw [he629260]; rfl
            have c9_629327 : cB (F587499 (γ0 9 3)) = f622635 := by rw [← kp629265, ← congrFun (rSk_9 hs629268) 3]; exact cB_of he629261
            have c9_629328 : cB (F629256 (γ0 9 19)) = f629259 := by rw [← congrFun (rSk_9 hs629268) 19]; exact cB_of he629263
            exact ih2_622577 P622563 F629256 γ el z629324 (gB_w bz629324 (by decide) (by decide)) hT629266 hs629268 hph622567 hB622568 (by omega) (by omega) (by omega) (by omega) (by omega) (by rw [c9_629327, c9_629328, ac629325]; exact spI_n (h2 := fun _ => 0) hf629259 (by decide) (by omega) ez629324 cq622644) pl629269 kp629265 mk629264 (by omega)
  exact hlp2_622577 (((2001 : Int) - 0).toNat + 1) P587498 F587499 γ el 0 (gB_w (gBl (show Int32.toInt 0 = 0 by decide)) (by decide) (by decide)) hT hst hph hB (by have qa0 : Int32.toInt 0 = 0 := (by decide); omega) (by have qa0 : Int32.toInt 0 = 0 := (by decide); omega) (by have qa0 : Int32.toInt 0 = 0 := (by decide); omega) (by have qa0 : Int32.toInt 0 = 0 := (by decide); omega) (by have qa0 : Int32.toInt 0 = 0 := (by decide); omega) (by have qa : Int32.toInt 0 = 0 := (by decide); rw [qa]; exact spI_0) (by rw [hγ0, hel0]; exact x587506) rfl mKp_rf (Nat.lt_succ_self _)
