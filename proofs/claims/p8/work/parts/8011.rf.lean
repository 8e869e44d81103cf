theorem dr_cX17_spill_0 : decode cX17_spill 0 = .ok (.iconst 0, 1) := by decide +kernel
theorem dr_cX17_spill_1 : decode cX17_spill 1 = .ok (.istore_n 2, 1) := by decide +kernel
theorem dr_cX17_spill_2 : decode cX17_spill 2 = .ok (.iload_n 2, 1) := by decide +kernel
theorem dr_cX17_spill_3 : decode cX17_spill 3 = .ok (.sipush 2000, 3) := by decide +kernel
theorem dr_cX17_spill_6 : decode cX17_spill 6 = .ok (.if_icmp .ge 65, 3) := by decide +kernel
theorem dr_cX17_spill_71 : decode cX17_spill 71 = .ok (.iconst 0, 1) := by decide +kernel
theorem dr_cX17_spill_72 : decode cX17_spill 72 = .ok (.istore_n 2, 1) := by decide +kernel
theorem dr_cX17_spill_73 : decode cX17_spill 73 = .ok (.iload_n 2, 1) := by decide +kernel
theorem dr_cX17_spill_74 : decode cX17_spill 74 = .ok (.aload_n 1, 1) := by decide +kernel
theorem dr_cX17_spill_75 : decode cX17_spill 75 = .ok (.invokevirtual 96, 3) := by decide +kernel
theorem dr_cX17_spill_78 : decode cX17_spill 78 = .ok (.if_icmp .ge 353, 3) := by decide +kernel
theorem dr_cX17_spill_431 : decode cX17_spill 431 = .ok (.aload_n 1, 1) := by decide +kernel
theorem dr_cX17_spill_432 : decode cX17_spill 432 = .ok (.invokevirtual 234, 3) := by decide +kernel
theorem dr_cX17_spill_435 : decode cX17_spill 435 = .ok (.sipush 4000, 3) := by decide +kernel
theorem dr_cX17_spill_438 : decode cX17_spill 438 = .ok (.if_icmp .gt 7, 3) := by decide +kernel
theorem dr_cX17_spill_445 : decode cX17_spill 445 = .ok (.iconst 0, 1) := by decide +kernel
theorem dr_cX17_spill_446 : decode cX17_spill 446 = .ok (.ireturn, 1) := by decide +kernel
theorem dr_cX17_spill_441 : decode cX17_spill 441 = .ok (.iconst 1, 1) := by decide +kernel
theorem dr_cX17_spill_442 : decode cX17_spill 442 = .ok (.goto 4, 3) := by decide +kernel
theorem dr_cX17_spill_81 : decode cX17_spill 81 = .ok (.aload_n 1, 1) := by decide +kernel
theorem dr_cX17_spill_82 : decode cX17_spill 82 = .ok (.iload_n 2, 1) := by decide +kernel
theorem dr_cX17_spill_83 : decode cX17_spill 83 = .ok (.invokevirtual 101, 3) := by decide +kernel
theorem dr_cX17_spill_86 : decode cX17_spill 86 = .ok (.astore_n 3, 1) := by decide +kernel
theorem dr_cX17_spill_87 : decode cX17_spill 87 = .ok (.iconst 0, 1) := by decide +kernel
theorem dr_cX17_spill_88 : decode cX17_spill 88 = .ok (.istore 4, 2) := by decide +kernel
theorem dr_cX17_spill_90 : decode cX17_spill 90 = .ok (.iload 4, 2) := by decide +kernel
theorem dr_cX17_spill_92 : decode cX17_spill 92 = .ok (.aload_n 3, 1) := by decide +kernel
theorem dr_cX17_spill_93 : decode cX17_spill 93 = .ok (.getfield 117, 3) := by decide +kernel
theorem dr_cX17_spill_96 : decode cX17_spill 96 = .ok (.invokevirtual 121, 3) := by decide +kernel
theorem dr_cX17_spill_99 : decode cX17_spill 99 = .ok (.if_icmp .gt 326, 3) := by decide +kernel
theorem dr_cX17_spill_425 : decode cX17_spill 425 = .ok (.iinc 2 1, 3) := by decide +kernel
theorem dr_cX17_spill_428 : decode cX17_spill 428 = .ok (.goto (-355), 3) := by decide +kernel
theorem dr_cX17_spill_292 : decode cX17_spill 292 = .ok (.aload 5, 2) := by decide +kernel
theorem dr_cX17_spill_294 : decode cX17_spill 294 = .ok (.invokevirtual 48, 3) := by decide +kernel
theorem dr_cX17_spill_297 : decode cX17_spill 297 = .ok (.ifCond .eq 122, 3) := by decide +kernel
theorem dr_cX17_spill_419 : decode cX17_spill 419 = .ok (.iinc 4 1, 3) := by decide +kernel
theorem dr_cX17_spill_422 : decode cX17_spill 422 = .ok (.goto (-332), 3) := by decide +kernel
theorem dr_cX17_spill_300 : decode cX17_spill 300 = .ok (.aload 5, 2) := by decide +kernel
theorem dr_cX17_spill_302 : decode cX17_spill 302 = .ok (.getfield 39, 3) := by decide +kernel
theorem dr_cX17_spill_305 : decode cX17_spill 305 = .ok (.bipush 21, 2) := by decide +kernel
theorem dr_cX17_spill_307 : decode cX17_spill 307 = .ok (.if_icmp .eq 112, 3) := by decide +kernel
theorem dr_cX17_spill_310 : decode cX17_spill 310 = .ok (.aload_n 0, 1) := by decide +kernel
theorem dr_cX17_spill_311 : decode cX17_spill 311 = .ok (.getfield 221, 3) := by decide +kernel
theorem dr_cX17_spill_314 : decode cX17_spill 314 = .ok (.aload 5, 2) := by decide +kernel
theorem dr_cX17_spill_316 : decode cX17_spill 316 = .ok (.getfield 52, 3) := by decide +kernel
theorem dr_cX17_spill_319 : decode cX17_spill 319 = .ok (.iaload, 1) := by decide +kernel
theorem dr_cX17_spill_320 : decode cX17_spill 320 = .ok (.ifCond .ge 6, 3) := by decide +kernel
theorem dr_cX17_spill_326 : decode cX17_spill 326 = .ok (.aload_n 0, 1) := by decide +kernel
theorem dr_cX17_spill_327 : decode cX17_spill 327 = .ok (.getfield 221, 3) := by decide +kernel
theorem dr_cX17_spill_330 : decode cX17_spill 330 = .ok (.aload 5, 2) := by decide +kernel
theorem dr_cX17_spill_332 : decode cX17_spill 332 = .ok (.getfield 52, 3) := by decide +kernel
theorem dr_cX17_spill_335 : decode cX17_spill 335 = .ok (.iaload, 1) := by decide +kernel
theorem dr_cX17_spill_336 : decode cX17_spill 336 = .ok (.istore 8, 2) := by decide +kernel
theorem dr_cX17_spill_338 : decode cX17_spill 338 = .ok (.aload_n 0, 1) := by decide +kernel
theorem dr_cX17_spill_339 : decode cX17_spill 339 = .ok (.getfield 231, 3) := by decide +kernel
theorem dr_cX17_spill_342 : decode cX17_spill 342 = .ok (.sipush 2000, 3) := by decide +kernel
theorem dr_cX17_spill_345 : decode cX17_spill 345 = .ok (.if_icmp .ne 5, 3) := by decide +kernel
theorem dr_cX17_spill_350 : decode cX17_spill 350 = .ok (.aload 5, 2) := by decide +kernel
theorem dr_cX17_spill_352 : decode cX17_spill 352 = .ok (.aload_n 0, 1) := by decide +kernel
theorem dr_cX17_spill_353 : decode cX17_spill 353 = .ok (.getfield 231, 3) := by decide +kernel
theorem dr_cX17_spill_356 : decode cX17_spill 356 = .ok (.putfield 52, 3) := by decide +kernel
theorem dr_cX17_spill_359 : decode cX17_spill 359 = .ok (.aload_n 0, 1) := by decide +kernel
theorem dr_cX17_spill_360 : decode cX17_spill 360 = .ok (.dup, 1) := by decide +kernel
theorem dr_cX17_spill_361 : decode cX17_spill 361 = .ok (.getfield 231, 3) := by decide +kernel
theorem dr_cX17_spill_364 : decode cX17_spill 364 = .ok (.iconst 1, 1) := by decide +kernel
theorem dr_cX17_spill_365 : decode cX17_spill 365 = .ok (.iadd, 1) := by decide +kernel
theorem dr_cX17_spill_366 : decode cX17_spill 366 = .ok (.putfield 231, 3) := by decide +kernel
theorem dr_cX17_spill_369 : decode cX17_spill 369 = .ok (.aload_n 1, 1) := by decide +kernel
theorem dr_cX17_spill_370 : decode cX17_spill 370 = .ok (.invokevirtual 177, 3) := by decide +kernel
theorem dr_cX17_spill_373 : decode cX17_spill 373 = .ok (.astore 9, 2) := by decide +kernel
theorem dr_cX17_spill_375 : decode cX17_spill 375 = .ok (.aload 9, 2) := by decide +kernel
theorem dr_cX17_spill_377 : decode cX17_spill 377 = .ok (.bipush 23, 2) := by decide +kernel
theorem dr_cX17_spill_379 : decode cX17_spill 379 = .ok (.putfield 39, 3) := by decide +kernel
theorem dr_cX17_spill_382 : decode cX17_spill 382 = .ok (.aload 9, 2) := by decide +kernel
theorem dr_cX17_spill_384 : decode cX17_spill 384 = .ok (.iload 8, 2) := by decide +kernel
theorem dr_cX17_spill_386 : decode cX17_spill 386 = .ok (.putfield 45, 3) := by decide +kernel
theorem dr_cX17_spill_389 : decode cX17_spill 389 = .ok (.aload 9, 2) := by decide +kernel
theorem dr_cX17_spill_391 : decode cX17_spill 391 = .ok (.aload 5, 2) := by decide +kernel
theorem dr_cX17_spill_393 : decode cX17_spill 393 = .ok (.getfield 52, 3) := by decide +kernel
theorem dr_cX17_spill_396 : decode cX17_spill 396 = .ok (.putfield 73, 3) := by decide +kernel
theorem dr_cX17_spill_399 : decode cX17_spill 399 = .ok (.aload 9, 2) := by decide +kernel
theorem dr_cX17_spill_401 : decode cX17_spill 401 = .ok (.iconst 1, 1) := by decide +kernel
theorem dr_cX17_spill_402 : decode cX17_spill 402 = .ok (.putfield 141, 3) := by decide +kernel
theorem dr_cX17_spill_405 : decode cX17_spill 405 = .ok (.iinc 4 1, 3) := by decide +kernel
theorem dr_cX17_spill_408 : decode cX17_spill 408 = .ok (.aload_n 3, 1) := by decide +kernel
theorem dr_cX17_spill_409 : decode cX17_spill 409 = .ok (.getfield 117, 3) := by decide +kernel
theorem dr_cX17_spill_412 : decode cX17_spill 412 = .ok (.iload 4, 2) := by decide +kernel
theorem dr_cX17_spill_414 : decode cX17_spill 414 = .ok (.aload 9, 2) := by decide +kernel
theorem dr_cX17_spill_416 : decode cX17_spill 416 = .ok (.invokevirtual 181, 3) := by decide +kernel
theorem dr_cX17_spill_348 : decode cX17_spill 348 = .ok (.iconst 0, 1) := by decide +kernel
theorem dr_cX17_spill_349 : decode cX17_spill 349 = .ok (.ireturn, 1) := by decide +kernel
theorem dr_cX17_spill_323 : decode cX17_spill 323 = .ok (.goto 96, 3) := by decide +kernel
theorem dr_cX17_spill_236 : decode cX17_spill 236 = .ok (.iload 7, 2) := by decide +kernel
theorem dr_cX17_spill_238 : decode cX17_spill 238 = .ok (.ifCond .lt 54, 3) := by decide +kernel
theorem dr_cX17_spill_241 : decode cX17_spill 241 = .ok (.iload 7, 2) := by decide +kernel
theorem dr_cX17_spill_243 : decode cX17_spill 243 = .ok (.iload 6, 2) := by decide +kernel
theorem dr_cX17_spill_245 : decode cX17_spill 245 = .ok (.if_icmp .eq 47, 3) := by decide +kernel
theorem dr_cX17_spill_248 : decode cX17_spill 248 = .ok (.aload_n 0, 1) := by decide +kernel
theorem dr_cX17_spill_249 : decode cX17_spill 249 = .ok (.getfield 221, 3) := by decide +kernel
theorem dr_cX17_spill_252 : decode cX17_spill 252 = .ok (.iload 7, 2) := by decide +kernel
theorem dr_cX17_spill_254 : decode cX17_spill 254 = .ok (.iaload, 1) := by decide +kernel
theorem dr_cX17_spill_255 : decode cX17_spill 255 = .ok (.ifCond .lt 37, 3) := by decide +kernel
theorem dr_cX17_spill_258 : decode cX17_spill 258 = .ok (.aload_n 0, 1) := by decide +kernel
theorem dr_cX17_spill_259 : decode cX17_spill 259 = .ok (.aload_n 1, 1) := by decide +kernel
theorem dr_cX17_spill_260 : decode cX17_spill 260 = .ok (.aload_n 3, 1) := by decide +kernel
theorem dr_cX17_spill_261 : decode cX17_spill 261 = .ok (.iload 4, 2) := by decide +kernel
theorem dr_cX17_spill_263 : decode cX17_spill 263 = .ok (.aload_n 0, 1) := by decide +kernel
theorem dr_cX17_spill_264 : decode cX17_spill 264 = .ok (.getfield 221, 3) := by decide +kernel
theorem dr_cX17_spill_267 : decode cX17_spill 267 = .ok (.iload 7, 2) := by decide +kernel
theorem dr_cX17_spill_269 : decode cX17_spill 269 = .ok (.iaload, 1) := by decide +kernel
theorem dr_cX17_spill_270 : decode cX17_spill 270 = .ok (.invokevirtual 227, 3) := by decide +kernel
theorem wr_11_67 : (Jvm.Cond.methodLink "SpillForgeModel" (227 : Nat) ({ cls := "SpillForgeModel", name := "load", desc := "(LSpillForgeModel$Code;LSpillForgeModel$Block;II)I" } : Jvm.MethodName)) ∈ gw := gw_11 67 rfl rfl
theorem wr_11_70 : (Jvm.Cond.code ({ cls := "SpillForgeModel", name := "load", desc := "(LSpillForgeModel$Code;LSpillForgeModel$Block;II)I" } : Jvm.MethodName) prog_14_method_23_code (6 : Nat) (Option.some Jvm.ClassFile.FieldType.int)) ∈ gw := gw_11 70 rfl rfl
theorem wr_11_69 : (Jvm.Cond.instanceMethod ({ cls := "SpillForgeModel", name := "load", desc := "(LSpillForgeModel$Code;LSpillForgeModel$Block;II)I" } : Jvm.MethodName)) ∈ gw := gw_11 69 rfl rfl
theorem wr_p_111 : Cond.selects "SpillForgeModel" ⟨"SpillForgeModel", "load", "(LSpillForgeModel$Code;LSpillForgeModel$Block;II)I"⟩ ⟨"SpillForgeModel", "load", "(LSpillForgeModel$Code;LSpillForgeModel$Block;II)I"⟩ ∈ gw := gw_p _ 111 rfl rfl rfl
theorem dr_cX17_spill_273 : decode cX17_spill 273 = .ok (.istore 8, 2) := by decide +kernel
theorem dr_cX17_spill_275 : decode cX17_spill 275 = .ok (.iload 8, 2) := by decide +kernel
theorem dr_cX17_spill_277 : decode cX17_spill 277 = .ok (.ifCond .ge 5, 3) := by decide +kernel
theorem dr_cX17_spill_282 : decode cX17_spill 282 = .ok (.iinc 4 1, 3) := by decide +kernel
theorem dr_cX17_spill_285 : decode cX17_spill 285 = .ok (.aload 5, 2) := by decide +kernel
theorem dr_cX17_spill_287 : decode cX17_spill 287 = .ok (.iload 8, 2) := by decide +kernel
theorem dr_cX17_spill_289 : decode cX17_spill 289 = .ok (.putfield 79, 3) := by decide +kernel
theorem dr_cX17_spill_280 : decode cX17_spill 280 = .ok (.iconst 0, 1) := by decide +kernel
theorem dr_cX17_spill_281 : decode cX17_spill 281 = .ok (.ireturn, 1) := by decide +kernel
theorem dr_cX17_spill_102 : decode cX17_spill 102 = .ok (.iload 4, 2) := by decide +kernel
theorem dr_cX17_spill_104 : decode cX17_spill 104 = .ok (.aload_n 3, 1) := by decide +kernel
theorem dr_cX17_spill_105 : decode cX17_spill 105 = .ok (.getfield 117, 3) := by decide +kernel
theorem dr_cX17_spill_108 : decode cX17_spill 108 = .ok (.invokevirtual 121, 3) := by decide +kernel
theorem dr_cX17_spill_111 : decode cX17_spill 111 = .ok (.if_icmp .ge 18, 3) := by decide +kernel
theorem dr_cX17_spill_129 : decode cX17_spill 129 = .ok (.aload_n 3, 1) := by decide +kernel
theorem dr_cX17_spill_130 : decode cX17_spill 130 = .ok (.getfield 109, 3) := by decide +kernel
theorem dr_cX17_spill_133 : decode cX17_spill 133 = .ok (.astore 5, 2) := by decide +kernel
theorem dr_cX17_spill_135 : decode cX17_spill 135 = .ok (.aload 5, 2) := by decide +kernel
theorem dr_cX17_spill_137 : decode cX17_spill 137 = .ok (.invokevirtual 70, 3) := by decide +kernel
theorem dr_cX17_spill_140 : decode cX17_spill 140 = .ok (.ifCond .eq 11, 3) := by decide +kernel
theorem dr_cX17_spill_151 : decode cX17_spill 151 = .ok (.iconst (-1), 1) := by decide +kernel
theorem dr_cX17_spill_152 : decode cX17_spill 152 = .ok (.istore 6, 2) := by decide +kernel
theorem dr_cX17_spill_154 : decode cX17_spill 154 = .ok (.aload 5, 2) := by decide +kernel
theorem dr_cX17_spill_156 : decode cX17_spill 156 = .ok (.invokevirtual 76, 3) := by decide +kernel
theorem dr_cX17_spill_159 : decode cX17_spill 159 = .ok (.ifCond .eq 11, 3) := by decide +kernel
theorem dr_cX17_spill_170 : decode cX17_spill 170 = .ok (.iconst (-1), 1) := by decide +kernel
theorem dr_cX17_spill_171 : decode cX17_spill 171 = .ok (.istore 7, 2) := by decide +kernel
theorem dr_cX17_spill_173 : decode cX17_spill 173 = .ok (.iload 6, 2) := by decide +kernel
theorem dr_cX17_spill_175 : decode cX17_spill 175 = .ok (.ifCond .lt 61, 3) := by decide +kernel
theorem dr_cX17_spill_162 : decode cX17_spill 162 = .ok (.aload 5, 2) := by decide +kernel
theorem dr_cX17_spill_164 : decode cX17_spill 164 = .ok (.getfield 79, 3) := by decide +kernel
theorem dr_cX17_spill_167 : decode cX17_spill 167 = .ok (.goto 4, 3) := by decide +kernel
theorem dr_cX17_spill_143 : decode cX17_spill 143 = .ok (.aload 5, 2) := by decide +kernel
theorem dr_cX17_spill_145 : decode cX17_spill 145 = .ok (.getfield 73, 3) := by decide +kernel
theorem dr_cX17_spill_148 : decode cX17_spill 148 = .ok (.goto 4, 3) := by decide +kernel
theorem dr_cX17_spill_178 : decode cX17_spill 178 = .ok (.aload_n 0, 1) := by decide +kernel
theorem dr_cX17_spill_179 : decode cX17_spill 179 = .ok (.getfield 221, 3) := by decide +kernel
theorem dr_cX17_spill_182 : decode cX17_spill 182 = .ok (.iload 6, 2) := by decide +kernel
theorem dr_cX17_spill_184 : decode cX17_spill 184 = .ok (.iaload, 1) := by decide +kernel
theorem dr_cX17_spill_185 : decode cX17_spill 185 = .ok (.ifCond .lt 51, 3) := by decide +kernel
theorem dr_cX17_spill_188 : decode cX17_spill 188 = .ok (.aload_n 0, 1) := by decide +kernel
theorem dr_cX17_spill_189 : decode cX17_spill 189 = .ok (.aload_n 1, 1) := by decide +kernel
theorem dr_cX17_spill_190 : decode cX17_spill 190 = .ok (.aload_n 3, 1) := by decide +kernel
theorem dr_cX17_spill_191 : decode cX17_spill 191 = .ok (.iload 4, 2) := by decide +kernel
theorem dr_cX17_spill_193 : decode cX17_spill 193 = .ok (.aload_n 0, 1) := by decide +kernel
theorem dr_cX17_spill_194 : decode cX17_spill 194 = .ok (.getfield 221, 3) := by decide +kernel
theorem dr_cX17_spill_197 : decode cX17_spill 197 = .ok (.iload 6, 2) := by decide +kernel
theorem dr_cX17_spill_199 : decode cX17_spill 199 = .ok (.iaload, 1) := by decide +kernel
theorem dr_cX17_spill_200 : decode cX17_spill 200 = .ok (.invokevirtual 227, 3) := by decide +kernel
theorem dr_cX17_spill_203 : decode cX17_spill 203 = .ok (.istore 8, 2) := by decide +kernel
theorem dr_cX17_spill_205 : decode cX17_spill 205 = .ok (.iload 8, 2) := by decide +kernel
theorem dr_cX17_spill_207 : decode cX17_spill 207 = .ok (.ifCond .ge 5, 3) := by decide +kernel
theorem dr_cX17_spill_212 : decode cX17_spill 212 = .ok (.iinc 4 1, 3) := by decide +kernel
theorem dr_cX17_spill_215 : decode cX17_spill 215 = .ok (.aload 5, 2) := by decide +kernel
theorem dr_cX17_spill_217 : decode cX17_spill 217 = .ok (.iload 8, 2) := by decide +kernel
theorem dr_cX17_spill_219 : decode cX17_spill 219 = .ok (.putfield 73, 3) := by decide +kernel
theorem dr_cX17_spill_222 : decode cX17_spill 222 = .ok (.iload 7, 2) := by decide +kernel
theorem dr_cX17_spill_224 : decode cX17_spill 224 = .ok (.iload 6, 2) := by decide +kernel
theorem dr_cX17_spill_226 : decode cX17_spill 226 = .ok (.if_icmp .ne 10, 3) := by decide +kernel
theorem dr_cX17_spill_210 : decode cX17_spill 210 = .ok (.iconst 0, 1) := by decide +kernel
theorem dr_cX17_spill_211 : decode cX17_spill 211 = .ok (.ireturn, 1) := by decide +kernel
theorem dr_cX17_spill_229 : decode cX17_spill 229 = .ok (.aload 5, 2) := by decide +kernel
theorem dr_cX17_spill_231 : decode cX17_spill 231 = .ok (.iload 8, 2) := by decide +kernel
theorem dr_cX17_spill_233 : decode cX17_spill 233 = .ok (.putfield 79, 3) := by decide +kernel
theorem dr_cX17_spill_114 : decode cX17_spill 114 = .ok (.aload_n 3, 1) := by decide +kernel
theorem dr_cX17_spill_115 : decode cX17_spill 115 = .ok (.getfield 117, 3) := by decide +kernel
theorem dr_cX17_spill_118 : decode cX17_spill 118 = .ok (.iload 4, 2) := by decide +kernel
theorem dr_cX17_spill_120 : decode cX17_spill 120 = .ok (.invokevirtual 124, 3) := by decide +kernel
theorem dr_cX17_spill_123 : decode cX17_spill 123 = .ok (.checkcast 40, 3) := by decide +kernel
theorem dr_cX17_spill_126 : decode cX17_spill 126 = .ok (.goto 7, 3) := by decide +kernel
theorem dr_cX17_spill_9 : decode cX17_spill 9 = .ok (.aload_n 0, 1) := by decide +kernel
theorem dr_cX17_spill_10 : decode cX17_spill 10 = .ok (.getfield 221, 3) := by decide +kernel
theorem dr_cX17_spill_13 : decode cX17_spill 13 = .ok (.iload_n 2, 1) := by decide +kernel
theorem dr_cX17_spill_14 : decode cX17_spill 14 = .ok (.iconst (-1), 1) := by decide +kernel
theorem dr_cX17_spill_15 : decode cX17_spill 15 = .ok (.iastore, 1) := by decide +kernel
theorem dr_cX17_spill_16 : decode cX17_spill 16 = .ok (.aload_n 0, 1) := by decide +kernel
theorem dr_cX17_spill_17 : decode cX17_spill 17 = .ok (.getfield 131, 3) := by decide +kernel
theorem dr_cX17_spill_20 : decode cX17_spill 20 = .ok (.iload_n 2, 1) := by decide +kernel
theorem dr_cX17_spill_21 : decode cX17_spill 21 = .ok (.baload, 1) := by decide +kernel
theorem dr_cX17_spill_22 : decode cX17_spill 22 = .ok (.ifCond .eq 43, 3) := by decide +kernel
theorem dr_cX17_spill_65 : decode cX17_spill 65 = .ok (.iinc 2 1, 3) := by decide +kernel
theorem dr_cX17_spill_68 : decode cX17_spill 68 = .ok (.goto (-66), 3) := by decide +kernel
theorem dr_cX17_spill_25 : decode cX17_spill 25 = .ok (.aload_n 0, 1) := by decide +kernel
theorem dr_cX17_spill_26 : decode cX17_spill 26 = .ok (.getfield 212, 3) := by decide +kernel
theorem dr_cX17_spill_29 : decode cX17_spill 29 = .ok (.iload_n 2, 1) := by decide +kernel
theorem dr_cX17_spill_30 : decode cX17_spill 30 = .ok (.iaload, 1) := by decide +kernel
theorem dr_cX17_spill_31 : decode cX17_spill 31 = .ok (.ifCond .lt 6, 3) := by decide +kernel
theorem dr_cX17_spill_37 : decode cX17_spill 37 = .ok (.iload_n 2, 1) := by decide +kernel
theorem dr_cX17_spill_38 : decode cX17_spill 38 = .ok (.bipush 100, 2) := by decide +kernel
theorem dr_cX17_spill_40 : decode cX17_spill 40 = .ok (.if_icmp .lt 5, 3) := by decide +kernel
theorem dr_cX17_spill_45 : decode cX17_spill 45 = .ok (.aload_n 0, 1) := by decide +kernel
theorem dr_cX17_spill_46 : decode cX17_spill 46 = .ok (.getfield 221, 3) := by decide +kernel
theorem dr_cX17_spill_49 : decode cX17_spill 49 = .ok (.iload_n 2, 1) := by decide +kernel
theorem dr_cX17_spill_50 : decode cX17_spill 50 = .ok (.aload_n 0, 1) := by decide +kernel
theorem dr_cX17_spill_51 : decode cX17_spill 51 = .ok (.getfield 224, 3) := by decide +kernel
theorem dr_cX17_spill_54 : decode cX17_spill 54 = .ok (.iastore, 1) := by decide +kernel
theorem dr_cX17_spill_55 : decode cX17_spill 55 = .ok (.aload_n 0, 1) := by decide +kernel
theorem dr_cX17_spill_56 : decode cX17_spill 56 = .ok (.dup, 1) := by decide +kernel
theorem dr_cX17_spill_57 : decode cX17_spill 57 = .ok (.getfield 224, 3) := by decide +kernel
theorem dr_cX17_spill_60 : decode cX17_spill 60 = .ok (.iconst 1, 1) := by decide +kernel
theorem dr_cX17_spill_61 : decode cX17_spill 61 = .ok (.iadd, 1) := by decide +kernel
theorem dr_cX17_spill_62 : decode cX17_spill 62 = .ok (.putfield 224, 3) := by decide +kernel
theorem dr_cX17_spill_43 : decode cX17_spill 43 = .ok (.iconst 0, 1) := by decide +kernel
theorem dr_cX17_spill_44 : decode cX17_spill 44 = .ok (.ireturn, 1) := by decide +kernel
theorem dr_cX17_spill_34 : decode cX17_spill 34 = .ok (.goto 31, 3) := by decide +kernel
abbrev ky_587837_SpillForgeModel_spill : gKey := (cX17_spill, 10, "SpillForgeModel", (some FieldType.boolean), [], "spill", fun _ _ => True)
def pg_587837_SpillForgeModel_spill (D : va_G) (I : FieldType → ClassId) (γ0 el0 : Nat → Nat → Nat) (f : Nat) (B : Nat) (P587827 : List Nat) (F587828 : Nat → va_E) (q587829 : Nat) (q587830 : Nat) : Option Value → va_W → Nat → Nat → Prop := fun r w dc ds => ∃ (P629659 : List Nat) (F629660 : Nat → va_E) (γ el : Nat → Nat → Nat) (o629658 : Int32), r = some (.int o629658) ∧ w = va_pl P629659 F629660 ∧ rSk f [101] ([1, 3, 5, 6, 8, 9, 101] ++ npk) D I P587827 F587828 γ0 el0 P629659 F629660 γ el ∧ (18 * dc + rPh γ0 el0 f ≤ rPh γ el f ∧ ds + rPh γ0 el0 f ≤ rPh γ el f) ∧ rBd γ el f B ∧ gB o629658 0 1 ∧ γ 6 f = γ0 6 f ∧ (o629658.toInt = 0 ∨ (γ 6 f = γ0 6 f ∧ γ 18 f = γ0 18 f ∧ ((γ 7 f : Nat) : Int) = (fI (F629660 q587829) 11).toInt ∧ ((γ 16 f : Nat) : Int) + 2001 ≤ (B : Int) + (fI (F629660 q587829) 14).toInt ∧ 100 ≤ (fI (F629660 q587829) 14).toInt ∧ rNI γ el F629660 q587830 (γ 6 f) (fI (F629660 q587829) 11).toInt)) ∧ (F629660 (γ0 9 3) = F587828 (γ0 9 3)) ∧ mKp (F587828 q587829) (F629660 q587829)
set_option maxRecDepth 100000 in
set_option maxHeartbeats 20000000 in
theorem cg_587837_SpillForgeModel_spill (l : Launch) (hl0 : l.stackTraces = false) (D : va_G) (I : FieldType → ClassId) (γ0 el0 : Nat → Nat → Nat) (f : Nat) (B : Nat) (P587827 : List Nat) (F587828 : Nat → va_E) (q587829 : Nat) (q587830 : Nat) (hT0 : RS D I P587827 F587828 γ0 el0) (hzq587829 : rKd γ0 q587829 10) (hzq587830 : rKd γ0 q587830 9) (hf0 : γ0 1 q587830 = f) (hB0 : rBd γ0 el0 f B) (hBk : B ≤ 100000) (x587831 : 0 < γ0 6 f) (x587832 : ((γ0 7 f : Nat) : Int) = (fI (F587828 q587829) 11).toInt) (x587833 : ((γ0 16 f : Nat) : Int) + 2001 ≤ (B : Int) + (fI (F587828 q587829) 14).toInt) (x587834 : (fI (F587828 q587829) 11).toInt + (rcn (cB (F587828 (γ0 9 3))) 100 : Nat) ≤ 100) (x587835 : rPl γ0 el0 F587828 q587830 (γ0 6 f) (fun _ _ => rNx (rSd (cB (F587828 (γ0 9 3)))))) (x587836 : 100 ≤ (fI (F587828 q587829) 14).toInt) : CtA (gV D I) l yX17_spill cX17_spill 10 (some FieldType.boolean) 9 195 (((387 * B + 6000) - rPh γ0 el0 f) / 18) ((387 * B + 6000) - rPh γ0 el0 f) [.ref q587829, .ref q587830] (va_pl P587827 F587828) (pg_587837_SpillForgeModel_spill D I γ0 el0 f B P587827 F587828 q587829 q587830) gNA := by
  refine CtA_of hl0 (by decide) (Nat.le_of_ble_eq_true rfl) ?_
  obtain ⟨γ, hγ0⟩ : ∃ z, z = γ0 := ⟨_, rfl⟩
  obtain ⟨el, hel0⟩ : ∃ z, z = el0 := ⟨_, rfl⟩
  have hT : RS D I P587827 F587828 γ el := by rw [hγ0, hel0]; exact hT0
  have hst : rSk f [101] ([1, 3, 5, 6, 8, 9, 101] ++ npk) D I P587827 F587828 γ0 el0 P587827 F587828 γ el := by rw [hγ0, hel0]; exact rSk_rf hT0
  have hph : rPh γ0 el0 f ≤ rPh γ el f := by rw [hγ0, hel0]; exact Nat.le_refl _
  have hB : rBd γ el f B := by rw [hγ0, hel0]; exact hB0
  have htq587829 : rKd γ q587829 10 := by rw [hγ0]; exact hzq587829
  have htq587830 : rKd γ q587830 9 := by rw [hγ0]; exact hzq587830
  have hf1 : γ 1 q587830 = f := by rw [hγ0]; exact hf0
  have x587831n : 0 < γ 6 f := by rw [hγ0]; exact x587831
  have x587832n : ((γ 7 f : Nat) : Int) = (fI (F587828 q587829) 11).toInt := by rw [hγ0]; exact x587832
  have x587833n : ((γ 16 f : Nat) : Int) + 2001 ≤ (B : Int) + (fI (F587828 q587829) 14).toInt := by rw [hγ0]; exact x587833
  have x587834n : (fI (F587828 q587829) 11).toInt + (rcn (cB (F587828 (γ 9 3))) 100 : Nat) ≤ 100 := by rw [hγ0]; exact x587834
  have x587835n : rPl γ el F587828 q587830 (γ 6 f) (fun _ _ => rNx (rSd (cB (F587828 (γ 9 3))))) := by rw [hγ0, hel0]; exact x587835
  have pk587838 : rPh γ el f ≤ 387 * B + 6000 := rm_pk (rM_ge hT htq587830 hf1).1 (rM_bd hB)
  refine G_widen (cs' := ((rPh γ el f - rPh γ0 el0 f) / 18)) (sl' := (rPh γ el f - rPh γ0 el0 f)) (Nat.zero_le _) (Nat.zero_le _) ?_
  have lz0 : Int32.toInt 0 = 0 := by decide
  have r587839 : γ 6 f = γ0 6 f := by rw [hγ0]
  have r587840 : γ 7 f = γ0 7 f := by rw [hγ0]
  have r587841 : γ 16 f = γ0 16 f := by rw [hγ0]
  have r587842 : γ 18 f = γ0 18 f := by rw [hγ0]
  have r587843 : γ 19 f = γ0 19 f := by rw [hγ0]
  have hm587844 : q587829 ∈ P587827 := RS_m hT htq587829 (by decide)
  refine rk10_e (show rk_10 γ (F587828 q587829) from RS_o hT htq587829) (fun q587846 q587847 p587848 p587849 p587850 p587851 p587852 p587853 p587854 p587855 p587856 p587857 p587858 p587859 p587860 p587861 p587862 he587845 hB587889 ht587863 ht587864 ht587865 ht587866 ht587867 ht587868 ht587869 ht587870 ht587871 ht587872 ht587873 ht587874 ht587875 ht587876 ht587877 ht587878 ht587879 ht587880 ht587881 ht587882 ht587883 ht587884 ht587885 ht587886 hB587890 => ?_)
  have ac0_11 : (fI (F587828 q587829) 11).toInt = p587850.toInt := by rw [he587845]; rfl
  have ac0_14 : (fI (F587828 q587829) 14).toInt = p587853.toInt := by rw [he587845]; rfl
  have bp587850 : gB p587850 0 100 := (hB587889.2.2.1)
  have bp587853 : gB p587853 0 2000 := (hB587889.2.2.2.1)
  have k0_3 : rKd γ0 (γ0 9 3) 14 := by rw [← hγ0]; exact ht587868
  have k0_17 : rKd γ0 (γ0 9 17) 20 := by rw [← hγ0]; exact ht587876
  have k0_19 : rKd γ0 (γ0 9 19) 21 := by rw [← hγ0]; exact ht587878
  refine G_iconst 0 dr_cX17_spill_0 (by decide +kernel) ?_
  refine G_istore_n (L' := [(2, .int 0), (0, .ref q587829), (1, .ref q587830)]) dr_cX17_spill_1 (Nat.le_of_ble_eq_true rfl) rfl ?_
  have hlp2_622906 : ∀ (n2_622906 : Nat) (P622892 : List Nat) (F622893 : Nat → va_E) (γ el : Nat → Nat → Nat) (g622891 : Int32), gB g622891 0 2000 → RS D I P622892 F622893 γ el → rSk f [101] ([1, 3, 5, 6, 8, 9, 101] ++ npk) D I P587827 F587828 γ0 el0 P622892 F622893 γ el → rPh γ0 el0 f ≤ rPh γ el f → rBd γ el f B → γ 6 f = γ0 6 f → γ 7 f = γ0 7 f → γ 16 f = γ0 16 f → γ 18 f = γ0 18 f → (fI (F622893 q587829) 14).toInt = (fI (F587828 q587829) 14).toInt → spI (cB (F587828 (γ0 9 3))) (cB (F622893 (γ0 9 19))) (g622891.toInt : Int).toNat (fI (F587828 q587829) 11).toInt (fI (F622893 q587829) 11).toInt → rPl γ el F622893 q587830 (γ 6 f) (fun _ _ => rNx (rSd (cB (F587828 (γ0 9 3))))) → (F622893 (γ0 9 3) = F587828 (γ0 9 3)) → mKp (F587828 q587829) (F622893 q587829) → ((2001 : Int) - g622891.toInt).toNat < n2_622906 → G (gV D I) l (gRm 9 195 (((387 * B + 6000) - rPh γ0 el0 f) / 18) ((387 * B + 6000) - rPh γ0 el0 f)) (gMA (gV D I) (pg_587837_SpillForgeModel_spill D I γ0 el0 f B P587827 F587828 q587829 q587830) gNA (((387 * B + 6000) - rPh γ0 el0 f) / 18) ((387 * B + 6000) - rPh γ0 el0 f)) ky_587837_SpillForgeModel_spill 2 [(2, .int g622891), (0, .ref q587829), (1, .ref q587830)] [] (va_pl P622892 F622893) ((rPh γ el f - rPh γ0 el0 f) / 18) (rPh γ el f - rPh γ0 el0 f) := by
    intro n2_622906
    induction n2_622906 with
    | zero => intro P622892 F622893 γ el g622891 bg622891 hT622894 hs622895 hph622896 hB622897 x622898 x622899 x622900 x622901 x622902 x622903 x622904 x622905 x622906 hm2_622906; exact absurd hm2_622906 (Nat.not_lt_zero _)
    | succ n2_622906 ih2_622906 =>
      intro P622892 F622893 γ el g622891 bg622891 hT622894 hs622895 hph622896 hB622897 x622898 x622899 x622900 x622901 x622902 x622903 x622904 x622905 x622906 hm2_622906
      clear r587839 r587840 r587841 r587842 r587843
      have ht622908 : rKd γ q587829 10 := rSk_k hs622895 hzq587829 (by decide) (by decide)
      have ht622909 : rKd γ q587830 9 := rSk_k hs622895 hzq587830 (by decide) (by decide)
      have hf622910 : γ 1 q587830 = f := rSk_1 hs622895 hzq587830 (by decide) hf0
      have pk622911 : rPh γ el f ≤ 387 * B + 6000 := rm_pk (rM_ge hT622894 ht622909 hf622910).1 (rM_bd hB622897)
      have hm622912 : q587829 ∈ P622892 := RS_m hT622894 ht622908 (by decide)
      refine rk10_e (show rk_10 γ (F622893 q587829) from RS_o hT622894 ht622908) (fun q622914 q622915 p622916 p622917 p622918 p622919 p622920 p622921 p622922 p622923 p622924 p622925 p622926 p622927 p622928 p622929 p622930 he622913 hB622957 ht622931 ht622932 ht622933 ht622934 ht622935 ht622936 ht622937 ht622938 ht622939 ht622940 ht622941 ht622942 ht622943 ht622944 ht622945 ht622946 ht622947 ht622948 ht622949 ht622950 ht622951 ht622952 ht622953 ht622954 hB622958 => ?_)
      have ac622959 : (fI (F622893 q587829) 11).toInt = p622918.toInt := by rw [he622913]; rfl
      have bp622918 : gB p622918 0 100 := (hB622957.2.2.1)
      have ac622960 : (fI (F622893 q587829) 14).toInt = p622921.toInt := by rw [he622913]; rfl
      have bp622921 : gB p622921 0 2000 := (hB622957.2.2.2.1)
      have r622961 : 0 < γ 6 (γ 1 q587830) := by rw [hf622910]; omega
      have hm622962 : (γ 9 3) ∈ P622892 := RS_m hT622894 ht622936 (by decide)
      obtain ⟨f622964, he622963, bf622964⟩ := show rk_14 I (F622893 (γ 9 3)) from RS_o hT622894 ht622936
      have c9_622965 : cB (F587828 (γ0 9 3)) = f622964 := by rw [← x622905, ← congrFun (rSk_9 hs622895) 3]; exact cB_of he622963
      have hm622966 : (γ 9 19) ∈ P622892 := RS_m hT622894 ht622946 (by decide)
      obtain ⟨f622968, he622967, bf622968⟩ := show rk_21 I (F622893 (γ 9 19)) from RS_o hT622894 ht622946
      have c9_622969 : cB (F622893 (γ0 9 19)) = f622968 := by rw [← congrFun (rSk_9 hs622895) 19]; exact cB_of he622967
      have hm622970 : (γ 9 17) ∈ P622892 := RS_m hT622894 ht622944 (by decide)
      obtain ⟨f622972, he622971, bf622972⟩ := show rk_20 I (F622893 (γ 9 17)) from RS_o hT622894 ht622944
      have cq622973 := x622903
      rw [c9_622965, c9_622969, ac622959] at cq622973
      refine G_iload_n 0 dr_cX17_spill_2 rfl ?_
      refine G_sipush 2000 dr_cX17_spill_3 (by decide +kernel) ?_
      refine G_icmp_ge 71 dr_cX17_spill_6 (by decide +kernel) (fun hc622974 => ?_) (fun hc622974 => ?_)
      · have r622975 : 2000 ≤ g622891.toInt := gj_leL hc622974 (show Int32.toInt 2000 = 2000 by decide)
        have bg622891' : gB g622891 2000 2000 := ⟨by omega, by omega⟩
        have ac622976 : (fI (F622893 q587829) 11).toInt = p622918.toInt := by rw [he622913]; rfl
        have ac622977 : (fI (F622893 q587829) 14).toInt = p622921.toInt := by rw [he622913]; rfl
        have spi622978 := x622903
        rw [show (g622891.toInt : Int).toNat = 2000 by omega] at spi622978
        have r622979 := cq622973.1
        have hv622980 := St_slots (f := f) (n := p622918.toInt.toNat) hT622894 ht622909 hf622910 (by omega)
        obtain ⟨γ, hg622981⟩ : ∃ z, z = gVal γ 7 f p622918.toInt.toNat := ⟨_, rfl⟩
        rw [← hg622981] at hv622980
        have hk622982 := rSk_of hv622980.1
        have r622983 := hv622980.2.1
        have hT622984 := hk622982.1
        have hs622985 := rSk_tr hs622895 hk622982 (by decide) (by decide) (by decide)
        have kp622986 : F622893 (γ0 9 3) = F587828 (γ0 9 3) := (rSk_F hk622982 (rSk_k hs622895 k0_3 (by decide) (by decide)) (by decide) (by decide)).trans x622905
        have kp622987 : F622893 (γ0 9 19) = F622893 (γ0 9 19) := rSk_F hk622982 (rSk_k hs622895 k0_19 (by decide) (by decide)) (by decide) (by decide)
        have r622988 := rSk_F hk622982 ht622908 (by decide) (by decide)
        have ht622989 : rKd γ q587829 10 := rSk_k hk622982 ht622908 (by decide) (by decide)
        have ht622990 : rKd γ q587830 9 := rSk_k hk622982 ht622909 (by decide) (by decide)
        have hf622991 : γ 1 q587830 = f := rSk_1 hk622982 ht622909 (by decide) hf622910
        have mk622992 : mKp (F587828 q587829) (F622893 q587829) := mKp_tr x622906 (mKp_eq (rSk_F hk622982 ht622908 (by decide) (by decide)))
        have hm622993 : q587829 ∈ P622892 := RS_m hT622984 ht622989 (by decide)
        refine rk10_e (show rk_10 γ (F622893 q587829) from RS_o hT622984 ht622989) (fun q622995 q622996 p622997 p622998 p622999 p623000 p623001 p623002 p623003 p623004 p623005 p623006 p623007 p623008 p623009 p623010 p623011 he622994 hB623038 ht623012 ht623013 ht623014 ht623015 ht623016 ht623017 ht623018 ht623019 ht623020 ht623021 ht623022 ht623023 ht623024 ht623025 ht623026 ht623027 ht623028 ht623029 ht623030 ht623031 ht623032 ht623033 ht623034 ht623035 hB623039 => ?_)
        have r623040 : p622999.toInt = p622918.toInt := by have z : p622999 = p622918 := congrArg (fun e => fI e 11) (he622994.symm.trans (r622988.trans he622913)); rw [z]
        have bp622999 : gB p622999 0 100 := (hB623038.2.2.1)
        have r623041 : p623002.toInt = p622921.toInt := by have z : p623002 = p622921 := congrArg (fun e => fI e 14) (he622994.symm.trans (r622988.trans he622913)); rw [z]
        have bp623002 : gB p623002 0 2000 := (hB623038.2.2.2.1)
        have hB623042 : rBd γ el f B := hv622980.2.2.2 B hB622897
        have hph623043 : rPh γ0 el0 f ≤ rPh γ el f := by rw [r622983]; exact hph622896
        have pk623044 : rPh γ el f ≤ 387 * B + 6000 := rm_pk (rM_ge hT622984 ht622990 hf622991).1 (rM_bd hB623042)
        refine G_widen (cs' := ((rPh γ el f - rPh γ0 el0 f) / 18)) (sl' := (rPh γ el f - rPh γ0 el0 f)) (rm_ec r622983) (rm_es r622983) ?_
        have r623045 := gVal_7 hg622981
        have pl623046 := sp_0 (h := cB (F622893 (γ0 9 19))) (rPl_val hT622894 ht622909 hf622910 hk622982 hg622981 x622904)
        have r623047 : 0 < γ 6 (γ 1 q587830) := by rw [hf622991]; omega
        have ac623048 : (fI (F622893 q587829) 11).toInt = p622999.toInt := by rw [he622994]; rfl
        have ac623049 : (fI (F622893 q587829) 14).toInt = p623002.toInt := by rw [he622994]; rfl
        refine G_iconst 0 dr_cX17_spill_71 (by decide +kernel) ?_
        refine G_istore_n (L' := [(2, .int 0), (0, .ref q587829), (1, .ref q587830)]) dr_cX17_spill_72 (Nat.le_of_ble_eq_true rfl) rfl ?_
        have hlp73_626178 : ∀ (n73_626178 : Nat) (P626163 : List Nat) (F626164 : Nat → va_E) (γ el : Nat → Nat → Nat) (g626162 : Int32), gB g626162 0 1000000 → RS D I P626163 F626164 γ el → rSk f [101] ([1, 3, 5, 6, 8, 9, 101] ++ npk) D I P587827 F587828 γ0 el0 P626163 F626164 γ el → rPh γ0 el0 f ≤ rPh γ el f → rBd γ el f B → γ 6 f = γ0 6 f → γ 18 f = γ0 18 f → ((γ 7 f : Nat) : Int) = (fI (F626164 q587829) 11).toInt → (fI (F626164 q587829) 11).toInt = (fI (F622893 q587829) 11).toInt → ((γ 16 f : Nat) : Int) + 2001 ≤ (B : Int) + (fI (F626164 q587829) 14).toInt → 100 ≤ (fI (F626164 q587829) 14).toInt → (F626164 (γ0 9 19) = F622893 (γ0 9 19)) → rPl γ el F626164 q587830 (γ 6 f) (spQ (cB (F587828 (γ0 9 3))) (cB (F622893 (γ0 9 19))) (g626162.toInt : Int).toNat 0) → (F626164 (γ0 9 3) = F587828 (γ0 9 3)) → mKp (F587828 q587829) (F626164 q587829) → ((1000001 : Int) - g626162.toInt).toNat < n73_626178 → G (gV D I) l (gRm 9 195 (((387 * B + 6000) - rPh γ0 el0 f) / 18) ((387 * B + 6000) - rPh γ0 el0 f)) (gMA (gV D I) (pg_587837_SpillForgeModel_spill D I γ0 el0 f B P587827 F587828 q587829 q587830) gNA (((387 * B + 6000) - rPh γ0 el0 f) / 18) ((387 * B + 6000) - rPh γ0 el0 f)) ky_587837_SpillForgeModel_spill 73 [(2, .int g626162), (0, .ref q587829), (1, .ref q587830)] [] (va_pl P626163 F626164) ((rPh γ el f - rPh γ0 el0 f) / 18) (rPh γ el f - rPh γ0 el0 f) := by
          intro n73_626178
          induction n73_626178 with
          | zero => intro P626163 F626164 γ el g626162 bg626162 hT626165 hs626166 hph626167 hB626168 x626169 x626170 x626171 x626172 x626173 x626174 x626175 x626176 x626177 x626178 hm73_626178; exact absurd hm73_626178 (Nat.not_lt_zero _)
          | succ n73_626178 ih73_626178 =>
            intro P626163 F626164 γ el g626162 bg626162 hT626165 hs626166 hph626167 hB626168 x626169 x626170 x626171 x626172 x626173 x626174 x626175 x626176 x626177 x626178 hm73_626178
            clear r622979 r622983 r622988 r623040 r623041 hph623043 pk623044 r623045 r623047
            have ht626180 : rKd γ q587829 10 := rSk_k hs626166 hzq587829 (by decide) (by decide)
            have ht626181 : rKd γ q587830 9 := rSk_k hs626166 hzq587830 (by decide) (by decide)
            have hf626182 : γ 1 q587830 = f := rSk_1 hs626166 hzq587830 (by decide) hf0
            have pk626183 : rPh γ el f ≤ 387 * B + 6000 := rm_pk (rM_ge hT626165 ht626181 hf626182).1 (rM_bd hB626168)
            have r626184 : 0 < γ 6 (γ 1 q587830) := by rw [hf626182]; omega
            have hm626185 : q587829 ∈ P626163 := RS_m hT626165 ht626180 (by decide)
            refine rk10_e (show rk_10 γ (F626164 q587829) from RS_o hT626165 ht626180) (fun q626187 q626188 p626189 p626190 p626191 p626192 p626193 p626194 p626195 p626196 p626197 p626198 p626199 p626200 p626201 p626202 p626203 he626186 hB626230 ht626204 ht626205 ht626206 ht626207 ht626208 ht626209 ht626210 ht626211 ht626212 ht626213 ht626214 ht626215 ht626216 ht626217 ht626218 ht626219 ht626220 ht626221 ht626222 ht626223 ht626224 ht626225 ht626226 ht626227 hB626231 => ?_)
            have ac626232 : (fI (F626164 q587829) 11).toInt = p626191.toInt := by rw [he626186]; rfl
            have bp626191 : gB p626191 0 100 := (hB626230.2.2.1)
            have ac626233 : (fI (F626164 q587829) 14).toInt = p626194.toInt := by rw [he626186]; rfl
            have bp626194 : gB p626194 0 2000 := (hB626230.2.2.2.1)
            refine G_iload_n 0 dr_cX17_spill_73 rfl ?_
            refine G_aload_n 2 dr_cX17_spill_74 rfl ?_
            have hm626234 : q587830 ∈ P626163 := RS_m hT626165 ht626181 (by decide)
            obtain ⟨q626236, q626237, p626238, p626239, he626235, ht626255, ht626240, ht626241, ht626242, ht626243, r626244, r626245, r626246, r626247, r626248, r626249, r626250, r626251, r626252, r626253, r626254⟩ := show rk_9 γ el q587830 (F626164 q587830) from RS_o hT626165 ht626181
            have bp626238 : gB p626238 0 1000000 := ⟨by omega, by omega⟩
            have bp626239 : gB p626239 0 1000000 := ⟨by omega, by omega⟩
            have hf626256 : γ 1 q626236 = f := (show γ 1 q626236 = γ 1 q587830 from ht626241).trans hf626182
            have hf626257 : γ 1 q626237 = f := (show γ 1 q626237 = γ 1 q587830 from ht626243).trans hf626182
            have r626258 : γ 6 (γ 1 q587830) = γ 6 f := by rw [hf626182]
            have r626259 : γ 16 (γ 1 q587830) = γ 16 f := by rw [hf626182]
            have r626260 : p626239.toInt = γ 6 f ∧ p626239.toInt ≤ 40 := by omega
            clear r626250
            refine Gw_callV (As := []) (gV_ok D I) (cp_12780_Code_size l hl0 D I P626163 F626164 q587830 q626236 q626237 p626238 p626239 hm626234 he626235) dr_cX17_spill_75 ⟨wr_10_160, wr_1_15, wr_9_131, by decide, rfl, (Nat.le_of_ble_eq_true rfl), (Nat.le_of_ble_eq_true rfl)⟩ wr_9_129 wr_9_130 hm626234 he626235 rfl (rm_zc pk626183) (rm_zs pk626183) (Nat.le_of_ble_eq_true rfl) (fun r626264 w626265 dc626261 ds626262 hp626263 => ?_) (fun _ _ _ _ _ z => z.elim)
            obtain ⟨rfl, rfl, hdc, hds⟩ := hp626263
            change G _ _ _ _ _ _ _ (.int p626239 :: _) _ _ _
            refine G_widen (cs' := ((rPh γ el f - rPh γ0 el0 f) / 18)) (sl' := (rPh γ el f - rPh γ0 el0 f)) (rm_d0 hdc) (rm_d0 hds) ?_
            refine G_icmp_ge 431 dr_cX17_spill_78 (by decide +kernel) (fun hc626266 => ?_) (fun hc626266 => ?_)
            · have r626267 : p626239.toInt ≤ g626162.toInt := gC_le hc626266
              have ac626268 : (fI (F626164 q587829) 11).toInt = p626191.toInt := by rw [he626186]; rfl
              have ac626269 : (fI (F626164 q587829) 14).toInt = p626194.toInt := by rw [he626186]; rfl
              have ni626270 : rNI γ el F626164 q587830 (γ 6 f) (fI (F626164 q587829) 11).toInt := by rw [show (fI (F626164 q587829) 11).toInt = (fI (F622893 q587829) 11).toInt by omega]; exact spI_e rfl spi622978 x587834 (sp_end x626176 (by omega))
              refine G_aload_n 2 dr_cX17_spill_431 rfl ?_
              refine Gw_callV (As := []) (gV_ok D I) (ct_7810_Code_countRows l hl0 D I γ el P626163 F626164 q587830 hT626165 ht626181 (by omega)) dr_cX17_spill_432 ⟨wr_10_229, wr_1_15, wr_10_232, by decide, rfl, (Nat.le_of_ble_eq_true rfl), (Nat.le_of_ble_eq_true rfl)⟩ wr_10_230 wr_10_231 hm626234 he626235 rfl (rm_zc pk626183) (rm_zs pk626183) (Nat.le_of_ble_eq_true rfl) (fun r626274 w626275 dc626271 ds626272 hp626273 => ?_) (fun _ _ _ _ _ z => z.elim)
              obtain ⟨o626276, rfl, rfl, hdc, hds, ht626277⟩ := hp626273
              have bo626276 := gB_any o626276
              change G _ _ _ _ _ _ _ (.int o626276 :: _) _ _ _
              refine G_widen (cs' := ((rPh γ el f - rPh γ0 el0 f) / 18)) (sl' := (rPh γ el f - rPh γ0 el0 f)) (rm_d0 hdc) (rm_d0 hds) ?_
              refine G_sipush 4000 dr_cX17_spill_435 (by decide +kernel) ?_
              refine G_icmp_gt 445 dr_cX17_spill_438 (by decide +kernel) (fun hc626278 => ?_) (fun hc626278 => ?_)
              · have r626279 : 4000 < o626276.toInt := gj_ltL hc626278 (show Int32.toInt 4000 = 4000 by decide)
                have bo626276' : gB o626276 4001 2147483647 := ⟨by omega, by omega⟩
                refine G_iconst 0 dr_cX17_spill_445 (by decide +kernel) ?_
                exact G_zretA FieldType.boolean dr_cX17_spill_446 rfl rfl (rm_zc pk626183) (rm_zs pk626183) ⟨P626163, F626164, γ, el, 0, rfl, rfl, hs626166, (rm_pp hph626167), hB626168, (gB_w (gBl (show Int32.toInt 0 = 0 by decide)) (by decide) (by decide)), (by have qa0 : Int32.toInt 0 = 0 := (by decide); omega), (Or.inl (by decide)), x626177, x626178⟩
              · have r626280 : o626276.toInt ≤ 4000 := gj_nltL hc626278 (show Int32.toInt 4000 = 4000 by decide)
                have bo626276' : gB o626276 (-2147483648) 4000 := ⟨by omega, by omega⟩
                refine G_iconst 1 dr_cX17_spill_441 (by decide +kernel) ?_
                refine G_goto 446 dr_cX17_spill_442 (by decide +kernel) ?_
                exact G_zretA FieldType.boolean dr_cX17_spill_446 rfl rfl (rm_zc pk626183) (rm_zs pk626183) ⟨P626163, F626164, γ, el, 1, rfl, rfl, hs626166, (rm_pp hph626167), hB626168, (gB_w (gBl (show Int32.toInt 1 = 1 by decide)) (by decide) (by decide)), (by have qa0 : Int32.toInt 1 = 1 := (by decide); omega), (Or.inr ⟨by omega, by omega, by omega, by omega, by omega, ni626270⟩), x626177, x626178⟩
            · have r626281 : g626162.toInt < p626239.toInt := gC_nle hc626266
              have bg626162' : gB g626162 0 999999 := ⟨by omega, by omega⟩
              have bp626239' : gB p626239 1 1000000 := ⟨by omega, by omega⟩
              refine G_aload_n 2 dr_cX17_spill_81 rfl ?_
              refine G_iload_n 0 dr_cX17_spill_82 rfl ?_
              have hm626282 : q626236 ∈ P626163 := RS_m hT626165 ht626240 (by decide)
              obtain ⟨⟨p626284, p626285, q626286, he626283, r626287, r626288, r626289, r626291⟩, r626290⟩ := show rk_4 D I γ el F626164 q626236 from RS_o hT626165 ht626240
              have bp626284 := gB_any p626284
              have bp626285 : gB p626285 0 1000000 := ⟨by omega, by omega⟩
              obtain ⟨r626292, r626293, n626300, f626301, r626294, r626295, r626296, r626297, r626298, r626299⟩ := rLC_n r626289 (by omega)
              have hm626302 : q626286 ∈ P626163 := RS_m hT626165 r626292 (by decide)
              obtain ⟨q626303, hx626304⟩ : ∃ x, x = el q626236 g626162.toInt.toNat := ⟨_, rfl⟩
              have hx626305 : f626301 g626162.toNatClampNeg = some q626303 := (r626298 _ (show g626162.toInt.toNat < γ 2 q626236 by first | assumption | omega)).trans (by rw [hx626304])
              have ht626308 : rKd γ q626303 2 := by rw [hx626304]; exact (r626251 _ (by omega)).resolve_right (fun z => absurd z.1 (by omega))
              have ht626309 : rFm γ q626303 q626236 := by rw [hx626304]; exact (r626290 _ (show g626162.toInt.toNat < γ 2 q626236 by omega)).2.1
              have hm626310 : q626303 ∈ P626163 := RS_m hT626165 ht626308 (by decide)
              obtain ⟨q626312, q626313, p626314, p626315, he626311, ht626322, ht626316, ht626317, ht626318, ht626319, ht626320, bp626314, bp626315, r626321, r626323, r626324⟩ := show rk_2 γ q626303 (F626164 q626303) from RS_o hT626165 ht626308
              refine Gw_callV (As := [.int g626162]) (gV_ok D I) (cp_7901_Code_get l hl0 D I P626163 F626164 q587830 q626236 q626286 g626162 q626237 p626238 p626239 p626284 p626285 f626301 n626300 q626303 q626312 q626313 p626314 p626315 hm626234 hm626282 hm626302 hm626310 he626235 he626283 r626294 he626311 (gB_w bg626162' (by decide) (by decide)) (gB_w bp626285 (by decide) (by decide)) (by omega) (by omega) (by assumption) (by omega)) dr_cX17_spill_83 ⟨wr_10_161, wr_1_15, wr_10_141, by decide, rfl, (Nat.le_of_ble_eq_true rfl), (Nat.le_of_ble_eq_true rfl)⟩ wr_10_139 wr_10_140 hm626234 he626235 rfl (rm_zc pk626183) (rm_zs pk626183) (Nat.le_of_ble_eq_true rfl) (fun r626328 w626329 dc626325 ds626326 hp626327 => ?_) (fun _ _ _ _ _ z => z.elim)
              obtain ⟨rfl, rfl, hdc, hds, ht626330⟩ := hp626327
              change G _ _ _ _ _ _ _ (.ref q626303 :: _) _ _ _
              refine G_widen (cs' := ((rPh γ el f - rPh γ0 el0 f) / 18)) (sl' := (rPh γ el f - rPh γ0 el0 f)) (rm_d0 hdc) (rm_d0 hds) ?_
              have hf626331 : γ 1 q626303 = f := (show γ 1 q626303 = γ 1 q626236 from ht626309).trans ((show γ 1 q626236 = γ 1 q587830 from ht626241).trans hf626182)
              have hf626332 : γ 1 q626312 = f := (show γ 1 q626312 = γ 1 q626303 from ht626317).trans hf626331
              have hf626333 : γ 1 q626313 = f := (show γ 1 q626313 = γ 1 q626303 from ht626319).trans hf626331
              have r626334 : γ 6 (γ 1 q626303) = γ 6 f := by rw [hf626331]
              have r626335 : γ 7 (γ 1 q626303) = γ 7 f := by rw [hf626331]
              have r626336 : γ 19 (γ 1 q626303) = γ 19 f := by rw [hf626331]
              have r626337 := r626321.resolve_left (by omega)
              clear r626321
              have r626338 : γ 2 (γ 14 q626303) = γ 2 q626312 := by rw [ht626322.1]
              have r626339 : g626162.toInt.toNat < γ 2 (γ 14 q587830) := by rw [ht626255.1]; omega
              have r626340 : el (γ 14 q587830) g626162.toInt.toNat = q626303 := by rw [ht626255.1, hx626304]
              refine G_astore_n (L' := [(3, .ref q626303), (2, .int g626162), (0, .ref q587829), (1, .ref q587830)]) dr_cX17_spill_86 (Nat.le_of_ble_eq_true rfl) rfl ?_
              refine G_iconst 0 dr_cX17_spill_87 (by decide +kernel) ?_
              refine G_istore (L' := [(4, .int 0), (3, .ref q626303), (2, .int g626162), (0, .ref q587829), (1, .ref q587830)]) dr_cX17_spill_88 (Nat.le_of_ble_eq_true rfl) rfl ?_
              have hlp90_627829 : ∀ (n90_627829 : Nat) (P627808 : List Nat) (F627809 : Nat → va_E) (γ el : Nat → Nat → Nat) (g627807 : Int32), gB g627807 0 1000003 → RS D I P627808 F627809 γ el → rSk f [101] ([1, 3, 5, 6, 8, 9, 101] ++ npk) D I P587827 F587828 γ0 el0 P627808 F627809 γ el → rPh γ0 el0 f ≤ rPh γ el f → rBd γ el f B → rKd γ q626303 2 → γ 1 q626303 = f → g626162.toInt.toNat < γ 2 (γ 14 q587830) → el (γ 14 q587830) g626162.toInt.toNat = q626303 → γ 6 f = γ0 6 f → γ 18 f = γ0 18 f → ((γ 7 f : Nat) : Int) = (fI (F627809 q587829) 11).toInt → (fI (F627809 q587829) 11).toInt = (fI (F622893 q587829) 11).toInt → ((γ 16 f : Nat) : Int) + 2001 ≤ (B : Int) + (fI (F627809 q587829) 14).toInt → 100 ≤ (fI (F627809 q587829) 14).toInt → (F627809 (γ0 9 19) = F622893 (γ0 9 19)) → rPl γ el F627809 q587830 (γ 6 f) (spQ (cB (F587828 (γ0 9 3))) (cB (F622893 (γ0 9 19))) (g626162.toInt : Int).toNat (g627807.toInt : Int).toNat) → (g627807.toInt : Int) ≤ γ 2 (γ 14 q626303) + 1 → (g626162.toInt : Int) < γ 6 f → (F627809 (γ0 9 3) = F587828 (γ0 9 3)) → mKp (F587828 q587829) (F627809 q587829) → (γ 2 (γ 14 q626303) + 1 - (g627807.toInt : Int).toNat) < n90_627829 → G (gV D I) l (gRm 9 195 (((387 * B + 6000) - rPh γ0 el0 f) / 18) ((387 * B + 6000) - rPh γ0 el0 f)) (gMA (gV D I) (pg_587837_SpillForgeModel_spill D I γ0 el0 f B P587827 F587828 q587829 q587830) gNA (((387 * B + 6000) - rPh γ0 el0 f) / 18) ((387 * B + 6000) - rPh γ0 el0 f)) ky_587837_SpillForgeModel_spill 90 [(4, .int g627807), (3, .ref q626303), (2, .int g626162), (0, .ref q587829), (1, .ref q587830)] [] (va_pl P627808 F627809) ((rPh γ el f - rPh γ0 el0 f) / 18) (rPh γ el f - rPh γ0 el0 f) := by
                intro n90_627829
                induction n90_627829 with
                | zero => intro P627808 F627809 γ el g627807 bg627807 hT627810 hs627811 hph627812 hB627813 ht627814 hf627815 r627816 r627817 x627818 x627819 x627820 x627821 x627822 x627823 x627824 x627825 x627826 x627827 x627828 x627829 hm90_627829; exact absurd hm90_627829 (Nat.not_lt_zero _)
                | succ n90_627829 ih90_627829 =>
                  intro P627808 F627809 γ el g627807 bg627807 hT627810 hs627811 hph627812 hB627813 ht627814 hf627815 r627816 r627817 x627818 x627819 x627820 x627821 x627822 x627823 x627824 x627825 x627826 x627827 x627828 x627829 hm90_627829
                  clear r626244 r626245 r626246 r626247 r626248 r626249 r626251 r626252 r626253 r626254 bp626238 bp626239 bp626314 bp626315 r626323 r626324 r626258 r626259 r626260 r626287 r626288 r626289 r626291 r626290 r626292 r626293 r626294 r626295 r626296 r626297 r626298 r626299 r626334 r626335 r626336 r626337 r626338 r626339 r626340
                  have ht627831 : rKd γ q587829 10 := rSk_k hs627811 hzq587829 (by decide) (by decide)
                  have ht627832 : rKd γ q587830 9 := rSk_k hs627811 hzq587830 (by decide) (by decide)
                  have hf627833 : γ 1 q587830 = f := rSk_1 hs627811 hzq587830 (by decide) hf0
                  have pk627834 : rPh γ el f ≤ 387 * B + 6000 := rm_pk (rM_ge hT627810 ht627832 hf627833).1 (rM_bd hB627813)
                  have r627835 : 0 < γ 6 (γ 1 q587830) := by rw [hf627833]; omega
                  have hm627836 : q587829 ∈ P627808 := RS_m hT627810 ht627831 (by decide)
                  refine rk10_e (show rk_10 γ (F627809 q587829) from RS_o hT627810 ht627831) (fun q627838 q627839 p627840 p627841 p627842 p627843 p627844 p627845 p627846 p627847 p627848 p627849 p627850 p627851 p627852 p627853 p627854 he627837 hB627881 ht627855 ht627856 ht627857 ht627858 ht627859 ht627860 ht627861 ht627862 ht627863 ht627864 ht627865 ht627866 ht627867 ht627868 ht627869 ht627870 ht627871 ht627872 ht627873 ht627874 ht627875 ht627876 ht627877 ht627878 hB627882 => ?_)
                  have ac627883 : (fI (F627809 q587829) 11).toInt = p627842.toInt := by rw [he627837]; rfl
                  have bp627842 : gB p627842 0 100 := (hB627881.2.2.1)
                  have ac627884 : (fI (F627809 q587829) 14).toInt = p627845.toInt := by rw [he627837]; rfl
                  have bp627845 : gB p627845 0 2000 := (hB627881.2.2.2.1)
                  refine G_iload 0 dr_cX17_spill_90 rfl ?_
                  refine G_aload_n 1 dr_cX17_spill_92 rfl ?_
                  have hm627885 : q626303 ∈ P627808 := RS_m hT627810 ht627814 (by decide)
                  obtain ⟨q627887, q627888, p627889, p627890, he627886, ht627897, ht627891, ht627892, ht627893, ht627894, ht627895, bp627889, bp627890, r627896, r627898, r627899⟩ := show rk_2 γ q626303 (F627809 q626303) from RS_o hT627810 ht627814
                  have hf627900 : γ 1 q627887 = f := (show γ 1 q627887 = γ 1 q626303 from ht627892).trans hf627815
                  have hf627901 : γ 1 q627888 = f := (show γ 1 q627888 = γ 1 q626303 from ht627894).trans hf627815
                  have r627902 : γ 6 (γ 1 q626303) = γ 6 f := by rw [hf627815]
                  have r627903 : γ 7 (γ 1 q626303) = γ 7 f := by rw [hf627815]
                  have r627904 : γ 19 (γ 1 q626303) = γ 19 f := by rw [hf627815]
                  have r627905 := r627896.resolve_left (by omega)
                  clear r627896
                  have r627906 : γ 2 (γ 14 q626303) = γ 2 q627887 := by rw [ht627897.1]
                  refine Gp_get 0 hm627885 he627886 dr_cX17_spill_93 (gk_X12 D I) (Nat.le_of_ble_eq_true rfl) wr_9_220 rfl ?_
                  have hm627907 : q627887 ∈ P627808 := RS_m hT627810 ht627891 (by decide)
                  obtain ⟨⟨p627909, p627910, q627911, he627908, r627912, r627913, r627914, r627916⟩, r627915⟩ := show rk_3 D I γ el F627809 q627887 from RS_o hT627810 ht627891
                  have bp627909 := gB_any p627909
                  have bp627910 : gB p627910 0 1000000 := ⟨by omega, by omega⟩
                  refine Gw_callV (As := []) (gV_ok D I) (cp_7_ArrayList_size l hl0 D I P627808 F627809 q627887 p627909 q627911 p627910 hm627907 he627908 (gB_w bp627910 (by decide) (by decide))) dr_cX17_spill_96 ⟨wr_10_200, wr_1_18, wr_9_160, by decide, rfl, (Nat.le_of_ble_eq_true rfl), (Nat.le_of_ble_eq_true rfl)⟩ wr_9_158 wr_9_159 hm627907 he627908 rfl (rm_zc pk627834) (rm_zs pk627834) (Nat.le_of_ble_eq_true rfl) (fun r627920 w627921 dc627917 ds627918 hp627919 => ?_) (fun _ _ _ _ _ z => z.elim)
                  obtain ⟨rfl, rfl, hdc, hds⟩ := hp627919
                  change G _ _ _ _ _ _ _ (.int p627910 :: _) _ _ _
                  refine G_widen (cs' := ((rPh γ el f - rPh γ0 el0 f) / 18)) (sl' := (rPh γ el f - rPh γ0 el0 f)) (rm_d0 hdc) (rm_d0 hds) ?_
                  refine G_icmp_gt 425 dr_cX17_spill_99 (by decide +kernel) (fun hc627922 => ?_) (fun hc627922 => ?_)
                  · have r627923 : p627910.toInt < g627807.toInt := gC_lt hc627922
                    have bg627807' : gB g627807 1 1000003 := ⟨by omega, by omega⟩
                    obtain ⟨z627924, hz627924⟩ : ∃ z : Int32, z = g626162 + Int32.ofInt 1 := ⟨_, rfl⟩
                    have ez627924 : z627924.toInt = g626162.toInt + 1 := gI_inc hz627924 (by decide) bg626162' (by decide) (by decide)
                    have bz627924 : gB z627924 1 1000000 := ⟨by omega, by omega⟩
                    refine G_iinc (L' := [(2, .int z627924), (4, .int g627807), (3, .ref q626303), (0, .ref q587829), (1, .ref q587830)]) z627924 2 dr_cX17_spill_425 rfl hz627924.symm (Nat.le_of_ble_eq_true rfl) rfl ?_
                    refine G_goto 73 dr_cX17_spill_428 (by decide +kernel) ?_
                    refine G_lv (L' := [(2, .int z627924), (0, .ref q587829), (1, .ref q587830)]) [0, 3, 4] rfl ?_
                    have ac627925 : (fI (F627809 q587829) 11).toInt = p627842.toInt := by rw [he627837]; rfl
                    have ac627926 : (fI (F627809 q587829) 14).toInt = p627845.toInt := by rw [he627837]; rfl
                    exact ih73_626178 P627808 F627809 γ el z627924 (gB_w bz627924 (by decide) (by decide)) hT627810 hs627811 hph627812 hB627813 (by omega) (by omega) (by omega) (by omega) (by omega) (by omega) x627824 (sp_nx x627825 (by unfold rwL; rw [r627817]; omega) (by omega)) x627828 x627829 (by omega)
                  · have r627927 : g627807.toInt ≤ p627910.toInt := gC_nlt hc627922
                    have bg627807' : gB g627807 0 1000000 := ⟨by omega, by omega⟩
                    have jn292_627957 : ∀ (P627930 : List Nat) (F627931 : Nat → va_E) (γ el : Nat → Nat → Nat) (g627928 : Int32) (q627929 : Nat), gB g627928 0 1000001 → RS D I P627930 F627931 γ el → rSk f [101] ([1, 3, 5, 6, 8, 9, 101] ++ npk) D I P587827 F587828 γ0 el0 P627930 F627931 γ el → rPh γ0 el0 f ≤ rPh γ el f → rBd γ el f B → rKd γ q626303 2 → γ 1 q626303 = f → g626162.toInt.toNat < γ 2 (γ 14 q587830) → el (γ 14 q587830) g626162.toInt.toNat = q626303 → rKd γ q627929 1 → γ 1 q627929 = f → γ 6 f = γ0 6 f → γ 18 f = γ0 18 f → ((γ 7 f : Nat) : Int) = (fI (F627931 q587829) 11).toInt → (fI (F627931 q587829) 11).toInt = (fI (F622893 q587829) 11).toInt → ((γ 16 f : Nat) : Int) + 2001 ≤ (B : Int) + (fI (F627931 q587829) 14).toInt → 100 ≤ (fI (F627931 q587829) 14).toInt → (F627931 (γ0 9 19) = F622893 (γ0 9 19)) → rPl γ el F627931 q587830 (γ 6 f) (spX (cB (F587828 (γ0 9 3))) (cB (F622893 (γ0 9 19))) (g626162.toInt : Int).toNat (g627928.toInt : Int).toNat) → rAt γ el q587830 (g626162.toInt : Int).toNat (g627928.toInt : Int).toNat = q627929 → rS2 (cB (F587828 (γ0 9 3))) (cB (F622893 (γ0 9 19))) (F627931 q627929) → (g627928.toInt : Int) ≤ γ 2 (γ 14 q626303) → (g626162.toInt : Int) < γ 6 f → (γ 2 (γ 14 q626303) + 1 - (g627928.toInt : Int).toNat) < n90_627829 + 1 → eO g627928.toInt (γ 2 (γ 14 q626303) : Nat) (fI (F627931 q627929) 0).toInt → (F627931 (γ0 9 3) = F587828 (γ0 9 3)) → mKp (F587828 q587829) (F627931 q587829) → G (gV D I) l (gRm 9 195 (((387 * B + 6000) - rPh γ0 el0 f) / 18) ((387 * B + 6000) - rPh γ0 el0 f)) (gMA (gV D I) (pg_587837_SpillForgeModel_spill D I γ0 el0 f B P587827 F587828 q587829 q587830) gNA (((387 * B + 6000) - rPh γ0 el0 f) / 18) ((387 * B + 6000) - rPh γ0 el0 f)) ky_587837_SpillForgeModel_spill 292 [(0, .ref q587829), (1, .ref q587830), (2, .int g626162), (3, .ref q626303), (4, .int g627928), (5, .ref q627929)] [] (va_pl P627930 F627931) ((rPh γ el f - rPh γ0 el0 f) / 18) (rPh γ el f - rPh γ0 el0 f) := by
                      intro P627930 F627931 γ el g627928 q627929 bg627928 hT627932 hs627933 hph627934 hB627935 ht627936 hf627937 r627938 r627939 ht627940 hf627941 x627942 x627943 x627944 x627945 x627946 x627947 x627948 x627949 x627950 x627951 x627952 x627953 x627954 x627955 x627956 x627957
                      clear bp627889 bp627890 r627898 r627899 r627902 r627903 r627904 r627905 r627906 r627912 r627913 r627914 r627916 r627915
                      have ht627959 : rKd γ q587829 10 := rSk_k hs627933 hzq587829 (by decide) (by decide)
                      have ht627960 : rKd γ q587830 9 := rSk_k hs627933 hzq587830 (by decide) (by decide)
                      have hf627961 : γ 1 q587830 = f := rSk_1 hs627933 hzq587830 (by decide) hf0
                      have pk627962 : rPh γ el f ≤ 387 * B + 6000 := rm_pk (rM_ge hT627932 ht627960 hf627961).1 (rM_bd hB627935)
                      have r627963 : 0 < γ 6 (γ 1 q587830) := by rw [hf627961]; omega
                      have hm627964 : q587829 ∈ P627930 := RS_m hT627932 ht627959 (by decide)
                      refine rk10_e (show rk_10 γ (F627931 q587829) from RS_o hT627932 ht627959) (fun q627966 q627967 p627968 p627969 p627970 p627971 p627972 p627973 p627974 p627975 p627976 p627977 p627978 p627979 p627980 p627981 p627982 he627965 hB628009 ht627983 ht627984 ht627985 ht627986 ht627987 ht627988 ht627989 ht627990 ht627991 ht627992 ht627993 ht627994 ht627995 ht627996 ht627997 ht627998 ht627999 ht628000 ht628001 ht628002 ht628003 ht628004 ht628005 ht628006 hB628010 => ?_)
                      have ac628011 : (fI (F627931 q587829) 11).toInt = p627970.toInt := by rw [he627965]; rfl
                      have bp627970 : gB p627970 0 100 := (hB628009.2.2.1)
                      have ac628012 : (fI (F627931 q587829) 14).toInt = p627973.toInt := by rw [he627965]; rfl
                      have bp627973 : gB p627973 0 2000 := (hB628009.2.2.2.1)
                      have hm628013 : q627929 ∈ P627930 := RS_m hT627932 ht627940 (by decide)
                      obtain ⟨p628015, p628016, p628017, p628018, p628019, p628020, p628021, he628014, bp628015, bp628016, bp628019, bp628020, bp628021, r628022, r628023, r628024, r628025, r628026⟩ := show rk_1 γ q627929 (F627931 q627929) from RS_o hT627932 ht627940
                      have bp628017 := gB_any p628017
                      have bp628018 := gB_any p628018
                      replace r628022 : gH _ := r628022
                      replace r628023 : gH _ := r628023
                      replace r628024 : gH _ := r628024
                      replace r628025 : gH _ := r628025
                      replace r628026 : gH _ := r628026
                      have r628027 : γ 7 (γ 1 q627929) = γ 7 f := by rw [hf627941]
                      refine G_aload 5 dr_cX17_spill_292 rfl ?_
                      refine Gw_callV (As := []) (gV_ok D I) (cp_408000_Row_sets l hl0 D I P627930 F627931 q627929 p628015 p628016 p628017 p628018 p628019 p628020 p628021 hm628013 he628014 bp628015 bp628016 bp628019 bp628020 bp628021) dr_cX17_spill_294 ⟨wr_10_181, wr_1_39, wr_10_184, by decide, rfl, (Nat.le_of_ble_eq_true rfl), (Nat.le_of_ble_eq_true rfl)⟩ wr_10_182 wr_10_183 hm628013 he628014 rfl (rm_zc pk627962) (rm_zs pk627962) (Nat.le_of_ble_eq_true rfl) (fun r628031 w628032 dc628028 ds628029 hp628030 => ?_) (fun _ _ _ _ _ z => z.elim)
                      obtain ⟨o628033, rfl, rfl, hdc, hds, bo628033, x628034, ht628035⟩ := hp628030
                      change G _ _ _ _ _ _ _ (.int o628033 :: _) _ _ _
                      refine G_widen (cs' := ((rPh γ el f - rPh γ0 el0 f) / 18)) (sl' := (rPh γ el f - rPh γ0 el0 f)) (rm_d0 hdc) (rm_d0 hds) ?_
                      refine G_if_eq 419 dr_cX17_spill_297 (by decide +kernel) (fun hc628036 => ?_) (fun hc628036 => ?_)
                      · have r628037 : o628033.toInt = 0 := gj_eq hc628036 (show Int32.toInt 0 = 0 by decide)
                        have bo628033' : gB o628033 0 0 := gB_t0 r628037
                        have rn628039 : rNx (nSp (cB (F587828 (γ0 9 3))) (cB (F622893 (γ0 9 19)))) (F627931 q627929) := rS2_n he628014 he628014 x627951 (fun h => (uS_0 x628034 (by omega) h).elim)
                        have pl628038 := sp_fin x627949 x627950 rn628039 (rfl : (g627928.toInt : Int).toNat + 1 = (g627928.toInt : Int).toNat + 1)
                        obtain ⟨z628040, hz628040⟩ : ∃ z : Int32, z = g627928 + Int32.ofInt 1 := ⟨_, rfl⟩
                        have ez628040 : z628040.toInt = g627928.toInt + 1 := gI_inc hz628040 (by decide) bg627928 (by decide) (by decide)
                        have bz628040 : gB z628040 1 1000002 := ⟨by omega, by omega⟩
                        refine G_iinc (L' := [(4, .int z628040), (0, .ref q587829), (1, .ref q587830), (2, .int g626162), (3, .ref q626303), (5, .ref q627929)]) z628040 4 dr_cX17_spill_419 rfl hz628040.symm (Nat.le_of_ble_eq_true rfl) rfl ?_
                        refine G_goto 90 dr_cX17_spill_422 (by decide +kernel) ?_
                        refine G_lv (L' := [(4, .int z628040), (3, .ref q626303), (2, .int g626162), (0, .ref q587829), (1, .ref q587830)]) [0, 4, 3, 1, 2] rfl ?_
                        have ac628041 : (fI (F627931 q587829) 11).toInt = p627970.toInt := by rw [he627965]; rfl
                        have ac628042 : (fI (F627931 q587829) 14).toInt = p627973.toInt := by rw [he627965]; rfl
                        exact ih90_627829 P627930 F627931 γ el z628040 (gB_w bz628040 (by decide) (by decide)) hT627932 hs627933 hph627934 hB627935 ht627936 hf627937 r627938 r627939 (by omega) (by omega) (by omega) (by omega) (by omega) (by omega) x627948 (by rw [(show (z628040.toInt : Int).toNat = ((g627928.toInt : Int).toNat + 1) from tn_eq1 (by omega) (by omega))]; exact pl628038) (by omega) (by omega) x627956 x627957 (ms_g x627954 (by omega) (by omega) (by omega))
                      · have r628043 : o628033.toInt ≠ 0 := gj_neq hc628036 (show Int32.toInt 0 = 0 by decide)
                        have bo628033' : gB o628033 1 1 := gB_t1 bo628033 r628043
                        refine G_aload 5 dr_cX17_spill_300 rfl ?_
                        refine Gp_get 0 hm628013 he628014 dr_cX17_spill_302 (gk_X15 D I) (Nat.le_of_ble_eq_true rfl) wr_9_177 rfl ?_
                        refine G_bipush 21 dr_cX17_spill_305 (by decide +kernel) ?_
                        refine G_icmp_eq 419 dr_cX17_spill_307 (by decide +kernel) (fun hc628044 => ?_) (fun hc628044 => ?_)
                        · have r628045 : p628015.toInt = 21 := gj_eq hc628044 (show Int32.toInt 21 = 21 by decide)
                          have bp628015' : gB p628015 21 21 := ⟨by omega, by omega⟩
                          have rn628047 : rNx (nSp (cB (F587828 (γ0 9 3))) (cB (F622893 (γ0 9 19)))) (F627931 q627929) := rS2_n he628014 he628014 x627951 (fun _ => Or.inr ⟨rfl, Or.inl (by omega)⟩)
                          have pl628046 := sp_fin x627949 x627950 rn628047 (rfl : (g627928.toInt : Int).toNat + 1 = (g627928.toInt : Int).toNat + 1)
                          obtain ⟨z628048, hz628048⟩ : ∃ z : Int32, z = g627928 + Int32.ofInt 1 := ⟨_, rfl⟩
                          have ez628048 : z628048.toInt = g627928.toInt + 1 := gI_inc hz628048 (by decide) bg627928 (by decide) (by decide)
                          have bz628048 : gB z628048 1 1000002 := ⟨by omega, by omega⟩
                          refine G_iinc (L' := [(4, .int z628048), (0, .ref q587829), (1, .ref q587830), (2, .int g626162), (3, .ref q626303), (5, .ref q627929)]) z628048 4 dr_cX17_spill_419 rfl hz628048.symm (Nat.le_of_ble_eq_true rfl) rfl ?_
                          refine G_goto 90 dr_cX17_spill_422 (by decide +kernel) ?_
                          refine G_lv (L' := [(4, .int z628048), (3, .ref q626303), (2, .int g626162), (0, .ref q587829), (1, .ref q587830)]) [0, 4, 3, 1, 2] rfl ?_
                          have ac628049 : (fI (F627931 q587829) 11).toInt = p627970.toInt := by rw [he627965]; rfl
                          have ac628050 : (fI (F627931 q587829) 14).toInt = p627973.toInt := by rw [he627965]; rfl
                          exact ih90_627829 P627930 F627931 γ el z628048 (gB_w bz628048 (by decide) (by decide)) hT627932 hs627933 hph627934 hB627935 ht627936 hf627937 r627938 r627939 (by omega) (by omega) (by omega) (by omega) (by omega) (by omega) x627948 (by rw [(show (z628048.toInt : Int).toNat = ((g627928.toInt : Int).toNat + 1) from tn_eq1 (by omega) (by omega))]; exact pl628046) (by omega) (by omega) x627956 x627957 (ms_g x627954 (by omega) (by omega) (by omega))
                        · have r628051 : p628015.toInt ≠ 21 := gj_neq hc628044 (show Int32.toInt 21 = 21 by decide)
                          refine G_aload_n 0 dr_cX17_spill_310 rfl ?_
                          refine Gp_get 19 hm627964 he627965 dr_cX17_spill_311 (gk_X17 D I) (Nat.le_of_ble_eq_true rfl) wr_7_93 rfl ?_
                          refine G_aload 5 dr_cX17_spill_314 rfl ?_
                          refine Gp_get 1 hm628013 he628014 dr_cX17_spill_316 (gk_X15 D I) (Nat.le_of_ble_eq_true rfl) wr_9_182 rfl ?_
                          have hm628052 : (γ 9 19) ∈ P627930 := RS_m hT627932 ht627998 (by decide)
                          obtain ⟨f628054, he628053, bf628054⟩ := show rk_21 I (F627931 (γ 9 19)) from RS_o hT627932 ht627998
                          refine Gp_iald 0 hm628052 he628053 dr_cX17_spill_319 rfl (gB_in bp628016 (by decide) (by decide)) (G_nam fun z628055 hz628055 => ?_)
                          have bz628055 : gB z628055 (-1) 1999 := by rw [hz628055]; exact bf628054 _
                          have c9_628056 : cB (F622893 (γ0 9 19)) = f628054 := by rw [← x627948, ← congrFun (rSk_9 hs627933) 19]; exact cB_of he628053
                          have hs628057 : (cB (F622893 (γ0 9 19)) p628016.toInt.toNat).toInt = z628055.toInt := by rw [c9_628056, hz628055]; rfl
                          refine G_if_ge 326 dr_cX17_spill_320 (by decide +kernel) (fun hc628059 => ?_) (fun hc628059 => ?_)
                          · have r628060 : 0 ≤ z628055.toInt := gj_leL hc628059 (show Int32.toInt 0 = 0 by decide)
                            have bz628055' : gB z628055 0 1999 := ⟨by omega, by omega⟩
                            refine G_aload_n 0 dr_cX17_spill_326 rfl ?_
                            refine Gp_get 19 hm627964 he627965 dr_cX17_spill_327 (gk_X17 D I) (Nat.le_of_ble_eq_true rfl) wr_7_93 rfl ?_
                            refine G_aload 5 dr_cX17_spill_330 rfl ?_
                            refine Gp_get 1 hm628013 he628014 dr_cX17_spill_332 (gk_X15 D I) (Nat.le_of_ble_eq_true rfl) wr_9_182 rfl ?_
                            refine Gp_iald 0 hm628052 he628053 dr_cX17_spill_335 rfl (gB_in bp628016 (by decide) (by decide)) (G_eqi (y := z628055) hz628055.symm ?_)
                            have r628061 := (spi622978.2.2.2 p628016.toInt.toNat (tn_lt (by omega) (by omega)) (by omega)).2.2
                            refine G_istore (L' := [(8, .int z628055), (0, .ref q587829), (1, .ref q587830), (2, .int g626162), (3, .ref q626303), (4, .int g627928), (5, .ref q627929)]) dr_cX17_spill_336 (Nat.le_of_ble_eq_true rfl) rfl ?_
                            refine G_aload_n 1 dr_cX17_spill_338 rfl ?_
                            refine Gp_get 14 hm627964 he627965 dr_cX17_spill_339 (gk_X17 D I) (Nat.le_of_ble_eq_true rfl) wr_7_88 rfl ?_
                            refine G_sipush 2000 dr_cX17_spill_342 (by decide +kernel) ?_
                            refine G_icmp_ne 350 dr_cX17_spill_345 (by decide +kernel) (fun hc628062 => ?_) (fun hc628062 => ?_)
                            · have r628063 : p627973.toInt ≠ 2000 := gj_neq hc628062 (show Int32.toInt 2000 = 2000 by decide)
                              have bp627973' : gB p627973 0 1999 := ⟨by omega, by omega⟩
                              have r628064 := eO_r x627955 (by rw [he628014]; rfl) (uS_1 x628034 (by omega))
                              refine G_aload 6 dr_cX17_spill_350 rfl ?_
                              refine G_aload_n 1 dr_cX17_spill_352 rfl ?_
                              refine Gp_get 14 hm627964 he627965 dr_cX17_spill_353 (gk_X17 D I) (Nat.le_of_ble_eq_true rfl) wr_7_88 rfl ?_
                              refine Gp_put 1 hm628013 he628014 dr_cX17_spill_356 (gk_X15 D I) (Nat.le_of_ble_eq_true rfl) wr_9_182 rfl rfl rfl (Nat.le_of_ble_eq_true rfl) (fun F628065 e628066 n628067 => ?_)
                              have r628068 := rk1_at hT627932 ht627940 he628014
                              have he628069 : F628065 q587829 = .inr (22, [.ref (γ 9 0), .ref (γ 9 1), .ref (γ 9 2), .ref (γ 9 3), .ref (γ 9 4), .ref (γ 9 5), .ref (γ 9 6), .ref (γ 9 7), .ref (γ 9 8), .int p627968, .int p627969, .int p627970, .int p627971, .int p627972, .int p627973, .ref (γ 9 15), .ref (γ 9 16), .ref (γ 9 17), .ref (γ 9 18), .ref (γ 9 19), .ref (γ 9 20), .ref (γ 9 21), .ref (γ 9 22), .int p627974, .int p627975, .int p627976, .int p627977, .int p627978, .ref q627966, .ref (γ 9 29), .int p627979, .ref (γ 9 31), .int p627980, .int p627981, .int p627982, .ref q627967]) := (n628067 q587829 (rn_oo he627965 he628014 (by decide))).trans he627965
                              have he628070 : F628065 (γ 9 19) = .inl (I .int, 2000, .inl f628054) := (n628067 (γ 9 19) (rn_ao he628053 he628014)).trans he628053
                              have he628071 : F628065 q627929 = .inr (20, [.int p628015, .int p627973, .int p628017, .int p628018, .int p628019, .int p628020, .int p628021]) := e628066
                              have mk628072 : mKp (F587828 q587829) (F628065 q587829) := mKp_tr x627957 (mKp_eq (n628067 q587829 (rn_ty ht627959 ht627940 (by decide))))
                              have kp628073 : F628065 (γ0 9 3) = F587828 (γ0 9 3) := (n628067 (γ0 9 3) (rn_ty (rSk_k hs627933 k0_3 (by decide) (by decide)) ht627940 (by decide))).trans x627956
                              have kp628074 : F628065 (γ0 9 19) = F622893 (γ0 9 19) := (n628067 (γ0 9 19) (rn_ty (rSk_k hs627933 k0_19 (by decide) (by decide)) ht627940 (by decide))).trans x627948
                              have hT628075 : RS D I P627930 F628065 γ el := RS_set hT627932 n628067 ht627940 (by decide) ⟨p628015, p627973, p628017, p628018, p628019, p628020, p628021, he628071, bp628015, bp627973', bp628019, bp628020, bp628021, (gHe r628022), (gHe r628023), (gHe r628024), r628068.1, r628068.2⟩
                              have hs628077 := rSk_put hs627933 hT628075 n628067 ht627940 (by decide) (by decide)
                              have hm628079 : q626303 ∈ P627930 := RS_m hT628075 ht627936 (by decide)
                              obtain ⟨q628081, q628082, p628083, p628084, he628080, ht628091, ht628085, ht628086, ht628087, ht628088, ht628089, bp628083, bp628084, r628090, r628092, r628093⟩ := show rk_2 γ q626303 (F628065 q626303) from RS_o hT628075 ht627936
                              have hf628094 : γ 1 q628081 = f := (show γ 1 q628081 = γ 1 q626303 from ht628086).trans hf627937
                              have hf628095 : γ 1 q628082 = f := (show γ 1 q628082 = γ 1 q626303 from ht628088).trans hf627937
                              have r628096 : γ 6 (γ 1 q626303) = γ 6 f := by rw [hf627937]
                              have r628097 : γ 7 (γ 1 q626303) = γ 7 f := by rw [hf627937]
                              have r628098 : γ 19 (γ 1 q626303) = γ 19 f := by rw [hf627937]
                              have r628099 := r628090.resolve_left (by omega)
                              clear r628090
                              have r628100 : γ 2 (γ 14 q626303) = γ 2 q628081 := by rw [ht628091.1]
                              have pl628078 := sp_put hT627932 ht627960 hf627961 x627949 n628067 x627950 (show (g626162.toInt : Int).toNat < γ 6 f from tn_lt (by omega) (by omega)) (by unfold rwL; rw [r627939]; exact tn_le0 (by omega) (by omega))
                              have rn628102 : rNx (nSp (cB (F587828 (γ0 9 3))) (cB (F622893 (γ0 9 19)))) (F628065 q627929) := rS2_n he628014 he628071 x627951 (fun _ => Or.inl (by omega))
                              have pl628101 := sp_fin pl628078 x627950 rn628102 (rfl : (g627928.toInt : Int).toNat + 1 = (g627928.toInt : Int).toNat + 1)
                              refine G_aload_n 1 dr_cX17_spill_359 rfl ?_
                              refine G_dup dr_cX17_spill_360 rfl ?_
                              refine Gp_get 14 hm627964 he628069 dr_cX17_spill_361 (gk_X17 D I) (Nat.le_of_ble_eq_true rfl) wr_7_88 rfl ?_
                              refine G_iconst 1 dr_cX17_spill_364 (by decide +kernel) ?_
                              refine G_iadd dr_cX17_spill_365 (G_nam fun z628103 hz628103 => ?_)
                              have ez628103 : z628103.toInt = p627973.toInt + 1 := by rw [gI_add hz628103 bp627973' (gBl (show Int32.toInt 1 = 1 by decide)) (by decide) (by decide), show Int32.toInt 1 = 1 from by decide]
                              have bz628103 : gB z628103 1 2000 := gB_add (gI_add hz628103 bp627973' (gBl (show Int32.toInt 1 = 1 by decide)) (by decide) (by decide)) bp627973' (gBl (show Int32.toInt 1 = 1 by decide)) (by decide) (by decide)
                              refine Gp_put 14 hm627964 he628069 dr_cX17_spill_366 (gk_X17 D I) (Nat.le_of_ble_eq_true rfl) wr_7_88 rfl rfl rfl (Nat.le_of_ble_eq_true rfl) (fun F628104 e628105 n628106 => ?_)
                              have he628107 : F628104 q627929 = .inr (20, [.int p628015, .int p627973, .int p628017, .int p628018, .int p628019, .int p628020, .int p628021]) := (n628106 q627929 (rn_oo he628071 he628069 (by decide))).trans he628071
                              have he628108 : F628104 (γ 9 19) = .inl (I .int, 2000, .inl f628054) := (n628106 (γ 9 19) (rn_ao he628070 he628069)).trans he628070
                              have he628109 : F628104 q626303 = .inr (17, [.ref q628081, .ref q628082, .int p628083, .int p628084]) := (n628106 q626303 (rn_oo he628080 he628069 (by decide))).trans he628080
                              have he628110 : F628104 q587829 = .inr (22, [.ref (γ 9 0), .ref (γ 9 1), .ref (γ 9 2), .ref (γ 9 3), .ref (γ 9 4), .ref (γ 9 5), .ref (γ 9 6), .ref (γ 9 7), .ref (γ 9 8), .int p627968, .int p627969, .int p627970, .int p627971, .int p627972, .int z628103, .ref (γ 9 15), .ref (γ 9 16), .ref (γ 9 17), .ref (γ 9 18), .ref (γ 9 19), .ref (γ 9 20), .ref (γ 9 21), .ref (γ 9 22), .int p627974, .int p627975, .int p627976, .int p627977, .int p627978, .ref q627966, .ref (γ 9 29), .int p627979, .ref (γ 9 31), .int p627980, .int p627981, .int p627982, .ref q627967]) := e628105
                              have mk628111 : mKp (F587828 q587829) (F628104 q587829) := mKp_tr mk628072 (by rw [he628069, he628110]; exact ⟨rfl, rfl⟩)
                              have kp628112 : F628104 (γ0 9 3) = F587828 (γ0 9 3) := (n628106 (γ0 9 3) (rn_ty (rSk_k hs628077 k0_3 (by decide) (by decide)) ht627959 (by decide))).trans kp628073
                              have kp628113 : F628104 (γ0 9 19) = F622893 (γ0 9 19) := (n628106 (γ0 9 19) (rn_ty (rSk_k hs628077 k0_19 (by decide) (by decide)) ht627959 (by decide))).trans kp628074
                              have hT628114 : RS D I P627930 F628104 γ el := RS_set hT628075 n628106 ht627959 (by decide) ⟨q627966, q627967, p627968, p627969, p627970, p627971, p627972, z628103, p627974, p627975, p627976, p627977, p627978, p627979, p627980, p627981, p627982, he628110, ⟨(hB628009.1), (hB628009.2.1), bp627970, (gB_w bz628103 (by decide) (by decide)), (hB628009.2.2.2.2.1), (hB628009.2.2.2.2.2.1), (hB628009.2.2.2.2.2.2.1), (hB628009.2.2.2.2.2.2.2.1), (hB628009.2.2.2.2.2.2.2.2)⟩, ht627983, ht627984, ht627985, ht627986, ht627987, ht627988, ht627989, ht627990, ht627991, ht627992, ht627993, ht627994, ht627995, ht627996, ht627997, ht627998, ht627999, ht628000, ht628001, ht628002, ht628003, ht628004, ht628005, ht628006, hB628010⟩
                              have hs628116 := rSk_put hs628077 hT628114 n628106 ht627959 (by decide) (by decide)
                              have pl628117 := rPl_fr hT628075 ht627960 hf627961 pl628101 (fun b hb _ => n628106 b (rn_ty (show rKd γ b 1 from hb) ht627959 (by decide)))
                              have ac628118 : (fI (F628104 q587829) 11).toInt = p627970.toInt := by rw [he628110]; rfl
                              have ac628119 : (fI (F628104 q587829) 14).toInt = z628103.toInt := by rw [he628110]; rfl
                              refine G_aload_n 2 dr_cX17_spill_369 rfl ?_
                              have rg628120 := rM_ge hT628114 ht627960 hf627961
                              have rm628121 := rM_bd hB627935
                              have bd628122 := rBd_c hT628114 ht627960 hf627961 hB627935
                              have rc628123 := rc_at hT628114 ht627960 hf627961
                              obtain ⟨q628130, hl628131⟩ : ∃ z, z = γ 14 q626303 := ⟨_, rfl⟩
                              have hl628132 : γ 0 q628130 = 3 ∨ γ 0 q628130 = 103 := by rw [hl628131, ← r627939]; exact (RS_lst hT628114 rc628123.2.1 r627938).1
                              refine Gt_row (c := q587830) (f := f) hl0 dr_cX17_spill_370 ⟨wr_10_206, wr_1_15, wr_10_82, by decide, rfl, (Nat.le_of_ble_eq_true rfl), (Nat.le_of_ble_eq_true rfl)⟩ wr_10_80 wr_10_81 hT628114 ht627960 hf627961 (Nat.le_trans bd628122.2.2.1 (Nat.le_trans hBk (by decide))) (rm_cs hph627934 rg628120.2.1 rm628121 (by decide)) (rm_sl hph627934 rg628120.2.1 rm628121 rm_s18) (Nat.le_of_ble_eq_true rfl) (fun P628124 F628125 γ el q628126 dc628127 ds628128 hq628129 => ?_)
                              have pl628133 := rPl_row hT628114 ht627960 hf627961 hq628129 pl628117
                              obtain ⟨hk628134, x0628135, x1628136, x22628137, x8628138, h16628139, h18628140, hnu628141, hot628142, h45628143, hf0628144, ⟨hr1628145, hr2628146⟩, hM628147, hBB628148⟩ := hq628129
                              have hk628149 := rSk_of hk628134
                              obtain ⟨nu628150, nu628151, nu628152, nu628153⟩ := hnu628141
                              have hT628154 := hk628149.1
                              have hs628155 := rSk_tr hs628116 hk628149 (by decide) (by decide) (by decide)
                              have kp628156 : F628125 (γ0 9 3) = F587828 (γ0 9 3) := (rSk_F hk628149 (rSk_k hs628116 k0_3 (by decide) (by decide)) (by decide) (by decide)).trans kp628112
                              have kp628157 : F628125 (γ0 9 19) = F622893 (γ0 9 19) := (rSk_F hk628149 (rSk_k hs628116 k0_19 (by decide) (by decide)) (by decide) (by decide)).trans kp628113
                              have r628158 := rSk_F hk628149 ht627959 (by decide) (by decide)
                              have ht628159 : rKd γ q587829 10 := rSk_k hk628149 ht627959 (by decide) (by decide)
                              have ht628160 : rKd γ q587830 9 := rSk_k hk628149 ht627960 (by decide) (by decide)
                              have hf628161 : γ 1 q587830 = f := rSk_1 hk628149 ht627960 (by decide) hf627961
                              have ht628162 : rKd γ q626303 2 := rSk_k hk628149 ht627936 (by decide) (by decide)
                              have hf628163 : γ 1 q626303 = f := rSk_1 hk628149 ht627936 (by decide) hf627937
                              have ht628164 : rKd γ q627929 1 := rSk_k hk628149 ht627940 (by decide) (by decide)
                              have hf628165 : γ 1 q627929 = f := rSk_1 hk628149 ht627940 (by decide) hf627941
                              have ht628166 : rKd γ q628081 3 := rSk_k hk628149 ht628085 (by decide) (by decide)
                              have hf628167 : γ 1 q628081 = f := rSk_1 hk628149 ht628085 (by decide) hf628094
                              have mk628168 : mKp (F587828 q587829) (F628125 q587829) := mKp_tr mk628111 (mKp_eq (rSk_F hk628149 ht627959 (by decide) (by decide)))
                              have r628169 := (rSk_s hk628149 ht627960 (by decide)).2.1
                              have r628170 := hot628142 _ (by rw [rc628123.2.1]; decide) (by rw [rc628123.2.1]; decide)
                              have r628171 : g626162.toInt.toNat < γ 2 (γ 14 q587830) := by rw [r628169, r628170.1]; exact r627938
                              have r628172 : el (γ 14 q587830) g626162.toInt.toNat = q626303 := by rw [r628169, r628170.2]; exact r627939
                              have he628173 : F628125 q627929 = .inr (20, [.int p628015, .int p627973, .int p628017, .int p628018, .int p628019, .int p628020, .int p628021]) := (rSk_F hk628149 ht627940 (by decide) (by decide)).trans he628107
                              have hm628174 : q627929 ∈ P628124 := RS_m hT628154 ht628164 (by decide)
                              clear bp628083 bp628084 r628092 r628093 rg628120 rm628121 bd628122 rc628123
                              have hm628175 : q587829 ∈ P628124 := RS_m hT628154 ht628159 (by decide)
                              refine rk10_e (show rk_10 γ (F628125 q587829) from RS_o hT628154 ht628159) (fun q628177 q628178 p628179 p628180 p628181 p628182 p628183 p628184 p628185 p628186 p628187 p628188 p628189 p628190 p628191 p628192 p628193 he628176 hB628220 ht628194 ht628195 ht628196 ht628197 ht628198 ht628199 ht628200 ht628201 ht628202 ht628203 ht628204 ht628205 ht628206 ht628207 ht628208 ht628209 ht628210 ht628211 ht628212 ht628213 ht628214 ht628215 ht628216 ht628217 hB628221 => ?_)
                              have r628222 : p628181.toInt = p627970.toInt := by have z : p628181 = p627970 := congrArg (fun e => fI e 11) (he628176.symm.trans (r628158.trans he628110)); rw [z]
                              have bp628181 : gB p628181 0 100 := (hB628220.2.2.1)
                              have r628223 : p628184.toInt = z628103.toInt := by have z : p628184 = z628103 := congrArg (fun e => fI e 14) (he628176.symm.trans (r628158.trans he628110)); rw [z]
                              have bp628184 : gB p628184 0 2000 := (hB628220.2.2.2.1)
                              have bp628184' : gB p628184 1 2000 := ⟨by omega, by omega⟩
                              have sz628224 := (rSk_s hk628149 ht627936 (by decide)).2.1
                              have sz628225 := congrArg (γ 2) sz628224
                              have sz628226 := (hot628142 q628130 (by omega) (by omega)).1
                              rw [hl628131] at sz628226
                              clear hl628132
                              have sz628227 := (hot628142 q628081 (rT0 ht628085 (by decide)) (by rw [show _ = 3 from ht628085]; decide)).1
                              have r628228 := hf0628144.2.2
                              have hB628229 : rBd γ el f B := hBB628148 B (by omega) hB627935
                              have ht628230 : rKd γ q628126 101 := x0628135
                              have r628231 : γ 8 q628126 < γ 16 f := rm_x8 x8628138 h16628139 rfl
                              have hph628232 : rPh γ0 el0 f ≤ rPh γ el f := rm_ph hph627934 hr2628146
                              have pk628233 : rPh γ el f ≤ 387 * B + 6000 := rm_pk (rM_ge hT628154 ht628160 hf628161).1 (rM_bd hB628229)
                              have hm628234 : q628126 ∈ P628124 := RS_m hT628154 ht628230 (by decide)
                              obtain ⟨p628236, p628237, p628238, p628239, p628240, p628241, p628242, he628235, bp628236, bp628237, bp628240, bp628241, bp628242, r628243, r628244, r628245⟩ := show rkR (F628125 q628126) from RS_o hT628154 ht628230
                              have bp628238 := gB_any p628238
                              have bp628239 := gB_any p628239
                              replace r628243 : gH _ := r628243
                              replace r628244 : gH _ := r628244
                              replace r628245 : gH _ := r628245
                              have r628246 : γ 7 (γ 1 q628126) = γ 7 f := by rw [x1628136]
                              have r628247 : p628241.toInt = 0 := by have z := hf0628144.1; rw [he628235] at z; exact z
                              have bp628241' : gB p628241 0 0 := gB_t0 r628247
                              have r628248 : p628242.toInt = 0 := by have z := hf0628144.2.1; rw [he628235] at z; exact z
                              have bp628242' : gB p628242 0 0 := gB_t0 r628248
                              refine G_widen (cs' := ((rPh γ el f - rPh γ0 el0 f) / 18)) (sl' := (rPh γ el f - rPh γ0 el0 f)) (rm_wc hph627934 hr1628145) (rm_ws hph627934 hr2628146) ?_
                              refine G_astore (L' := [(9, .ref q628126), (8, .int z628055), (0, .ref q587829), (1, .ref q587830), (2, .int g626162), (3, .ref q626303), (4, .int g627928), (5, .ref q627929)]) dr_cX17_spill_373 (Nat.le_of_ble_eq_true rfl) rfl ?_
                              refine G_aload 0 dr_cX17_spill_375 rfl ?_
                              refine G_bipush 23 dr_cX17_spill_377 (by decide +kernel) ?_
                              refine Gp_put 0 hm628234 he628235 dr_cX17_spill_379 (gk_X15 D I) (Nat.le_of_ble_eq_true rfl) wr_9_177 rfl rfl rfl (Nat.le_of_ble_eq_true rfl) (fun F628249 e628250 n628251 => ?_)
                              have he628252 : F628249 q627929 = .inr (20, [.int p628015, .int p627973, .int p628017, .int p628018, .int p628019, .int p628020, .int p628021]) := (n628251 q627929 (rn_ty ht628164 ht628230 (by decide))).trans he628173
                              have he628253 : F628249 q587829 = .inr (22, [.ref (γ 9 0), .ref (γ 9 1), .ref (γ 9 2), .ref (γ 9 3), .ref (γ 9 4), .ref (γ 9 5), .ref (γ 9 6), .ref (γ 9 7), .ref (γ 9 8), .int p628179, .int p628180, .int p628181, .int p628182, .int p628183, .int p628184, .ref (γ 9 15), .ref (γ 9 16), .ref (γ 9 17), .ref (γ 9 18), .ref (γ 9 19), .ref (γ 9 20), .ref (γ 9 21), .ref (γ 9 22), .int p628185, .int p628186, .int p628187, .int p628188, .int p628189, .ref q628177, .ref (γ 9 29), .int p628190, .ref (γ 9 31), .int p628191, .int p628192, .int p628193, .ref q628178]) := (n628251 q587829 (rn_oo he628176 he628235 (by decide))).trans he628176
                              have he628254 : F628249 q628126 = .inr (20, [.int 23, .int p628237, .int p628238, .int p628239, .int p628240, .int p628241, .int p628242]) := e628250
                              have mk628255 : mKp (F587828 q587829) (F628249 q587829) := mKp_tr mk628168 (mKp_eq (n628251 q587829 (rn_ty ht628159 ht628230 (by decide))))
                              have kp628256 : F628249 (γ0 9 3) = F587828 (γ0 9 3) := (n628251 (γ0 9 3) (rn_ty (rSk_k hs628155 k0_3 (by decide) (by decide)) ht628230 (by decide))).trans kp628156
                              have kp628257 : F628249 (γ0 9 19) = F622893 (γ0 9 19) := (n628251 (γ0 9 19) (rn_ty (rSk_k hs628155 k0_19 (by decide) (by decide)) ht628230 (by decide))).trans kp628157
                              refine G_aload 0 dr_cX17_spill_382 rfl ?_
                              refine G_iload 1 dr_cX17_spill_384 rfl ?_
                              refine Gp_put 4 hm628234 he628254 dr_cX17_spill_386 (gk_X15 D I) (Nat.le_of_ble_eq_true rfl) wr_9_193 rfl rfl rfl (Nat.le_of_ble_eq_true rfl) (fun F628258 e628259 n628260 => ?_)
                              have he628261 : F628258 q627929 = .inr (20, [.int p628015, .int p627973, .int p628017, .int p628018, .int p628019, .int p628020, .int p628021]) := (n628260 q627929 (rn_ty ht628164 ht628230 (by decide))).trans he628252
                              have he628262 : F628258 q587829 = .inr (22, [.ref (γ 9 0), .ref (γ 9 1), .ref (γ 9 2), .ref (γ 9 3), .ref (γ 9 4), .ref (γ 9 5), .ref (γ 9 6), .ref (γ 9 7), .ref (γ 9 8), .int p628179, .int p628180, .int p628181, .int p628182, .int p628183, .int p628184, .ref (γ 9 15), .ref (γ 9 16), .ref (γ 9 17), .ref (γ 9 18), .ref (γ 9 19), .ref (γ 9 20), .ref (γ 9 21), .ref (γ 9 22), .int p628185, .int p628186, .int p628187, .int p628188, .int p628189, .ref q628177, .ref (γ 9 29), .int p628190, .ref (γ 9 31), .int p628191, .int p628192, .int p628193, .ref q628178]) := (n628260 q587829 (rn_oo he628253 he628254 (by decide))).trans he628253
                              have he628263 : F628258 q628126 = .inr (20, [.int 23, .int p628237, .int p628238, .int p628239, .int z628055, .int p628241, .int p628242]) := e628259
                              have mk628264 : mKp (F587828 q587829) (F628258 q587829) := mKp_tr mk628255 (mKp_eq (n628260 q587829 (rn_ty ht628159 ht628230 (by decide))))
                              have n628265 : ∀ b, b ≠ q628126 → F628258 b = F628125 b := fun b hb => (n628260 b hb).trans (n628251 b hb)
                              have kp628266 : F628258 (γ0 9 3) = F587828 (γ0 9 3) := (n628260 (γ0 9 3) (rn_ty (rSk_k hs628155 k0_3 (by decide) (by decide)) ht628230 (by decide))).trans kp628256
                              have kp628267 : F628258 (γ0 9 19) = F622893 (γ0 9 19) := (n628260 (γ0 9 19) (rn_ty (rSk_k hs628155 k0_19 (by decide) (by decide)) ht628230 (by decide))).trans kp628257
                              refine G_aload 0 dr_cX17_spill_389 rfl ?_
                              refine G_aload 7 dr_cX17_spill_391 rfl ?_
                              refine Gp_get 1 hm628174 he628261 dr_cX17_spill_393 (gk_X15 D I) (Nat.le_of_ble_eq_true rfl) wr_9_182 rfl ?_
                              refine Gp_put 2 hm628234 he628263 dr_cX17_spill_396 (gk_X15 D I) (Nat.le_of_ble_eq_true rfl) wr_9_186 rfl rfl rfl (Nat.le_of_ble_eq_true rfl) (fun F628268 e628269 n628270 => ?_)
                              have he628271 : F628268 q627929 = .inr (20, [.int p628015, .int p627973, .int p628017, .int p628018, .int p628019, .int p628020, .int p628021]) := (n628270 q627929 (rn_ty ht628164 ht628230 (by decide))).trans he628261
                              have he628272 : F628268 q587829 = .inr (22, [.ref (γ 9 0), .ref (γ 9 1), .ref (γ 9 2), .ref (γ 9 3), .ref (γ 9 4), .ref (γ 9 5), .ref (γ 9 6), .ref (γ 9 7), .ref (γ 9 8), .int p628179, .int p628180, .int p628181, .int p628182, .int p628183, .int p628184, .ref (γ 9 15), .ref (γ 9 16), .ref (γ 9 17), .ref (γ 9 18), .ref (γ 9 19), .ref (γ 9 20), .ref (γ 9 21), .ref (γ 9 22), .int p628185, .int p628186, .int p628187, .int p628188, .int p628189, .ref q628177, .ref (γ 9 29), .int p628190, .ref (γ 9 31), .int p628191, .int p628192, .int p628193, .ref q628178]) := (n628270 q587829 (rn_oo he628262 he628263 (by decide))).trans he628262
                              have he628273 : F628268 q628126 = .inr (20, [.int 23, .int p628237, .int p627973, .int p628239, .int z628055, .int p628241, .int p628242]) := e628269
                              have mk628274 : mKp (F587828 q587829) (F628268 q587829) := mKp_tr mk628264 (mKp_eq (n628270 q587829 (rn_ty ht628159 ht628230 (by decide))))
                              have n628275 : ∀ b, b ≠ q628126 → F628268 b = F628125 b := fun b hb => (n628270 b hb).trans (n628265 b hb)
                              have kp628276 : F628268 (γ0 9 3) = F587828 (γ0 9 3) := (n628270 (γ0 9 3) (rn_ty (rSk_k hs628155 k0_3 (by decide) (by decide)) ht628230 (by decide))).trans kp628266
                              have kp628277 : F628268 (γ0 9 19) = F622893 (γ0 9 19) := (n628270 (γ0 9 19) (rn_ty (rSk_k hs628155 k0_19 (by decide) (by decide)) ht628230 (by decide))).trans kp628267
                              refine G_aload 0 dr_cX17_spill_399 rfl ?_
                              refine G_iconst 1 dr_cX17_spill_401 (by decide +kernel) ?_
                              refine Gp_put 5 hm628234 he628273 dr_cX17_spill_402 (gk_X15 D I) (Nat.le_of_ble_eq_true rfl) wr_9_197 rfl rfl rfl (Nat.le_of_ble_eq_true rfl) (fun F628278 e628279 n628280 => ?_)
                              have he628281 : F628278 q627929 = .inr (20, [.int p628015, .int p627973, .int p628017, .int p628018, .int p628019, .int p628020, .int p628021]) := (n628280 q627929 (rn_ty ht628164 ht628230 (by decide))).trans he628271
                              have he628282 : F628278 q587829 = .inr (22, [.ref (γ 9 0), .ref (γ 9 1), .ref (γ 9 2), .ref (γ 9 3), .ref (γ 9 4), .ref (γ 9 5), .ref (γ 9 6), .ref (γ 9 7), .ref (γ 9 8), .int p628179, .int p628180, .int p628181, .int p628182, .int p628183, .int p628184, .ref (γ 9 15), .ref (γ 9 16), .ref (γ 9 17), .ref (γ 9 18), .ref (γ 9 19), .ref (γ 9 20), .ref (γ 9 21), .ref (γ 9 22), .int p628185, .int p628186, .int p628187, .int p628188, .int p628189, .ref q628177, .ref (γ 9 29), .int p628190, .ref (γ 9 31), .int p628191, .int p628192, .int p628193, .ref q628178]) := (n628280 q587829 (rn_oo he628272 he628273 (by decide))).trans he628272
                              have he628283 : F628278 q628126 = .inr (20, [.int 23, .int p628237, .int p627973, .int p628239, .int z628055, .int 1, .int p628242]) := e628279
                              have mk628284 : mKp (F587828 q587829) (F628278 q587829) := mKp_tr mk628274 (mKp_eq (n628280 q587829 (rn_ty ht628159 ht628230 (by decide))))
                              have n628285 : ∀ b, b ≠ q628126 → F628278 b = F628125 b := fun b hb => (n628280 b hb).trans (n628275 b hb)
                              have kp628286 : F628278 (γ0 9 3) = F587828 (γ0 9 3) := (n628280 (γ0 9 3) (rn_ty (rSk_k hs628155 k0_3 (by decide) (by decide)) ht628230 (by decide))).trans kp628276
                              have kp628287 : F628278 (γ0 9 19) = F622893 (γ0 9 19) := (n628280 (γ0 9 19) (rn_ty (rSk_k hs628155 k0_19 (by decide) (by decide)) ht628230 (by decide))).trans kp628277
                              obtain ⟨z628288, hz628288⟩ : ∃ z : Int32, z = g627928 + Int32.ofInt 1 := ⟨_, rfl⟩
                              have ez628288 : z628288.toInt = g627928.toInt + 1 := gI_inc hz628288 (by decide) bg627928 (by decide) (by decide)
                              have bz628288 : gB z628288 1 1000002 := ⟨by omega, by omega⟩
                              refine G_iinc (L' := [(4, .int z628288), (9, .ref q628126), (8, .int z628055), (0, .ref q587829), (1, .ref q587830), (2, .int g626162), (3, .ref q626303), (5, .ref q627929)]) z628288 6 dr_cX17_spill_405 rfl hz628288.symm (Nat.le_of_ble_eq_true rfl) rfl ?_
                              refine G_aload_n 6 dr_cX17_spill_408 rfl ?_
                              have hT628289 : RS D I P628124 F628278 γ el := RS_set hT628154 n628285 ht628230 (by decide) ⟨23, p628237, p627973, p628239, z628055, 1, p628242, he628283, (gB_w (gBl (show Int32.toInt 23 = 23 by decide)) (by decide) (by decide)), bp628237, bz628055', (gB_w (gBl (show Int32.toInt 1 = 1 by decide)) (by decide) (by decide)), (gB_w bp628242' (by decide) (by decide)), (Or.inr (by decide)), (Or.inr bp627973'), (gHe r628245)⟩
                              have hs628291 := rSk_put hs628155 hT628289 n628285 ht628230 (by decide) (by decide)
                              have hm628292 : q626303 ∈ P628124 := RS_m hT628289 ht628162 (by decide)
                              obtain ⟨q628294, q628295, p628296, p628297, he628293, ht628304, ht628298, ht628299, ht628300, ht628301, ht628302, bp628296, bp628297, r628303, r628305, r628306⟩ := show rk_2 γ q626303 (F628278 q626303) from RS_o hT628289 ht628162
                              have hf628307 : γ 1 q628294 = f := (show γ 1 q628294 = γ 1 q626303 from ht628299).trans hf628163
                              have hf628308 : γ 1 q628295 = f := (show γ 1 q628295 = γ 1 q626303 from ht628301).trans hf628163
                              have r628309 : γ 6 (γ 1 q626303) = γ 6 f := by rw [hf628163]
                              have r628310 : γ 7 (γ 1 q626303) = γ 7 f := by rw [hf628163]
                              have r628311 : γ 19 (γ 1 q626303) = γ 19 f := by rw [hf628163]
                              have r628312 := r628303.resolve_left (by omega)
                              clear r628303
                              have r628313 : γ 2 (γ 14 q626303) = γ 2 q628294 := by rw [ht628304.1]
                              refine Gp_get 0 hm628292 he628293 dr_cX17_spill_409 (gk_X12 D I) (Nat.le_of_ble_eq_true rfl) wr_9_220 rfl ?_
                              refine G_iload 0 dr_cX17_spill_412 rfl ?_
                              refine G_aload 1 dr_cX17_spill_414 rfl ?_
                              have pl628314 := rPl_fr hT628154 ht628160 hf628161 pl628133 (fun b hb _ => n628285 b (rn_ty (show rKd γ b 1 from hb) ht628230 (by decide)))
                              have rg628315 := rM_ge hT628289 ht628160 hf628161
                              have rm628316 := rM_bd hB628229
                              have bd628317 := rBd_c hT628289 ht628160 hf628161 hB628229
                              have rc628318 := rc_at hT628289 ht628160 hf628161
                              have r628320 : γ 14 (el (γ 14 q587830) g626162.toInt.toNat) = q628294 := by rw [r628172]; exact ht628304.1
                              have r628321 := rg628315.2.2 _ r628171
                              rw [r628320] at r628321
                              have r628322 := bd628317.2.2.2 _ r628171
                              rw [r628320] at r628322
                              have r628323 : γ 7 (γ 1 q628126) = γ 7 f := by rw [x1628136]
                              have hx628324 : rk_1 γ q628126 (F628278 q628126) := ⟨23, p628237, p627973, p628239, z628055, 1, p628242, he628283, (gB_w (gBl (show Int32.toInt 23 = 23 by decide)) (by decide) (by decide)), bp628237, bz628055', (gB_w (gBl (show Int32.toInt 1 = 1 by decide)) (by decide) (by decide)), (gB_w bp628242' (by decide) (by decide)), (Or.inr (by decide)), (Or.inr bp627973'), (gHe r628245), (Or.inr (by omega)), (Or.inl x22628137)⟩
                              refine Gt_ins (c := q587830) (f := f) hl0 dr_cX17_spill_416 ⟨wr_10_207, wr_1_18, wr_10_210, by decide, rfl, (Nat.le_of_ble_eq_true rfl), (Nat.le_of_ble_eq_true rfl)⟩ wr_10_208 wr_10_209 hT628289 ht628298 hf628307 ht628230 x1628136 x22628137 r628231 (by omega) ht628160 hf628161 r628171 r628320 hx628324 (by omega) (by omega) (Nat.le_trans r628322 (Nat.le_trans hBk (by decide))) (rm_cs hph628232 r628321 rm628316 (by decide)) (rm_sl hph628232 r628321 rm628316 rm_s11) (Nat.le_of_ble_eq_true rfl) (fun P628325 F628319 γ el dc628326 ds628327 hq628328 => ?_)
                              have pl628329 := sp_ins (j1 := ((g627928.toInt : Int).toNat + 1) + 1) hT628289 ht628160 hf628161 hq628328 r628320 (tn_lt (by omega) (by omega)) (tn_le0 (by omega) (by omega)) (by rw [(show z628288.toInt.toNat = ((g627928.toInt : Int).toNat + 1) from tn_eq1 (by omega) (by omega))]; exact pl628314) (nm_sto he628283 (by decide)).1 (nm_sto he628283 (by decide)).2 (tn_ge (show 100 ≤ p627973.toInt by omega)) (congrArg (fun k => k + 1) (show z628288.toInt.toNat = ((g627928.toInt : Int).toNat + 1) from tn_eq1 (by omega) (by omega)).symm)
                              obtain ⟨hk628330, x0628331, h2628332, hel628333, hot628334, h16628335, h18628336, hnu628337, hFx628338, hr628339, hM628340, hBB628341⟩ := hq628328
                              have hk628342 := rSk_of hk628330
                              have r628343 : (fI (F628319 q587830) 3).toInt = (fI (F628278 q587830) 3).toInt := by rw [rSk_F hk628342 ht628160 (by decide) (by decide)]
                              obtain ⟨nu628344, nu628345, nu628346, nu628347⟩ := hnu628337
                              have hT628348 := hk628342.1
                              have hs628349 := rSk_tr hs628291 hk628342 (by decide) (by decide) (by decide)
                              have kp628350 : F628319 (γ0 9 3) = F587828 (γ0 9 3) := (rSk_F hk628342 (rSk_k hs628291 k0_3 (by decide) (by decide)) (by decide) (by decide)).trans kp628286
                              have kp628351 : F628319 (γ0 9 19) = F622893 (γ0 9 19) := (rSk_F hk628342 (rSk_k hs628291 k0_19 (by decide) (by decide)) (by decide) (by decide)).trans kp628287
                              have r628352 := rSk_F hk628342 ht628159 (by decide) (by decide)
                              have ht628353 : rKd γ q587829 10 := rSk_k hk628342 ht628159 (by decide) (by decide)
                              have ht628354 : rKd γ q587830 9 := rSk_k hk628342 ht628160 (by decide) (by decide)
                              have hf628355 : γ 1 q587830 = f := rSk_1 hk628342 ht628160 (by decide) hf628161
                              have ht628356 : rKd γ q626303 2 := rSk_k hk628342 ht628162 (by decide) (by decide)
                              have hf628357 : γ 1 q626303 = f := rSk_1 hk628342 ht628162 (by decide) hf628163
                              have ht628358 : rKd γ q627929 1 := rSk_k hk628342 ht628164 (by decide) (by decide)
                              have hf628359 : γ 1 q627929 = f := rSk_1 hk628342 ht628164 (by decide) hf628165
                              have ht628360 : rKd γ q628081 3 := rSk_k hk628342 ht628166 (by decide) (by decide)
                              have hf628361 : γ 1 q628081 = f := rSk_1 hk628342 ht628166 (by decide) hf628167
                              have ht628362 : rKd γ q628294 3 := rSk_k hk628342 ht628298 (by decide) (by decide)
                              have hf628363 : γ 1 q628294 = f := rSk_1 hk628342 ht628298 (by decide) hf628307
                              have mk628364 : mKp (F587828 q587829) (F628319 q587829) := mKp_tr mk628284 (mKp_eq (rSk_F hk628342 ht628159 (by decide) (by decide)))
                              have r628365 := (rSk_s hk628342 ht628160 (by decide)).2.1
                              have r628366 := hot628334 _ (by rw [rc628318.2.1]; decide) (fun q => by rw [q, show _ = 3 from ht628298] at rc628318; exact absurd rc628318.2.1 (by decide))
                              have r628367 : g626162.toInt.toNat < γ 2 (γ 14 q587830) := by rw [r628365, r628366.1]; exact r628171
                              have r628368 : el (γ 14 q587830) g626162.toInt.toNat = q626303 := by rw [r628365, r628366.2]; exact r628172
                              have he628369 : F628319 q627929 = .inr (20, [.int p628015, .int p627973, .int p628017, .int p628018, .int p628019, .int p628020, .int p628021]) := (rSk_F hk628342 ht628164 (by decide) (by decide)).trans he628281
                              have hm628370 : q627929 ∈ P628325 := RS_m hT628348 ht628358 (by decide)
                              clear bp628236 bp628237 bp628240 bp628241 bp628242 bp628238 bp628239 bp628296 bp628297 r628305 r628306 rg628315 rm628316 bd628317 rc628318 r628321 r628322
                              clear r628243 r628244 r628245
                              have hm628371 : q587829 ∈ P628325 := RS_m hT628348 ht628353 (by decide)
                              refine rk10_e (show rk_10 γ (F628319 q587829) from RS_o hT628348 ht628353) (fun q628373 q628374 p628375 p628376 p628377 p628378 p628379 p628380 p628381 p628382 p628383 p628384 p628385 p628386 p628387 p628388 p628389 he628372 hB628416 ht628390 ht628391 ht628392 ht628393 ht628394 ht628395 ht628396 ht628397 ht628398 ht628399 ht628400 ht628401 ht628402 ht628403 ht628404 ht628405 ht628406 ht628407 ht628408 ht628409 ht628410 ht628411 ht628412 ht628413 hB628417 => ?_)
                              have r628418 : p628377.toInt = p628181.toInt := by have z : p628377 = p628181 := congrArg (fun e => fI e 11) (he628372.symm.trans (r628352.trans he628282)); rw [z]
                              have bp628377 : gB p628377 0 100 := (hB628416.2.2.1)
                              have r628419 : p628380.toInt = p628184.toInt := by have z : p628380 = p628184 := congrArg (fun e => fI e 14) (he628372.symm.trans (r628352.trans he628282)); rw [z]
                              have bp628380 : gB p628380 0 2000 := (hB628416.2.2.2.1)
                              have bp628380' : gB p628380 1 2000 := ⟨by omega, by omega⟩
                              first | have sz628420 := (hot628334 q628081 (rT0 ht628166 (by decide)) (by assumption)).1 | skip
                              have ht628421 : rKd γ q628126 1 := x0628331
                              have hB628422 : rBd γ el f B := hBB628341 B hB628229
                              have hph628423 : rPh γ0 el0 f ≤ rPh γ el f := rm_ph hph628232 hr628339.2
                              have pk628424 : rPh γ el f ≤ 387 * B + 6000 := rm_pk (rM_ge hT628348 ht628354 hf628355).1 (rM_bd hB628422)
                              refine G_widen (cs' := ((rPh γ el f - rPh γ0 el0 f) / 18)) (sl' := (rPh γ el f - rPh γ0 el0 f)) (rm_wc hph628232 hr628339.1) (rm_ws hph628232 hr628339.2) ?_
                              have r628425 : γ 14 q626303 = q628294 := ((rSk_s (rSk_of hk628330) ht628162 (by decide)).2.1).trans ht628304.1
                              have sz628426 : γ 2 (γ 14 q626303) = γ 2 q628294 := by rw [r628425]
                              obtain ⟨z628427, hz628427⟩ : ∃ z : Int32, z = z628288 + Int32.ofInt 1 := ⟨_, rfl⟩
                              have ez628427 : z628427.toInt = z628288.toInt + 1 := gI_inc hz628427 (by decide) bz628288 (by decide) (by decide)
                              have bz628427 : gB z628427 2 1000003 := ⟨by omega, by omega⟩
                              refine G_iinc (L' := [(4, .int z628427), (9, .ref q628126), (8, .int z628055), (0, .ref q587829), (1, .ref q587830), (2, .int g626162), (3, .ref q626303), (5, .ref q627929)]) z628427 0 dr_cX17_spill_419 rfl hz628427.symm (Nat.le_of_ble_eq_true rfl) rfl ?_
                              refine G_goto 90 dr_cX17_spill_422 (by decide +kernel) ?_
                              refine G_lv (L' := [(4, .int z628427), (3, .ref q626303), (2, .int g626162), (0, .ref q587829), (1, .ref q587830)]) [0, 6, 5, 3, 4] rfl ?_
                              have ac628428 : (fI (F628319 q587829) 11).toInt = p628377.toInt := by rw [he628372]; rfl
                              have ac628429 : (fI (F628319 q587829) 14).toInt = p628380.toInt := by rw [he628372]; rfl
                              exact ih90_627829 P628325 F628319 γ el z628427 (gB_w bz628427 (by decide) (by decide)) hT628348 hs628349 hph628423 hB628422 ht628356 hf628357 r628367 r628368 (by omega) (by omega) (by omega) (by omega) (by omega) (by omega) kp628351 (by rw [(show (z628427.toInt : Int).toNat = (((g627928.toInt : Int).toNat + 1) + 1) from tn_eq2 (by omega) (by omega))]; exact pl628329) (by omega) (by omega) kp628350 mk628364 (ms_g x627954 (by omega) (by omega) (by omega))
                            · have r628430 : p627973.toInt = 2000 := gj_eq hc628062 (show Int32.toInt 2000 = 2000 by decide)
                              have bp627973' : gB p627973 2000 2000 := ⟨by omega, by omega⟩
                              refine G_iconst 0 dr_cX17_spill_348 (by decide +kernel) ?_
                              exact G_zretA FieldType.boolean dr_cX17_spill_349 rfl rfl (rm_zc pk627962) (rm_zs pk627962) ⟨P627930, F627931, γ, el, 0, rfl, rfl, hs627933, (rm_pp hph627934), hB627935, (gB_w (gBl (show Int32.toInt 0 = 0 by decide)) (by decide) (by decide)), (by have qa0 : Int32.toInt 0 = 0 := (by decide); omega), (Or.inl (by decide)), x627956, x627957⟩
                          · have r628431 : z628055.toInt < 0 := gj_nleL hc628059 (show Int32.toInt 0 = 0 by decide)
                            have bz628055' : gB z628055 (-1) (-1) := ⟨by omega, by omega⟩
                            refine G_goto 419 dr_cX17_spill_323 (by decide +kernel) ?_
                            have rn628433 : rNx (nSp (cB (F587828 (γ0 9 3))) (cB (F622893 (γ0 9 19)))) (F627931 q627929) := rS2_n he628014 he628014 x627951 (fun _ => Or.inr ⟨rfl, Or.inr (by omega)⟩)
                            have pl628432 := sp_fin x627949 x627950 rn628433 (rfl : (g627928.toInt : Int).toNat + 1 = (g627928.toInt : Int).toNat + 1)
                            obtain ⟨z628434, hz628434⟩ : ∃ z : Int32, z = g627928 + Int32.ofInt 1 := ⟨_, rfl⟩
                            have ez628434 : z628434.toInt = g627928.toInt + 1 := gI_inc hz628434 (by decide) bg627928 (by decide) (by decide)
                            have bz628434 : gB z628434 1 1000002 := ⟨by omega, by omega⟩
                            refine G_iinc (L' := [(4, .int z628434), (0, .ref q587829), (1, .ref q587830), (2, .int g626162), (3, .ref q626303), (5, .ref q627929)]) z628434 4 dr_cX17_spill_419 rfl hz628434.symm (Nat.le_of_ble_eq_true rfl) rfl ?_
                            refine G_goto 90 dr_cX17_spill_422 (by decide +kernel) ?_
                            refine G_lv (L' := [(4, .int z628434), (3, .ref q626303), (2, .int g626162), (0, .ref q587829), (1, .ref q587830)]) [0, 4, 3, 1, 2] rfl ?_
                            have ac628435 : (fI (F627931 q587829) 11).toInt = p627970.toInt := by rw [he627965]; rfl
                            have ac628436 : (fI (F627931 q587829) 14).toInt = p627973.toInt := by rw [he627965]; rfl
                            exact ih90_627829 P627930 F627931 γ el z628434 (gB_w bz628434 (by decide) (by decide)) hT627932 hs627933 hph627934 hB627935 ht627936 hf627937 r627938 r627939 (by omega) (by omega) (by omega) (by omega) (by omega) (by omega) x627948 (by rw [(show (z628434.toInt : Int).toNat = ((g627928.toInt : Int).toNat + 1) from tn_eq1 (by omega) (by omega))]; exact pl628432) (by omega) (by omega) x627956 x627957 (ms_g x627954 (by omega) (by omega) (by omega))
                    have jn236_628468 : ∀ (P628441 : List Nat) (F628442 : Nat → va_E) (γ el : Nat → Nat → Nat) (g628437 : Int32) (q628438 : Nat) (g628439 : Int32) (g628440 : Int32), gB g628437 0 1000001 → gB g628439 (-1) 1999 → gB g628440 (-1) 1999 → RS D I P628441 F628442 γ el → rSk f [101] ([1, 3, 5, 6, 8, 9, 101] ++ npk) D I P587827 F587828 γ0 el0 P628441 F628442 γ el → rPh γ0 el0 f ≤ rPh γ el f → rBd γ el f B → rKd γ q626303 2 → γ 1 q626303 = f → g626162.toInt.toNat < γ 2 (γ 14 q587830) → el (γ 14 q587830) g626162.toInt.toNat = q626303 → rKd γ q628438 1 → γ 1 q628438 = f → γ 6 f = γ0 6 f → γ 18 f = γ0 18 f → ((γ 7 f : Nat) : Int) = (fI (F628442 q587829) 11).toInt → (fI (F628442 q587829) 11).toInt = (fI (F622893 q587829) 11).toInt → ((γ 16 f : Nat) : Int) + 2001 ≤ (B : Int) + (fI (F628442 q587829) 14).toInt → 100 ≤ (fI (F628442 q587829) 14).toInt → (F628442 (γ0 9 19) = F622893 (γ0 9 19)) → rPl γ el F628442 q587830 (γ 6 f) (spX (cB (F587828 (γ0 9 3))) (cB (F622893 (γ0 9 19))) (g626162.toInt : Int).toNat (g628437.toInt : Int).toNat) → rAt γ el q587830 (g626162.toInt : Int).toNat (g628437.toInt : Int).toNat = q628438 → rS1 (cB (F587828 (γ0 9 3))) (cB (F622893 (γ0 9 19))) (F628442 q628438) g628439.toInt g628440.toInt → (g628437.toInt : Int) ≤ γ 2 (γ 14 q626303) → (g626162.toInt : Int) < γ 6 f → (γ 2 (γ 14 q626303) + 1 - (g628437.toInt : Int).toNat) < n90_627829 + 1 → eO g628437.toInt (γ 2 (γ 14 q626303) : Nat) (fI (F628442 q628438) 0).toInt → (F628442 (γ0 9 3) = F587828 (γ0 9 3)) → mKp (F587828 q587829) (F628442 q587829) → G (gV D I) l (gRm 9 195 (((387 * B + 6000) - rPh γ0 el0 f) / 18) ((387 * B + 6000) - rPh γ0 el0 f)) (gMA (gV D I) (pg_587837_SpillForgeModel_spill D I γ0 el0 f B P587827 F587828 q587829 q587830) gNA (((387 * B + 6000) - rPh γ0 el0 f) / 18) ((387 * B + 6000) - rPh γ0 el0 f)) ky_587837_SpillForgeModel_spill 236 [(0, .ref q587829), (1, .ref q587830), (2, .int g626162), (3, .ref q626303), (4, .int g628437), (5, .ref q628438), (6, .int g628439), (7, .int g628440)] [] (va_pl P628441 F628442) ((rPh γ el f - rPh γ0 el0 f) / 18) (rPh γ el f - rPh γ0 el0 f) := by
                      intro P628441 F628442 γ el g628437 q628438 g628439 g628440 bg628437 bg628439 bg628440 hT628443 hs628444 hph628445 hB628446 ht628447 hf628448 r628449 r628450 ht628451 hf628452 x628453 x628454 x628455 x628456 x628457 x628458 x628459 x628460 x628461 x628462 x628463 x628464 x628465 x628466 x628467 x628468
                      clear bp627889 bp627890 r627898 r627899 r627902 r627903 r627904 r627905 r627906 r627912 r627913 r627914 r627916 r627915
                      have ht628470 : rKd γ q587829 10 := rSk_k hs628444 hzq587829 (by decide) (by decide)
                      have ht628471 : rKd γ q587830 9 := rSk_k hs628444 hzq587830 (by decide) (by decide)
                      have hf628472 : γ 1 q587830 = f := rSk_1 hs628444 hzq587830 (by decide) hf0
                      have pk628473 : rPh γ el f ≤ 387 * B + 6000 := rm_pk (rM_ge hT628443 ht628471 hf628472).1 (rM_bd hB628446)
                      have r628474 : 0 < γ 6 (γ 1 q587830) := by rw [hf628472]; omega
                      have hm628475 : q587829 ∈ P628441 := RS_m hT628443 ht628470 (by decide)
                      refine rk10_e (show rk_10 γ (F628442 q587829) from RS_o hT628443 ht628470) (fun q628477 q628478 p628479 p628480 p628481 p628482 p628483 p628484 p628485 p628486 p628487 p628488 p628489 p628490 p628491 p628492 p628493 he628476 hB628520 ht628494 ht628495 ht628496 ht628497 ht628498 ht628499 ht628500 ht628501 ht628502 ht628503 ht628504 ht628505 ht628506 ht628507 ht628508 ht628509 ht628510 ht628511 ht628512 ht628513 ht628514 ht628515 ht628516 ht628517 hB628521 => ?_)
                      have ac628522 : (fI (F628442 q587829) 11).toInt = p628481.toInt := by rw [he628476]; rfl
                      have bp628481 : gB p628481 0 100 := (hB628520.2.2.1)
                      have ac628523 : (fI (F628442 q587829) 14).toInt = p628484.toInt := by rw [he628476]; rfl
                      have bp628484 : gB p628484 0 2000 := (hB628520.2.2.2.1)
                      have hm628524 : q628438 ∈ P628441 := RS_m hT628443 ht628451 (by decide)
                      obtain ⟨p628526, p628527, p628528, p628529, p628530, p628531, p628532, he628525, bp628526, bp628527, bp628530, bp628531, bp628532, r628533, r628534, r628535, r628536, r628537⟩ := show rk_1 γ q628438 (F628442 q628438) from RS_o hT628443 ht628451
                      have bp628528 := gB_any p628528
                      have bp628529 := gB_any p628529
                      replace r628533 : gH _ := r628533
                      replace r628534 : gH _ := r628534
                      replace r628535 : gH _ := r628535
                      replace r628536 : gH _ := r628536
                      replace r628537 : gH _ := r628537
                      have r628538 : γ 7 (γ 1 q628438) = γ 7 f := by rw [hf628452]
                      refine G_iload 7 dr_cX17_spill_236 rfl ?_
                      refine G_if_lt 292 dr_cX17_spill_238 (by decide +kernel) (fun hc628539 => ?_) (fun hc628539 => ?_)
                      · have r628540 : g628440.toInt < 0 := gj_lt hc628539 (show Int32.toInt 0 = 0 by decide)
                        have bg628440' : gB g628440 (-1) (-1) := ⟨by omega, by omega⟩
                        have ac628541 : (fI (F628442 q587829) 11).toInt = p628481.toInt := by rw [he628476]; rfl
                        have ac628542 : (fI (F628442 q587829) 14).toInt = p628484.toInt := by rw [he628476]; rfl
                        refine G_lv (L' := [(0, .ref q587829), (1, .ref q587830), (2, .int g626162), (3, .ref q626303), (4, .int g628437), (5, .ref q628438)]) [0, 1, 2, 3, 4, 5] rfl ?_
                        exact jn292_627957 P628441 F628442 γ el g628437 q628438 bg628437 hT628443 hs628444 hph628445 hB628446 ht628447 hf628448 r628449 r628450 ht628451 hf628452 (by omega) (by omega) (by omega) (by omega) (by omega) (by omega) x628459 (by exact x628460) (by exact x628461) (rS1_2 x628462 (Or.inl (by omega))) (by omega) (by omega) (ms_j x628465 (by omega) (by omega) (by omega)) (eO_j x628466 (by rw [he628525] <;> rfl) (by rw [he628525] <;> rfl) (by omega)) x628467 x628468
                      · have r628543 : 0 ≤ g628440.toInt := gj_nlt hc628539 (show Int32.toInt 0 = 0 by decide)
                        have bg628440' : gB g628440 0 1999 := ⟨by omega, by omega⟩
                        refine G_iload 7 dr_cX17_spill_241 rfl ?_
                        refine G_iload 6 dr_cX17_spill_243 rfl ?_
                        refine G_icmp_eq 292 dr_cX17_spill_245 (by decide +kernel) (fun hc628544 => ?_) (fun hc628544 => ?_)
                        · have r628545 : g628440.toInt = g628439.toInt := gC_eq hc628544
                          have bg628439' : gB g628439 0 1999 := ⟨by omega, by omega⟩
                          have ac628546 : (fI (F628442 q587829) 11).toInt = p628481.toInt := by rw [he628476]; rfl
                          have ac628547 : (fI (F628442 q587829) 14).toInt = p628484.toInt := by rw [he628476]; rfl
                          refine G_lv (L' := [(0, .ref q587829), (1, .ref q587830), (2, .int g626162), (3, .ref q626303), (4, .int g628437), (5, .ref q628438)]) [0, 1, 2, 3, 4, 5] rfl ?_
                          exact jn292_627957 P628441 F628442 γ el g628437 q628438 bg628437 hT628443 hs628444 hph628445 hB628446 ht628447 hf628448 r628449 r628450 ht628451 hf628452 (by omega) (by omega) (by omega) (by omega) (by omega) (by omega) x628459 (by exact x628460) (by exact x628461) (rS1_2 x628462 (Or.inr (Or.inl (by omega)))) (by omega) (by omega) (ms_j x628465 (by omega) (by omega) (by omega)) (eO_j x628466 (by rw [he628525] <;> rfl) (by rw [he628525] <;> rfl) (by omega)) x628467 x628468
                        · have r628548 : g628440.toInt ≠ g628439.toInt := gC_ne hc628544
                          refine G_aload_n 0 dr_cX17_spill_248 rfl ?_
                          refine Gp_get 19 hm628475 he628476 dr_cX17_spill_249 (gk_X17 D I) (Nat.le_of_ble_eq_true rfl) wr_7_93 rfl ?_
                          refine G_iload 7 dr_cX17_spill_252 rfl ?_
                          have hm628549 : (γ 9 19) ∈ P628441 := RS_m hT628443 ht628509 (by decide)
                          obtain ⟨f628551, he628550, bf628551⟩ := show rk_21 I (F628442 (γ 9 19)) from RS_o hT628443 ht628509
                          refine Gp_iald 0 hm628549 he628550 dr_cX17_spill_254 rfl (gB_in bg628440' (by decide) (by decide)) (G_nam fun z628552 hz628552 => ?_)
                          have bz628552 : gB z628552 (-1) 1999 := by rw [hz628552]; exact bf628551 _
                          have c9_628553 : cB (F622893 (γ0 9 19)) = f628551 := by rw [← x628459, ← congrFun (rSk_9 hs628444) 19]; exact cB_of he628550
                          have hs628554 : (cB (F622893 (γ0 9 19)) g628440.toInt.toNat).toInt = z628552.toInt := by rw [c9_628553, hz628552]; rfl
                          refine G_if_lt 292 dr_cX17_spill_255 (by decide +kernel) (fun hc628556 => ?_) (fun hc628556 => ?_)
                          · have r628557 : z628552.toInt < 0 := gj_lt hc628556 (show Int32.toInt 0 = 0 by decide)
                            have bz628552' : gB z628552 (-1) (-1) := ⟨by omega, by omega⟩
                            have ac628558 : (fI (F628442 q587829) 11).toInt = p628481.toInt := by rw [he628476]; rfl
                            have ac628559 : (fI (F628442 q587829) 14).toInt = p628484.toInt := by rw [he628476]; rfl
                            refine G_lv (L' := [(0, .ref q587829), (1, .ref q587830), (2, .int g626162), (3, .ref q626303), (4, .int g628437), (5, .ref q628438)]) [0, 1, 2, 3, 4, 5] rfl ?_
                            exact jn292_627957 P628441 F628442 γ el g628437 q628438 bg628437 hT628443 hs628444 hph628445 hB628446 ht628447 hf628448 r628449 r628450 ht628451 hf628452 (by omega) (by omega) (by omega) (by omega) (by omega) (by omega) x628459 (by exact x628460) (by exact x628461) (rS1_2 x628462 (Or.inr (Or.inr (by omega)))) (by omega) (by omega) (ms_j x628465 (by omega) (by omega) (by omega)) (eO_j x628466 (by rw [he628525] <;> rfl) (by rw [he628525] <;> rfl) (by omega)) x628467 x628468
                          · have r628560 : 0 ≤ z628552.toInt := gj_nlt hc628556 (show Int32.toInt 0 = 0 by decide)
                            have bz628552' : gB z628552 0 1999 := ⟨by omega, by omega⟩
                            refine G_aload_n 0 dr_cX17_spill_258 rfl ?_
                            refine G_aload_n 1 dr_cX17_spill_259 rfl ?_
                            refine G_aload_n 3 dr_cX17_spill_260 rfl ?_
                            refine G_iload 4 dr_cX17_spill_261 rfl ?_
                            refine G_aload_n 0 dr_cX17_spill_263 rfl ?_
                            refine Gp_get 19 hm628475 he628476 dr_cX17_spill_264 (gk_X17 D I) (Nat.le_of_ble_eq_true rfl) wr_7_93 rfl ?_
                            refine G_iload 7 dr_cX17_spill_267 rfl ?_
                            refine Gp_iald 0 hm628549 he628550 dr_cX17_spill_269 rfl (gB_in bg628440' (by decide) (by decide)) (G_eqi (y := z628552) hz628552.symm ?_)
                            have hm628561 : q626303 ∈ P628441 := RS_m hT628443 ht628447 (by decide)
                            obtain ⟨q628563, q628564, p628565, p628566, he628562, ht628573, ht628567, ht628568, ht628569, ht628570, ht628571, bp628565, bp628566, r628572, r628574, r628575⟩ := show rk_2 γ q626303 (F628442 q626303) from RS_o hT628443 ht628447
                            have hf628576 : γ 1 q628563 = f := (show γ 1 q628563 = γ 1 q626303 from ht628568).trans hf628448
                            have hf628577 : γ 1 q628564 = f := (show γ 1 q628564 = γ 1 q626303 from ht628570).trans hf628448
                            have r628578 : γ 6 (γ 1 q626303) = γ 6 f := by rw [hf628448]
                            have r628579 : γ 7 (γ 1 q626303) = γ 7 f := by rw [hf628448]
                            have r628580 : γ 19 (γ 1 q626303) = γ 19 f := by rw [hf628448]
                            have r628581 := r628572.resolve_left (by omega)
                            clear r628572
                            have r628582 : γ 2 (γ 14 q626303) = γ 2 q628563 := by rw [ht628573.1]
                            have hm628583 : q628563 ∈ P628441 := RS_m hT628443 ht628567 (by decide)
                            obtain ⟨⟨p628585, p628586, q628587, he628584, r628588, r628589, r628590, r628592⟩, r628591⟩ := show rk_3 D I γ el F628442 q628563 from RS_o hT628443 ht628567
                            have bp628585 := gB_any p628585
                            have bp628586 : gB p628586 0 1000000 := ⟨by omega, by omega⟩
                            have r628593 := (spi622978.2.2.2 g628440.toInt.toNat (tn_lt (by omega) (by omega)) (by omega)).2.2
                            have ac628594 : (fI (F628442 q587829) 11).toInt = p628481.toInt := by rw [he628476]; rfl
                            have ac628595 : (fI (F628442 q587829) 14).toInt = p628484.toInt := by rw [he628476]; rfl
                            have rg628596 := rM_ge hT628443 ht628471 hf628472
                            have rm628597 := rM_bd hB628446
                            have bd628598 := rBd_c hT628443 ht628471 hf628472 hB628446
                            have rc628599 := rc_at hT628443 ht628471 hf628472
                            refine Gw_callV (As := [.ref q587830, .ref q626303, .int g628437, .int z628552]) (gV_ok D I) (cg_407593_SpillForgeModel_load l hl0 D I γ el f B P628441 F628442 q587829 q587830 q626303 g628437 z628552 g626162.toInt.toNat hT628443 ht628470 ht628471 ht628447 hf628472 hB628446 hBk r628449 r628450 hf628448 ⟨by omega, by omega⟩ bz628552' (by omega) (by omega) (by omega) (by omega) (by omega)) dr_cX17_spill_270 ⟨wr_11_67, wr_1_14, wr_11_70, by decide, rfl, (Nat.le_of_ble_eq_true rfl), (Nat.le_of_ble_eq_true rfl)⟩ wr_11_69 wr_p_111 hm628475 he628476 rfl (rm_gc hph628445 pk628473) (rm_gs hph628445 pk628473) (Nat.le_of_ble_eq_true rfl) (fun r628603 w628604 dc628600 ds628601 hp628602 => ?_) (fun _ _ _ _ _ z => z.elim)
                            obtain ⟨P628615, F628616, γ, el, o628605, rfl, rfl, hk628617, ⟨hr628618, hr628619⟩, hB628620, bo628605, x628606, x628607, x628608, x628609, x628610, x628611, x628612, x628613, x628614⟩ := hp628602
                            have hT628621 := hk628617.1
                            have hs628622 := rSk_tr hs628444 hk628617 (by decide) (by decide) (by decide)
                            have kp628623 : F628616 (γ0 9 3) = F587828 (γ0 9 3) := (rSk_F hk628617 (rSk_k hs628444 k0_3 (by decide) (by decide)) (by decide) (by decide)).trans x628467
                            have kp628624 : F628616 (γ0 9 19) = F622893 (γ0 9 19) := (rSk_F hk628617 (rSk_k hs628444 k0_19 (by decide) (by decide)) (by decide) (by decide)).trans x628459
                            have ht628625 : rKd γ q587829 10 := rSk_k hk628617 ht628470 (by decide) (by decide)
                            have ht628626 : rKd γ q587830 9 := rSk_k hk628617 ht628471 (by decide) (by decide)
                            have hf628627 : γ 1 q587830 = f := rSk_1 hk628617 ht628471 (by decide) hf628472
                            have ht628628 : rKd γ q626303 2 := rSk_k hk628617 ht628447 (by decide) (by decide)
                            have hf628629 : γ 1 q626303 = f := rSk_1 hk628617 ht628447 (by decide) hf628448
                            have ht628630 : rKd γ q628438 1 := rSk_k hk628617 ht628451 (by decide) (by decide)
                            have hf628631 : γ 1 q628438 = f := rSk_1 hk628617 ht628451 (by decide) hf628452
                            have ht628632 : rKd γ q628563 3 := rSk_k hk628617 ht628567 (by decide) (by decide)
                            have hf628633 : γ 1 q628563 = f := rSk_1 hk628617 ht628567 (by decide) hf628576
                            have he628634 : F628616 q628438 = .inr (20, [.int p628526, .int p628527, .int p628528, .int p628529, .int p628530, .int p628531, .int p628532]) := (rSk_F hk628617 ht628451 (by decide) (by decide)).trans he628525
                            have hm628635 : q628438 ∈ P628615 := RS_m hT628621 ht628630 (by decide)
                            clear bp628565 bp628566 r628574 r628575 rg628596 rm628597 bd628598 rc628599
                            have mk628636 : mKp (F587828 q587829) (F628616 q587829) := mKp_tr x628468 x628614
                            have hph628637 : rPh γ0 el0 f ≤ rPh γ el f := rm_ph hph628445 hr628619
                            have pk628638 : rPh γ el f ≤ 387 * B + 6000 := rm_pk (rM_ge hT628621 ht628626 hf628627).1 (rM_bd hB628620)
                            change G _ _ _ _ _ _ _ (.int o628605 :: _) _ _ _
                            refine G_widen (cs' := ((rPh γ el f - rPh γ0 el0 f) / 18)) (sl' := (rPh γ el f - rPh γ0 el0 f)) (rm_wc hph628445 hr628618) (rm_ws hph628445 hr628619) ?_
                            have sz628639 := x628606
                            have r628640 : 0 < γ 6 (γ 1 q587830) := by rw [hf628627]; omega
                            have hm628641 : q587829 ∈ P628615 := RS_m hT628621 ht628625 (by decide)
                            refine rk10_e (show rk_10 γ (F628616 q587829) from RS_o hT628621 ht628625) (fun q628643 q628644 p628645 p628646 p628647 p628648 p628649 p628650 p628651 p628652 p628653 p628654 p628655 p628656 p628657 p628658 p628659 he628642 hB628686 ht628660 ht628661 ht628662 ht628663 ht628664 ht628665 ht628666 ht628667 ht628668 ht628669 ht628670 ht628671 ht628672 ht628673 ht628674 ht628675 ht628676 ht628677 ht628678 ht628679 ht628680 ht628681 ht628682 ht628683 hB628687 => ?_)
                            have ac628688 : (fI (F628616 q587829) 11).toInt = p628647.toInt := by rw [he628642]; rfl
                            have bp628647 : gB p628647 0 100 := (hB628686.2.2.1)
                            have ac628689 : (fI (F628616 q587829) 14).toInt = p628650.toInt := by rw [he628642]; rfl
                            have bp628650 : gB p628650 0 2000 := (hB628686.2.2.2.1)
                            refine G_istore (L' := [(8, .int o628605), (0, .ref q587829), (1, .ref q587830), (2, .int g626162), (3, .ref q626303), (4, .int g628437), (5, .ref q628438), (6, .int g628439), (7, .int g628440)]) dr_cX17_spill_273 (Nat.le_of_ble_eq_true rfl) rfl ?_
                            refine G_iload 0 dr_cX17_spill_275 rfl ?_
                            refine G_if_ge 282 dr_cX17_spill_277 (by decide +kernel) (fun hc628690 => ?_) (fun hc628690 => ?_)
                            · have r628691 : 0 ≤ o628605.toInt := gj_leL hc628690 (show Int32.toInt 0 = 0 by decide)
                              have bo628605' : gB o628605 0 1999 := ⟨by omega, by omega⟩
                              have pl628693 := sp_ld (x628612.resolve_left (by omega)) x628460 (tn_ge (by omega)) (rfl : ((g628437.toInt : Int).toNat + 1) = (g628437.toInt : Int).toNat + 1)
                              have hp628694 : rAt γ el q587830 (g626162.toInt : Int).toNat ((g628437.toInt : Int).toNat + 1) = q628438 := ((x628613.resolve_left (by omega)) (g628437.toInt : Int).toNat (Nat.le_refl _)).trans x628461
                              have r628695 := x628610.resolve_left (by omega)
                              clear x628610 x628612 x628613
                              obtain ⟨z628696, hz628696⟩ : ∃ z : Int32, z = g628437 + Int32.ofInt 1 := ⟨_, rfl⟩
                              have ez628696 : z628696.toInt = g628437.toInt + 1 := gI_inc hz628696 (by decide) bg628437 (by decide) (by decide)
                              have bz628696 : gB z628696 1 1000002 := ⟨by omega, by omega⟩
                              refine G_iinc (L' := [(4, .int z628696), (8, .int o628605), (0, .ref q587829), (1, .ref q587830), (2, .int g626162), (3, .ref q626303), (5, .ref q628438), (6, .int g628439), (7, .int g628440)]) z628696 5 dr_cX17_spill_282 rfl hz628696.symm (Nat.le_of_ble_eq_true rfl) rfl ?_
                              refine G_aload 6 dr_cX17_spill_285 rfl ?_
                              refine G_iload 1 dr_cX17_spill_287 rfl ?_
                              refine Gp_put 3 hm628635 he628634 dr_cX17_spill_289 (gk_X15 D I) (Nat.le_of_ble_eq_true rfl) wr_9_190 rfl rfl rfl (Nat.le_of_ble_eq_true rfl) (fun F628697 e628698 n628699 => ?_)
                              have r628700 := rk1_at hT628621 ht628630 he628634
                              have he628701 : F628697 q587829 = .inr (22, [.ref (γ 9 0), .ref (γ 9 1), .ref (γ 9 2), .ref (γ 9 3), .ref (γ 9 4), .ref (γ 9 5), .ref (γ 9 6), .ref (γ 9 7), .ref (γ 9 8), .int p628645, .int p628646, .int p628647, .int p628648, .int p628649, .int p628650, .ref (γ 9 15), .ref (γ 9 16), .ref (γ 9 17), .ref (γ 9 18), .ref (γ 9 19), .ref (γ 9 20), .ref (γ 9 21), .ref (γ 9 22), .int p628651, .int p628652, .int p628653, .int p628654, .int p628655, .ref q628643, .ref (γ 9 29), .int p628656, .ref (γ 9 31), .int p628657, .int p628658, .int p628659, .ref q628644]) := (n628699 q587829 (rn_oo he628642 he628634 (by decide))).trans he628642
                              have he628702 : F628697 q628438 = .inr (20, [.int p628526, .int p628527, .int p628528, .int o628605, .int p628530, .int p628531, .int p628532]) := e628698
                              have mk628703 : mKp (F587828 q587829) (F628697 q587829) := mKp_tr mk628636 (mKp_eq (n628699 q587829 (rn_ty ht628625 ht628630 (by decide))))
                              have kp628704 : F628697 (γ0 9 3) = F587828 (γ0 9 3) := (n628699 (γ0 9 3) (rn_ty (rSk_k hs628622 k0_3 (by decide) (by decide)) ht628630 (by decide))).trans kp628623
                              have kp628705 : F628697 (γ0 9 19) = F622893 (γ0 9 19) := (n628699 (γ0 9 19) (rn_ty (rSk_k hs628622 k0_19 (by decide) (by decide)) ht628630 (by decide))).trans kp628624
                              have hT628706 : RS D I P628615 F628697 γ el := RS_set hT628621 n628699 ht628630 (by decide) ⟨p628526, p628527, p628528, o628605, p628530, p628531, p628532, he628702, bp628526, bp628527, bp628530, bp628531, bp628532, (gHe r628533), (gHe r628534), (Or.inr bo628605'), r628700.1, r628700.2⟩
                              have hs628708 := rSk_put hs628622 hT628706 n628699 ht628630 (by decide) (by decide)
                              have hm628710 : q626303 ∈ P628615 := RS_m hT628706 ht628628 (by decide)
                              obtain ⟨q628712, q628713, p628714, p628715, he628711, ht628722, ht628716, ht628717, ht628718, ht628719, ht628720, bp628714, bp628715, r628721, r628723, r628724⟩ := show rk_2 γ q626303 (F628697 q626303) from RS_o hT628706 ht628628
                              have hf628725 : γ 1 q628712 = f := (show γ 1 q628712 = γ 1 q626303 from ht628717).trans hf628629
                              have hf628726 : γ 1 q628713 = f := (show γ 1 q628713 = γ 1 q626303 from ht628719).trans hf628629
                              have r628727 : γ 6 (γ 1 q626303) = γ 6 f := by rw [hf628629]
                              have r628728 : γ 7 (γ 1 q626303) = γ 7 f := by rw [hf628629]
                              have r628729 : γ 19 (γ 1 q626303) = γ 19 f := by rw [hf628629]
                              have r628730 := r628721.resolve_left (by omega)
                              clear r628721
                              have r628731 : γ 2 (γ 14 q626303) = γ 2 q628712 := by rw [ht628722.1]
                              have pl628709 := sp_put hT628621 ht628626 hf628627 pl628693 n628699 hp628694 (show (g626162.toInt : Int).toNat < γ 6 f from tn_lt (by omega) (by omega)) (by unfold rwL; rw [x628609.2.2]; exact tn_le1 (by omega) (by omega))
                              have ac628732 : (fI (F628697 q587829) 11).toInt = p628647.toInt := by rw [he628701]; rfl
                              have ac628733 : (fI (F628697 q587829) 14).toInt = p628650.toInt := by rw [he628701]; rfl
                              refine G_lv (L' := [(0, .ref q587829), (1, .ref q587830), (2, .int g626162), (3, .ref q626303), (4, .int z628696), (5, .ref q628438)]) [2, 3, 4, 5, 0, 6] rfl ?_
                              exact jn292_627957 P628615 F628697 γ el z628696 q628438 ⟨by omega, by omega⟩ hT628706 hs628708 hph628637 hB628620 ht628628 hf628629 x628609.2.1 x628609.2.2 ht628630 hf628631 (by omega) (by omega) (by omega) (by omega) (by omega) (by omega) kp628705 (by rw [(show (z628696.toInt : Int).toNat = ((g628437.toInt : Int).toNat + 1) from tn_eq1 (by omega) (by omega))]; exact pl628709) (by rw [(show (z628696.toInt : Int).toNat = ((g628437.toInt : Int).toNat + 1) from tn_eq1 (by omega) (by omega))]; exact hp628694) (rS1_b he628525 he628702 (by omega) x628462) (by omega) (by omega) (ms_j x628465 (by omega) (by omega) (by omega)) (eO_j x628466 (by rw [he628702] <;> rfl) (by rw [he628525] <;> rfl) (by omega)) kp628704 mk628703
                            · have r628734 : o628605.toInt < 0 := gj_nleL hc628690 (show Int32.toInt 0 = 0 by decide)
                              have bo628605' : gB o628605 (-1) (-1) := ⟨by omega, by omega⟩
                              refine G_iconst 0 dr_cX17_spill_280 (by decide +kernel) ?_
                              exact G_zretA FieldType.boolean dr_cX17_spill_281 rfl rfl (rm_zc pk628638) (rm_zs pk628638) ⟨P628615, F628616, γ, el, 0, rfl, rfl, hs628622, (rm_pp hph628637), hB628620, (gB_w (gBl (show Int32.toInt 0 = 0 by decide)) (by decide) (by decide)), (by have qa0 : Int32.toInt 0 = 0 := (by decide); omega), (Or.inl (by decide)), kp628623, mk628636⟩
                    refine G_iload 0 dr_cX17_spill_102 rfl ?_
                    refine G_aload_n 1 dr_cX17_spill_104 rfl ?_
                    refine Gp_get 0 hm627885 he627886 dr_cX17_spill_105 (gk_X12 D I) (Nat.le_of_ble_eq_true rfl) wr_9_220 rfl ?_
                    refine Gw_callV (As := []) (gV_ok D I) (cp_7_ArrayList_size l hl0 D I P627808 F627809 q627887 p627909 q627911 p627910 hm627907 he627908 (gB_w bp627910 (by decide) (by decide))) dr_cX17_spill_108 ⟨wr_10_200, wr_1_18, wr_9_160, by decide, rfl, (Nat.le_of_ble_eq_true rfl), (Nat.le_of_ble_eq_true rfl)⟩ wr_9_158 wr_9_159 hm627907 he627908 rfl (rm_zc pk627834) (rm_zs pk627834) (Nat.le_of_ble_eq_true rfl) (fun r628738 w628739 dc628735 ds628736 hp628737 => ?_) (fun _ _ _ _ _ z => z.elim)
                    obtain ⟨rfl, rfl, hdc, hds⟩ := hp628737
                    change G _ _ _ _ _ _ _ (.int p627910 :: _) _ _ _
                    refine G_widen (cs' := ((rPh γ el f - rPh γ0 el0 f) / 18)) (sl' := (rPh γ el f - rPh γ0 el0 f)) (rm_d0 hdc) (rm_d0 hds) ?_
                    refine G_icmp_ge 129 dr_cX17_spill_111 (by decide +kernel) (fun hc628740 => ?_) (fun hc628740 => ?_)
                    · have r628741 : p627910.toInt ≤ g627807.toInt := gC_le hc628740
                      refine G_aload_n 1 dr_cX17_spill_129 rfl ?_
                      refine Gp_get 1 hm627885 he627886 dr_cX17_spill_130 (gk_X12 D I) (Nat.le_of_ble_eq_true rfl) wr_9_223 rfl ?_
                      have fl628744 : p627910.toInt = γ 2 q627887 := r627912
                      have hp628742 : rAt γ el q587830 (g626162.toInt : Int).toNat (g627807.toInt : Int).toNat = q627888 := (rAt_e r627817 ht627897.1 (by omega)).trans ht627897.2.1
                      have hL628743 : (g627807.toInt : Int).toNat ≤ γ 2 (rwL γ el q587830 (g626162.toInt : Int).toNat) := by unfold rwL; rw [r627817, ht627897.1]; exact tn_le0 (by omega) (by omega)
                      have hm628745 : q627888 ∈ P627808 := RS_m hT627810 ht627893 (by decide)
                      obtain ⟨p628747, p628748, p628749, p628750, p628751, p628752, p628753, he628746, bp628747, bp628748, bp628751, bp628752, bp628753, r628754, r628755, r628756, r628757, r628758⟩ := show rk_1 γ q627888 (F627809 q627888) from RS_o hT627810 ht627893
                      have bp628749 := gB_any p628749
                      have bp628750 := gB_any p628750
                      replace r628754 : gH _ := r628754
                      replace r628755 : gH _ := r628755
                      replace r628756 : gH _ := r628756
                      replace r628757 : gH _ := r628757
                      replace r628758 : gH _ := r628758
                      have r628759 : γ 7 (γ 1 q627888) = γ 7 f := by rw [hf627901]
                      have pl628760 := sp_hd x627825 hp628742 (show (g626162.toInt : Int).toNat < γ 6 f from tn_lt (by omega) (by omega)) hL628743
                      refine G_astore (L' := [(5, .ref q627888), (4, .int g627807), (3, .ref q626303), (2, .int g626162), (0, .ref q587829), (1, .ref q587830)]) dr_cX17_spill_133 (Nat.le_of_ble_eq_true rfl) rfl ?_
                      refine G_aload 0 dr_cX17_spill_135 rfl ?_
                      refine Gw_callV (As := []) (gV_ok D I) (cp_407955_Row_usesA l hl0 D I P627808 F627809 q627888 p628747 p628748 p628749 p628750 p628751 p628752 p628753 hm628745 he628746 bp628747 bp628748 bp628751 bp628752 bp628753) dr_cX17_spill_137 ⟨wr_10_192, wr_1_39, wr_10_195, by decide, rfl, (Nat.le_of_ble_eq_true rfl), (Nat.le_of_ble_eq_true rfl)⟩ wr_10_193 wr_10_194 hm628745 he628746 rfl (rm_zc pk627834) (rm_zs pk627834) (Nat.le_of_ble_eq_true rfl) (fun r628764 w628765 dc628761 ds628762 hp628763 => ?_) (fun _ _ _ _ _ z => z.elim)
                      obtain ⟨o628766, rfl, rfl, hdc, hds, bo628766, x628767, ht628768⟩ := hp628763
                      change G _ _ _ _ _ _ _ (.int o628766 :: _) _ _ _
                      refine G_widen (cs' := ((rPh γ el f - rPh γ0 el0 f) / 18)) (sl' := (rPh γ el f - rPh γ0 el0 f)) (rm_d0 hdc) (rm_d0 hds) ?_
                      refine G_if_eq 151 dr_cX17_spill_140 (by decide +kernel) (fun hc628769 => ?_) (fun hc628769 => ?_)
                      · have r628770 : o628766.toInt = 0 := gj_eq hc628769 (show Int32.toInt 0 = 0 by decide)
                        have bo628766' : gB o628766 0 0 := gB_t0 r628770
                        refine G_iconst (-1) dr_cX17_spill_151 (by decide +kernel) ?_
                        refine G_istore (L' := [(6, .int (-1)), (5, .ref q627888), (4, .int g627807), (3, .ref q626303), (2, .int g626162), (0, .ref q587829), (1, .ref q587830)]) dr_cX17_spill_152 (Nat.le_of_ble_eq_true rfl) rfl ?_
                        refine G_aload 1 dr_cX17_spill_154 rfl ?_
                        refine Gw_callV (As := []) (gV_ok D I) (cp_407979_Row_usesB l hl0 D I P627808 F627809 q627888 p628747 p628748 p628749 p628750 p628751 p628752 p628753 hm628745 he628746 bp628747 bp628748 bp628751 bp628752 bp628753) dr_cX17_spill_156 ⟨wr_10_196, wr_1_39, wr_10_199, by decide, rfl, (Nat.le_of_ble_eq_true rfl), (Nat.le_of_ble_eq_true rfl)⟩ wr_10_197 wr_10_198 hm628745 he628746 rfl (rm_zc pk627834) (rm_zs pk627834) (Nat.le_of_ble_eq_true rfl) (fun r628774 w628775 dc628771 ds628772 hp628773 => ?_) (fun _ _ _ _ _ z => z.elim)
                        obtain ⟨o628776, rfl, rfl, hdc, hds, bo628776, x628777, ht628778⟩ := hp628773
                        change G _ _ _ _ _ _ _ (.int o628776 :: _) _ _ _
                        refine G_widen (cs' := ((rPh γ el f - rPh γ0 el0 f) / 18)) (sl' := (rPh γ el f - rPh γ0 el0 f)) (rm_d0 hdc) (rm_d0 hds) ?_
                        refine G_if_eq 170 dr_cX17_spill_159 (by decide +kernel) (fun hc628779 => ?_) (fun hc628779 => ?_)
                        · have r628780 : o628776.toInt = 0 := gj_eq hc628779 (show Int32.toInt 0 = 0 by decide)
                          have bo628776' : gB o628776 0 0 := gB_t0 r628780
                          refine G_iconst (-1) dr_cX17_spill_170 (by decide +kernel) ?_
                          refine G_istore (L' := [(7, .int (-1)), (6, .int (-1)), (5, .ref q627888), (4, .int g627807), (3, .ref q626303), (2, .int g626162), (0, .ref q587829), (1, .ref q587830)]) dr_cX17_spill_171 (Nat.le_of_ble_eq_true rfl) rfl ?_
                          refine G_iload 1 dr_cX17_spill_173 rfl ?_
                          refine G_if_lt 236 dr_cX17_spill_175 (by decide +kernel) (fun _ => ?_) (fun hc => absurd hc (by decide))
                          have ac628781 : (fI (F627809 q587829) 11).toInt = p627842.toInt := by rw [he627837]; rfl
                          have ac628782 : (fI (F627809 q587829) 14).toInt = p627845.toInt := by rw [he627837]; rfl
                          refine G_lv (L' := [(0, .ref q587829), (1, .ref q587830), (2, .int g626162), (3, .ref q626303), (4, .int g627807), (5, .ref q627888), (6, .int (-1)), (7, .int (-1))]) [6, 7, 5, 4, 3, 2, 1, 0] rfl ?_
                          exact jn236_628468 P627808 F627809 γ el g627807 q627888 (-1) (-1) (gB_w bg627807' (by decide) (by decide)) (gB_w (gBl (show Int32.toInt (-1) = (-1) by decide)) (by decide) (by decide)) (gB_w (gBl (show Int32.toInt (-1) = (-1) by decide)) (by decide) (by decide)) hT627810 hs627811 hph627812 hB627813 ht627814 hf627815 r627816 r627817 ht627893 hf627901 (by have qa0 : Int32.toInt (-1) = (-1) := (by decide); omega) (by have qa0 : Int32.toInt (-1) = (-1) := (by decide); omega) (by have qa0 : Int32.toInt (-1) = (-1) := (by decide); omega) (by have qa0 : Int32.toInt (-1) = (-1) := (by decide); omega) (by have qa0 : Int32.toInt (-1) = (-1) := (by decide); omega) (by have qa0 : Int32.toInt (-1) = (-1) := (by decide); omega) x627824 (by exact pl628760.1) (by exact hp628742) (rS1_of he628746 he628746 pl628760.2 (fun h1 h2 h3 h4 => (uA_0 x628767 (by omega) h1 h2 h3 h4).elim) (fun h1 h2 h3 => (uB_0 x628777 (by omega) h1 h2 h3).elim)) (by have qa0 : Int32.toInt (-1) = (-1) := (by decide); omega) (by have qa0 : Int32.toInt (-1) = (-1) := (by decide); omega) (ms_j hm90_627829 (by omega) (by omega) (by omega)) (eO_c (op := p628747.toInt) (by rw [he628746] <;> rfl) (Or.inr ((gHe r628758).resolve_left (fun z => absurd (ht627895.2.symm.trans z) (by decide))))) x627828 x627829
                        · have r628783 : o628776.toInt ≠ 0 := gj_neq hc628779 (show Int32.toInt 0 = 0 by decide)
                          have bo628776' : gB o628776 1 1 := gB_t1 bo628776 r628783
                          refine G_aload 1 dr_cX17_spill_162 rfl ?_
                          refine Gp_get 3 hm628745 he628746 dr_cX17_spill_164 (gk_X15 D I) (Nat.le_of_ble_eq_true rfl) wr_9_190 rfl ?_
                          have rb628784 : gB p628750 0 1999 := (gHe r628756).resolve_left (by have z := (uB_1 x628777 (by omega)).2.2; omega)
                          refine G_goto 171 dr_cX17_spill_167 (by decide +kernel) ?_
                          refine G_istore (L' := [(7, .int p628750), (6, .int (-1)), (5, .ref q627888), (4, .int g627807), (3, .ref q626303), (2, .int g626162), (0, .ref q587829), (1, .ref q587830)]) dr_cX17_spill_171 (Nat.le_of_ble_eq_true rfl) rfl ?_
                          refine G_iload 1 dr_cX17_spill_173 rfl ?_
                          refine G_if_lt 236 dr_cX17_spill_175 (by decide +kernel) (fun _ => ?_) (fun hc => absurd hc (by decide))
                          have ac628785 : (fI (F627809 q587829) 11).toInt = p627842.toInt := by rw [he627837]; rfl
                          have ac628786 : (fI (F627809 q587829) 14).toInt = p627845.toInt := by rw [he627837]; rfl
                          refine G_lv (L' := [(0, .ref q587829), (1, .ref q587830), (2, .int g626162), (3, .ref q626303), (4, .int g627807), (5, .ref q627888), (6, .int (-1)), (7, .int p628750)]) [6, 7, 5, 4, 3, 2, 1, 0] rfl ?_
                          exact jn236_628468 P627808 F627809 γ el g627807 q627888 (-1) p628750 (gB_w bg627807' (by decide) (by decide)) (gB_w (gBl (show Int32.toInt (-1) = (-1) by decide)) (by decide) (by decide)) (gB_w rb628784 (by decide) (by decide)) hT627810 hs627811 hph627812 hB627813 ht627814 hf627815 r627816 r627817 ht627893 hf627901 (by have qa0 : Int32.toInt (-1) = (-1) := (by decide); omega) (by have qa0 : Int32.toInt (-1) = (-1) := (by decide); omega) (by have qa0 : Int32.toInt (-1) = (-1) := (by decide); omega) (by have qa0 : Int32.toInt (-1) = (-1) := (by decide); omega) (by have qa0 : Int32.toInt (-1) = (-1) := (by decide); omega) (by have qa0 : Int32.toInt (-1) = (-1) := (by decide); omega) x627824 (by exact pl628760.1) (by exact hp628742) (rS1_of he628746 he628746 pl628760.2 (fun h1 h2 h3 h4 => (uA_0 x628767 (by omega) h1 h2 h3 h4).elim) (fun _ _ _ => Or.inr ⟨rfl, rfl, by omega, Or.inl (by have qa : Int32.toInt (-1) = -1 := (by decide); omega)⟩)) (by have qa0 : Int32.toInt (-1) = (-1) := (by decide); omega) (by have qa0 : Int32.toInt (-1) = (-1) := (by decide); omega) (ms_j hm90_627829 (by omega) (by omega) (by omega)) (eO_c (op := p628747.toInt) (by rw [he628746] <;> rfl) (Or.inr ((gHe r628758).resolve_left (fun z => absurd (ht627895.2.symm.trans z) (by decide))))) x627828 x627829
                      · have r628787 : o628766.toInt ≠ 0 := gj_neq hc628769 (show Int32.toInt 0 = 0 by decide)
                        have bo628766' : gB o628766 1 1 := gB_t1 bo628766 r628787
                        refine G_aload 0 dr_cX17_spill_143 rfl ?_
                        refine Gp_get 2 hm628745 he628746 dr_cX17_spill_145 (gk_X15 D I) (Nat.le_of_ble_eq_true rfl) wr_9_186 rfl ?_
                        have rb628788 : gB p628749 0 1999 := (gHe r628755).resolve_left (by have z := (uA_1 x628767 (by omega)).2.2.2; omega)
                        refine G_goto 152 dr_cX17_spill_148 (by decide +kernel) ?_
                        refine G_istore (L' := [(6, .int p628749), (5, .ref q627888), (4, .int g627807), (3, .ref q626303), (2, .int g626162), (0, .ref q587829), (1, .ref q587830)]) dr_cX17_spill_152 (Nat.le_of_ble_eq_true rfl) rfl ?_
                        refine G_aload 1 dr_cX17_spill_154 rfl ?_
                        refine Gw_callV (As := []) (gV_ok D I) (cp_407979_Row_usesB l hl0 D I P627808 F627809 q627888 p628747 p628748 p628749 p628750 p628751 p628752 p628753 hm628745 he628746 bp628747 bp628748 bp628751 bp628752 bp628753) dr_cX17_spill_156 ⟨wr_10_196, wr_1_39, wr_10_199, by decide, rfl, (Nat.le_of_ble_eq_true rfl), (Nat.le_of_ble_eq_true rfl)⟩ wr_10_197 wr_10_198 hm628745 he628746 rfl (rm_zc pk627834) (rm_zs pk627834) (Nat.le_of_ble_eq_true rfl) (fun r628792 w628793 dc628789 ds628790 hp628791 => ?_) (fun _ _ _ _ _ z => z.elim)
                        obtain ⟨o628794, rfl, rfl, hdc, hds, bo628794, x628795, ht628796⟩ := hp628791
                        change G _ _ _ _ _ _ _ (.int o628794 :: _) _ _ _
                        refine G_widen (cs' := ((rPh γ el f - rPh γ0 el0 f) / 18)) (sl' := (rPh γ el f - rPh γ0 el0 f)) (rm_d0 hdc) (rm_d0 hds) ?_
                        refine G_if_eq 170 dr_cX17_spill_159 (by decide +kernel) (fun hc628797 => ?_) (fun hc628797 => ?_)
                        · have r628798 : o628794.toInt = 0 := gj_eq hc628797 (show Int32.toInt 0 = 0 by decide)
                          have bo628794' : gB o628794 0 0 := gB_t0 r628798
                          refine G_iconst (-1) dr_cX17_spill_170 (by decide +kernel) ?_
                          refine G_istore (L' := [(7, .int (-1)), (6, .int p628749), (5, .ref q627888), (4, .int g627807), (3, .ref q626303), (2, .int g626162), (0, .ref q587829), (1, .ref q587830)]) dr_cX17_spill_171 (Nat.le_of_ble_eq_true rfl) rfl ?_
                          refine G_iload 1 dr_cX17_spill_173 rfl ?_
                          refine G_if_lt 236 dr_cX17_spill_175 (by decide +kernel) (fun hc => absurd (show False by have := gj_lt hc (show Int32.toInt 0 = 0 by decide); omega) not_false) (fun _ => ?_)
                          refine G_aload_n 6 dr_cX17_spill_178 rfl ?_
                          refine Gp_get 19 hm627836 he627837 dr_cX17_spill_179 (gk_X17 D I) (Nat.le_of_ble_eq_true rfl) wr_7_93 rfl ?_
                          refine G_iload 1 dr_cX17_spill_182 rfl ?_
                          have hm628799 : (γ 9 19) ∈ P627808 := RS_m hT627810 ht627870 (by decide)
                          obtain ⟨f628801, he628800, bf628801⟩ := show rk_21 I (F627809 (γ 9 19)) from RS_o hT627810 ht627870
                          refine Gp_iald 0 hm628799 he628800 dr_cX17_spill_184 rfl (gB_in rb628788 (by decide) (by decide)) (G_nam fun z628802 hz628802 => ?_)
                          have bz628802 : gB z628802 (-1) 1999 := by rw [hz628802]; exact bf628801 _
                          have c9_628803 : cB (F622893 (γ0 9 19)) = f628801 := by rw [← x627824, ← congrFun (rSk_9 hs627811) 19]; exact cB_of he628800
                          have hs628804 : (cB (F622893 (γ0 9 19)) p628749.toInt.toNat).toInt = z628802.toInt := by rw [c9_628803, hz628802]; rfl
                          refine G_if_lt 236 dr_cX17_spill_185 (by decide +kernel) (fun hc628806 => ?_) (fun hc628806 => ?_)
                          · have r628807 : z628802.toInt < 0 := gj_lt hc628806 (show Int32.toInt 0 = 0 by decide)
                            have bz628802' : gB z628802 (-1) (-1) := ⟨by omega, by omega⟩
                            have ac628808 : (fI (F627809 q587829) 11).toInt = p627842.toInt := by rw [he627837]; rfl
                            have ac628809 : (fI (F627809 q587829) 14).toInt = p627845.toInt := by rw [he627837]; rfl
                            refine G_lv (L' := [(0, .ref q587829), (1, .ref q587830), (2, .int g626162), (3, .ref q626303), (4, .int g627807), (5, .ref q627888), (6, .int p628749), (7, .int (-1))]) [6, 7, 5, 4, 3, 2, 1, 0] rfl ?_
                            exact jn236_628468 P627808 F627809 γ el g627807 q627888 p628749 (-1) (gB_w bg627807' (by decide) (by decide)) (gB_w rb628788 (by decide) (by decide)) (gB_w (gBl (show Int32.toInt (-1) = (-1) by decide)) (by decide) (by decide)) hT627810 hs627811 hph627812 hB627813 ht627814 hf627815 r627816 r627817 ht627893 hf627901 (by have qa0 : Int32.toInt (-1) = (-1) := (by decide); omega) (by have qa0 : Int32.toInt (-1) = (-1) := (by decide); omega) (by have qa0 : Int32.toInt (-1) = (-1) := (by decide); omega) (by have qa0 : Int32.toInt (-1) = (-1) := (by decide); omega) (by have qa0 : Int32.toInt (-1) = (-1) := (by decide); omega) (by have qa0 : Int32.toInt (-1) = (-1) := (by decide); omega) x627824 (by exact pl628760.1) (by exact hp628742) (rS1_of he628746 he628746 pl628760.2 (fun _ _ _ _ => Or.inr ⟨rfl, by omega⟩) (fun h1 h2 h3 => (uB_0 x628795 (by omega) h1 h2 h3).elim)) (by have qa0 : Int32.toInt (-1) = (-1) := (by decide); omega) (by have qa0 : Int32.toInt (-1) = (-1) := (by decide); omega) (ms_j hm90_627829 (by omega) (by omega) (by omega)) (eO_c (op := p628747.toInt) (by rw [he628746] <;> rfl) (Or.inr ((gHe r628758).resolve_left (fun z => absurd (ht627895.2.symm.trans z) (by decide))))) x627828 x627829
                          · have r628810 : 0 ≤ z628802.toInt := gj_nlt hc628806 (show Int32.toInt 0 = 0 by decide)
                            have bz628802' : gB z628802 0 1999 := ⟨by omega, by omega⟩
                            refine G_aload_n 6 dr_cX17_spill_188 rfl ?_
                            refine G_aload_n 7 dr_cX17_spill_189 rfl ?_
                            refine G_aload_n 4 dr_cX17_spill_190 rfl ?_
                            refine G_iload 3 dr_cX17_spill_191 rfl ?_
                            refine G_aload_n 6 dr_cX17_spill_193 rfl ?_
                            refine Gp_get 19 hm627836 he627837 dr_cX17_spill_194 (gk_X17 D I) (Nat.le_of_ble_eq_true rfl) wr_7_93 rfl ?_
                            refine G_iload 1 dr_cX17_spill_197 rfl ?_
                            refine Gp_iald 0 hm628799 he628800 dr_cX17_spill_199 rfl (gB_in rb628788 (by decide) (by decide)) (G_eqi (y := z628802) hz628802.symm ?_)
                            have r628811 := (spi622978.2.2.2 p628749.toInt.toNat (tn_lt (by omega) (by omega)) (by omega)).2.2
                            have ac628812 : (fI (F627809 q587829) 11).toInt = p627842.toInt := by rw [he627837]; rfl
                            have ac628813 : (fI (F627809 q587829) 14).toInt = p627845.toInt := by rw [he627837]; rfl
                            have rg628814 := rM_ge hT627810 ht627832 hf627833
                            have rm628815 := rM_bd hB627813
                            have bd628816 := rBd_c hT627810 ht627832 hf627833 hB627813
                            have rc628817 := rc_at hT627810 ht627832 hf627833
                            refine Gw_callV (As := [.ref q587830, .ref q626303, .int g627807, .int z628802]) (gV_ok D I) (cg_407593_SpillForgeModel_load l hl0 D I γ el f B P627808 F627809 q587829 q587830 q626303 g627807 z628802 g626162.toInt.toNat hT627810 ht627831 ht627832 ht627814 hf627833 hB627813 hBk r627816 r627817 hf627815 bg627807' bz628802' (by have qa0 : Int32.toInt (-1) = (-1) := (by decide); omega) (by have qa0 : Int32.toInt (-1) = (-1) := (by decide); omega) (by have qa0 : Int32.toInt (-1) = (-1) := (by decide); omega) (by have qa0 : Int32.toInt (-1) = (-1) := (by decide); omega) (by have qa0 : Int32.toInt (-1) = (-1) := (by decide); omega)) dr_cX17_spill_200 ⟨wr_11_67, wr_1_14, wr_11_70, by decide, rfl, (Nat.le_of_ble_eq_true rfl), (Nat.le_of_ble_eq_true rfl)⟩ wr_11_69 wr_p_111 hm627836 he627837 rfl (rm_gc hph627812 pk627834) (rm_gs hph627812 pk627834) (Nat.le_of_ble_eq_true rfl) (fun r628821 w628822 dc628818 ds628819 hp628820 => ?_) (fun _ _ _ _ _ z => z.elim)
                            obtain ⟨P628833, F628834, γ, el, o628823, rfl, rfl, hk628835, ⟨hr628836, hr628837⟩, hB628838, bo628823, x628824, x628825, x628826, x628827, x628828, x628829, x628830, x628831, x628832⟩ := hp628820
                            have hT628839 := hk628835.1
                            have hs628840 := rSk_tr hs627811 hk628835 (by decide) (by decide) (by decide)
                            have kp628841 : F628834 (γ0 9 3) = F587828 (γ0 9 3) := (rSk_F hk628835 (rSk_k hs627811 k0_3 (by decide) (by decide)) (by decide) (by decide)).trans x627828
                            have kp628842 : F628834 (γ0 9 19) = F622893 (γ0 9 19) := (rSk_F hk628835 (rSk_k hs627811 k0_19 (by decide) (by decide)) (by decide) (by decide)).trans x627824
                            have ht628843 : rKd γ q587829 10 := rSk_k hk628835 ht627831 (by decide) (by decide)
                            have ht628844 : rKd γ q587830 9 := rSk_k hk628835 ht627832 (by decide) (by decide)
                            have hf628845 : γ 1 q587830 = f := rSk_1 hk628835 ht627832 (by decide) hf627833
                            have ht628846 : rKd γ q626303 2 := rSk_k hk628835 ht627814 (by decide) (by decide)
                            have hf628847 : γ 1 q626303 = f := rSk_1 hk628835 ht627814 (by decide) hf627815
                            have ht628848 : rKd γ q627887 3 := rSk_k hk628835 ht627891 (by decide) (by decide)
                            have hf628849 : γ 1 q627887 = f := rSk_1 hk628835 ht627891 (by decide) hf627900
                            have ht628850 : rKd γ q627888 1 := rSk_k hk628835 ht627893 (by decide) (by decide)
                            have hf628851 : γ 1 q627888 = f := rSk_1 hk628835 ht627893 (by decide) hf627901
                            have he628852 : F628834 q627888 = .inr (20, [.int p628747, .int p628748, .int p628749, .int p628750, .int p628751, .int p628752, .int p628753]) := (rSk_F hk628835 ht627893 (by decide) (by decide)).trans he628746
                            have hm628853 : q627888 ∈ P628833 := RS_m hT628839 ht628850 (by decide)
                            clear bp627889 bp627890 r627898 r627899 rg628814 rm628815 bd628816 rc628817
                            have mk628854 : mKp (F587828 q587829) (F628834 q587829) := mKp_tr x627829 x628832
                            have hph628855 : rPh γ0 el0 f ≤ rPh γ el f := rm_ph hph627812 hr628837
                            have pk628856 : rPh γ el f ≤ 387 * B + 6000 := rm_pk (rM_ge hT628839 ht628844 hf628845).1 (rM_bd hB628838)
                            change G _ _ _ _ _ _ _ (.int o628823 :: _) _ _ _
                            refine G_widen (cs' := ((rPh γ el f - rPh γ0 el0 f) / 18)) (sl' := (rPh γ el f - rPh γ0 el0 f)) (rm_wc hph627812 hr628836) (rm_ws hph627812 hr628837) ?_
                            have sz628857 := x628824
                            have r628858 : 0 < γ 6 (γ 1 q587830) := by rw [hf628845]; omega
                            have hm628859 : q587829 ∈ P628833 := RS_m hT628839 ht628843 (by decide)
                            refine rk10_e (show rk_10 γ (F628834 q587829) from RS_o hT628839 ht628843) (fun q628861 q628862 p628863 p628864 p628865 p628866 p628867 p628868 p628869 p628870 p628871 p628872 p628873 p628874 p628875 p628876 p628877 he628860 hB628904 ht628878 ht628879 ht628880 ht628881 ht628882 ht628883 ht628884 ht628885 ht628886 ht628887 ht628888 ht628889 ht628890 ht628891 ht628892 ht628893 ht628894 ht628895 ht628896 ht628897 ht628898 ht628899 ht628900 ht628901 hB628905 => ?_)
                            have ac628906 : (fI (F628834 q587829) 11).toInt = p628865.toInt := by rw [he628860]; rfl
                            have bp628865 : gB p628865 0 100 := (hB628904.2.2.1)
                            have ac628907 : (fI (F628834 q587829) 14).toInt = p628868.toInt := by rw [he628860]; rfl
                            have bp628868 : gB p628868 0 2000 := (hB628904.2.2.2.1)
                            refine G_istore (L' := [(8, .int o628823), (7, .int (-1)), (6, .int p628749), (5, .ref q627888), (4, .int g627807), (3, .ref q626303), (2, .int g626162), (0, .ref q587829), (1, .ref q587830)]) dr_cX17_spill_203 (Nat.le_of_ble_eq_true rfl) rfl ?_
                            refine G_iload 0 dr_cX17_spill_205 rfl ?_
                            refine G_if_ge 212 dr_cX17_spill_207 (by decide +kernel) (fun hc628908 => ?_) (fun hc628908 => ?_)
                            · have r628909 : 0 ≤ o628823.toInt := gj_leL hc628908 (show Int32.toInt 0 = 0 by decide)
                              have bo628823' : gB o628823 0 1999 := ⟨by omega, by omega⟩
                              have pl628911 := sp_ld (x628830.resolve_left (by omega)) pl628760.1 (tn_ge (by omega)) (rfl : ((g627807.toInt : Int).toNat + 1) = (g627807.toInt : Int).toNat + 1)
                              have hp628912 : rAt γ el q587830 (g626162.toInt : Int).toNat ((g627807.toInt : Int).toNat + 1) = q627888 := ((x628831.resolve_left (by omega)) (g627807.toInt : Int).toNat (Nat.le_refl _)).trans hp628742
                              have r628913 := x628828.resolve_left (by omega)
                              clear x628828 x628830 x628831
                              obtain ⟨z628914, hz628914⟩ : ∃ z : Int32, z = g627807 + Int32.ofInt 1 := ⟨_, rfl⟩
                              have ez628914 : z628914.toInt = g627807.toInt + 1 := gI_inc hz628914 (by decide) bg627807' (by decide) (by decide)
                              have bz628914 : gB z628914 1 1000001 := ⟨by omega, by omega⟩
                              refine G_iinc (L' := [(4, .int z628914), (8, .int o628823), (7, .int (-1)), (6, .int p628749), (5, .ref q627888), (3, .ref q626303), (2, .int g626162), (0, .ref q587829), (1, .ref q587830)]) z628914 4 dr_cX17_spill_212 rfl hz628914.symm (Nat.le_of_ble_eq_true rfl) rfl ?_
                              refine G_aload 4 dr_cX17_spill_215 rfl ?_
                              refine G_iload 1 dr_cX17_spill_217 rfl ?_
                              refine Gp_put 2 hm628853 he628852 dr_cX17_spill_219 (gk_X15 D I) (Nat.le_of_ble_eq_true rfl) wr_9_186 rfl rfl rfl (Nat.le_of_ble_eq_true rfl) (fun F628915 e628916 n628917 => ?_)
                              have r628918 := rk1_at hT628839 ht628850 he628852
                              have he628919 : F628915 q587829 = .inr (22, [.ref (γ 9 0), .ref (γ 9 1), .ref (γ 9 2), .ref (γ 9 3), .ref (γ 9 4), .ref (γ 9 5), .ref (γ 9 6), .ref (γ 9 7), .ref (γ 9 8), .int p628863, .int p628864, .int p628865, .int p628866, .int p628867, .int p628868, .ref (γ 9 15), .ref (γ 9 16), .ref (γ 9 17), .ref (γ 9 18), .ref (γ 9 19), .ref (γ 9 20), .ref (γ 9 21), .ref (γ 9 22), .int p628869, .int p628870, .int p628871, .int p628872, .int p628873, .ref q628861, .ref (γ 9 29), .int p628874, .ref (γ 9 31), .int p628875, .int p628876, .int p628877, .ref q628862]) := (n628917 q587829 (rn_oo he628860 he628852 (by decide))).trans he628860
                              have he628920 : F628915 q627888 = .inr (20, [.int p628747, .int p628748, .int o628823, .int p628750, .int p628751, .int p628752, .int p628753]) := e628916
                              have mk628921 : mKp (F587828 q587829) (F628915 q587829) := mKp_tr mk628854 (mKp_eq (n628917 q587829 (rn_ty ht628843 ht628850 (by decide))))
                              have kp628922 : F628915 (γ0 9 3) = F587828 (γ0 9 3) := (n628917 (γ0 9 3) (rn_ty (rSk_k hs628840 k0_3 (by decide) (by decide)) ht628850 (by decide))).trans kp628841
                              have kp628923 : F628915 (γ0 9 19) = F622893 (γ0 9 19) := (n628917 (γ0 9 19) (rn_ty (rSk_k hs628840 k0_19 (by decide) (by decide)) ht628850 (by decide))).trans kp628842
                              refine G_iload 2 dr_cX17_spill_222 rfl ?_
                              refine G_iload 3 dr_cX17_spill_224 rfl ?_
                              refine G_icmp_ne 236 dr_cX17_spill_226 (by decide +kernel) (fun _ => ?_) (fun hc => absurd (show False by have := gj_eqL hc (show Int32.toInt (-1) = (-1) by decide); omega) not_false)
                              have hT628924 : RS D I P628833 F628915 γ el := RS_set hT628839 n628917 ht628850 (by decide) ⟨p628747, p628748, o628823, p628750, p628751, p628752, p628753, he628920, bp628747, bp628748, bp628751, bp628752, bp628753, (gHe r628754), (Or.inr bo628823'), (gHe r628756), r628918.1, r628918.2⟩
                              have hs628926 := rSk_put hs628840 hT628924 n628917 ht628850 (by decide) (by decide)
                              have hm628928 : q626303 ∈ P628833 := RS_m hT628924 ht628846 (by decide)
                              obtain ⟨q628930, q628931, p628932, p628933, he628929, ht628940, ht628934, ht628935, ht628936, ht628937, ht628938, bp628932, bp628933, r628939, r628941, r628942⟩ := show rk_2 γ q626303 (F628915 q626303) from RS_o hT628924 ht628846
                              have hf628943 : γ 1 q628930 = f := (show γ 1 q628930 = γ 1 q626303 from ht628935).trans hf628847
                              have hf628944 : γ 1 q628931 = f := (show γ 1 q628931 = γ 1 q626303 from ht628937).trans hf628847
                              have r628945 : γ 6 (γ 1 q626303) = γ 6 f := by rw [hf628847]
                              have r628946 : γ 7 (γ 1 q626303) = γ 7 f := by rw [hf628847]
                              have r628947 : γ 19 (γ 1 q626303) = γ 19 f := by rw [hf628847]
                              have r628948 := r628939.resolve_left (by omega)
                              clear r628939
                              have r628949 : γ 2 (γ 14 q626303) = γ 2 q628930 := by rw [ht628940.1]
                              have pl628927 := sp_put hT628839 ht628844 hf628845 pl628911 n628917 hp628912 (show (g626162.toInt : Int).toNat < γ 6 f from tn_lt (by omega) (by omega)) (by unfold rwL; rw [x628827.2.2]; exact tn_le1 (by omega) (by omega))
                              have ac628950 : (fI (F628915 q587829) 11).toInt = p628865.toInt := by rw [he628919]; rfl
                              have ac628951 : (fI (F628915 q587829) 14).toInt = p628868.toInt := by rw [he628919]; rfl
                              refine G_lv (L' := [(0, .ref q587829), (1, .ref q587830), (2, .int g626162), (3, .ref q626303), (4, .int z628914), (5, .ref q627888), (6, .int p628749), (7, .int (-1))]) [7, 8, 6, 5, 0, 4, 3, 2] rfl ?_
                              exact jn236_628468 P628833 F628915 γ el z628914 q627888 p628749 (-1) (gB_w bz628914 (by decide) (by decide)) (gB_w rb628788 (by decide) (by decide)) (gB_w (gBl (show Int32.toInt (-1) = (-1) by decide)) (by decide) (by decide)) hT628924 hs628926 hph628855 hB628838 ht628846 hf628847 x628827.2.1 x628827.2.2 ht628850 hf628851 (by have qa0 : Int32.toInt (-1) = (-1) := (by decide); omega) (by have qa0 : Int32.toInt (-1) = (-1) := (by decide); omega) (by have qa0 : Int32.toInt (-1) = (-1) := (by decide); omega) (by have qa0 : Int32.toInt (-1) = (-1) := (by decide); omega) (by have qa0 : Int32.toInt (-1) = (-1) := (by decide); omega) (by have qa0 : Int32.toInt (-1) = (-1) := (by decide); omega) kp628923 (by rw [(show (z628914.toInt : Int).toNat = ((g627807.toInt : Int).toNat + 1) from tn_eq1 (by omega) (by omega))]; exact pl628927) (by rw [(show (z628914.toInt : Int).toNat = ((g627807.toInt : Int).toNat + 1) from tn_eq1 (by omega) (by omega))]; exact hp628912) (rS1_of he628746 he628920 pl628760.2 (fun _ _ _ _ => Or.inl (by omega)) (fun h1 h2 h3 => (uB_0 x628795 (by omega) h1 h2 h3).elim)) (by have qa0 : Int32.toInt (-1) = (-1) := (by decide); omega) (by have qa0 : Int32.toInt (-1) = (-1) := (by decide); omega) (ms_j hm90_627829 (by omega) (by omega) (by omega)) (eO_c (op := p628747.toInt) (by rw [he628920] <;> rfl) (Or.inr ((gHe r628758).resolve_left (fun z => absurd (ht627895.2.symm.trans z) (by decide))))) kp628922 mk628921
                            · have r628952 : o628823.toInt < 0 := gj_nleL hc628908 (show Int32.toInt 0 = 0 by decide)
                              have bo628823' : gB o628823 (-1) (-1) := ⟨by omega, by omega⟩
                              refine G_iconst 0 dr_cX17_spill_210 (by decide +kernel) ?_
                              exact G_zretA FieldType.boolean dr_cX17_spill_211 rfl rfl (rm_zc pk628856) (rm_zs pk628856) ⟨P628833, F628834, γ, el, 0, rfl, rfl, hs628840, (rm_pp hph628855), hB628838, (gB_w (gBl (show Int32.toInt 0 = 0 by decide)) (by decide) (by decide)), (by have qa0 : Int32.toInt (-1) = (-1) := (by decide); have qa1 : Int32.toInt 0 = 0 := (by decide); omega), (Or.inl (by decide)), kp628841, mk628854⟩
                        · have r628953 : o628794.toInt ≠ 0 := gj_neq hc628797 (show Int32.toInt 0 = 0 by decide)
                          have bo628794' : gB o628794 1 1 := gB_t1 bo628794 r628953
                          refine G_aload 1 dr_cX17_spill_162 rfl ?_
                          refine Gp_get 3 hm628745 he628746 dr_cX17_spill_164 (gk_X15 D I) (Nat.le_of_ble_eq_true rfl) wr_9_190 rfl ?_
                          have rb628954 : gB p628750 0 1999 := (gHe r628756).resolve_left (by have z := (uB_1 x628795 (by omega)).2.2; omega)
                          refine G_goto 171 dr_cX17_spill_167 (by decide +kernel) ?_
                          refine G_istore (L' := [(7, .int p628750), (6, .int p628749), (5, .ref q627888), (4, .int g627807), (3, .ref q626303), (2, .int g626162), (0, .ref q587829), (1, .ref q587830)]) dr_cX17_spill_171 (Nat.le_of_ble_eq_true rfl) rfl ?_
                          refine G_iload 1 dr_cX17_spill_173 rfl ?_
                          refine G_if_lt 236 dr_cX17_spill_175 (by decide +kernel) (fun hc => absurd (show False by have := gj_lt hc (show Int32.toInt 0 = 0 by decide); omega) not_false) (fun _ => ?_)
                          refine G_aload_n 6 dr_cX17_spill_178 rfl ?_
                          refine Gp_get 19 hm627836 he627837 dr_cX17_spill_179 (gk_X17 D I) (Nat.le_of_ble_eq_true rfl) wr_7_93 rfl ?_
                          refine G_iload 1 dr_cX17_spill_182 rfl ?_
                          have hm628955 : (γ 9 19) ∈ P627808 := RS_m hT627810 ht627870 (by decide)
                          obtain ⟨f628957, he628956, bf628957⟩ := show rk_21 I (F627809 (γ 9 19)) from RS_o hT627810 ht627870
                          refine Gp_iald 0 hm628955 he628956 dr_cX17_spill_184 rfl (gB_in rb628788 (by decide) (by decide)) (G_nam fun z628958 hz628958 => ?_)
                          have bz628958 : gB z628958 (-1) 1999 := by rw [hz628958]; exact bf628957 _
                          have c9_628959 : cB (F622893 (γ0 9 19)) = f628957 := by rw [← x627824, ← congrFun (rSk_9 hs627811) 19]; exact cB_of he628956
                          have hs628960 : (cB (F622893 (γ0 9 19)) p628749.toInt.toNat).toInt = z628958.toInt := by rw [c9_628959, hz628958]; rfl
                          refine G_if_lt 236 dr_cX17_spill_185 (by decide +kernel) (fun hc628962 => ?_) (fun hc628962 => ?_)
                          · have r628963 : z628958.toInt < 0 := gj_lt hc628962 (show Int32.toInt 0 = 0 by decide)
                            have bz628958' : gB z628958 (-1) (-1) := ⟨by omega, by omega⟩
                            have ac628964 : (fI (F627809 q587829) 11).toInt = p627842.toInt := by rw [he627837]; rfl
                            have ac628965 : (fI (F627809 q587829) 14).toInt = p627845.toInt := by rw [he627837]; rfl
                            refine G_lv (L' := [(0, .ref q587829), (1, .ref q587830), (2, .int g626162), (3, .ref q626303), (4, .int g627807), (5, .ref q627888), (6, .int p628749), (7, .int p628750)]) [6, 7, 5, 4, 3, 2, 1, 0] rfl ?_
                            exact jn236_628468 P627808 F627809 γ el g627807 q627888 p628749 p628750 (gB_w bg627807' (by decide) (by decide)) (gB_w rb628788 (by decide) (by decide)) (gB_w rb628954 (by decide) (by decide)) hT627810 hs627811 hph627812 hB627813 ht627814 hf627815 r627816 r627817 ht627893 hf627901 (by omega) (by omega) (by omega) (by omega) (by omega) (by omega) x627824 (by exact pl628760.1) (by exact hp628742) (rS1_of he628746 he628746 pl628760.2 (fun _ _ _ _ => Or.inr ⟨rfl, by omega⟩) (fun _ _ _ => Or.inr ⟨rfl, rfl, by omega, (Classical.em (p628750.toInt = p628749.toInt)).elim (fun e => Or.inr (by rw [e]; omega)) (fun e => Or.inl e)⟩)) (by omega) (by omega) (ms_j hm90_627829 (by omega) (by omega) (by omega)) (eO_c (op := p628747.toInt) (by rw [he628746] <;> rfl) (Or.inr ((gHe r628758).resolve_left (fun z => absurd (ht627895.2.symm.trans z) (by decide))))) x627828 x627829
                          · have r628966 : 0 ≤ z628958.toInt := gj_nlt hc628962 (show Int32.toInt 0 = 0 by decide)
                            have bz628958' : gB z628958 0 1999 := ⟨by omega, by omega⟩
                            refine G_aload_n 6 dr_cX17_spill_188 rfl ?_
                            refine G_aload_n 7 dr_cX17_spill_189 rfl ?_
                            refine G_aload_n 4 dr_cX17_spill_190 rfl ?_
                            refine G_iload 3 dr_cX17_spill_191 rfl ?_
                            refine G_aload_n 6 dr_cX17_spill_193 rfl ?_
                            refine Gp_get 19 hm627836 he627837 dr_cX17_spill_194 (gk_X17 D I) (Nat.le_of_ble_eq_true rfl) wr_7_93 rfl ?_
                            refine G_iload 1 dr_cX17_spill_197 rfl ?_
                            refine Gp_iald 0 hm628955 he628956 dr_cX17_spill_199 rfl (gB_in rb628788 (by decide) (by decide)) (G_eqi (y := z628958) hz628958.symm ?_)
                            have r628967 := (spi622978.2.2.2 p628749.toInt.toNat (tn_lt (by omega) (by omega)) (by omega)).2.2
                            have ac628968 : (fI (F627809 q587829) 11).toInt = p627842.toInt := by rw [he627837]; rfl
                            have ac628969 : (fI (F627809 q587829) 14).toInt = p627845.toInt := by rw [he627837]; rfl
                            have rg628970 := rM_ge hT627810 ht627832 hf627833
                            have rm628971 := rM_bd hB627813
                            have bd628972 := rBd_c hT627810 ht627832 hf627833 hB627813
                            have rc628973 := rc_at hT627810 ht627832 hf627833
                            refine Gw_callV (As := [.ref q587830, .ref q626303, .int g627807, .int z628958]) (gV_ok D I) (cg_407593_SpillForgeModel_load l hl0 D I γ el f B P627808 F627809 q587829 q587830 q626303 g627807 z628958 g626162.toInt.toNat hT627810 ht627831 ht627832 ht627814 hf627833 hB627813 hBk r627816 r627817 hf627815 bg627807' bz628958' (by omega) (by omega) (by omega) (by omega) (by omega)) dr_cX17_spill_200 ⟨wr_11_67, wr_1_14, wr_11_70, by decide, rfl, (Nat.le_of_ble_eq_true rfl), (Nat.le_of_ble_eq_true rfl)⟩ wr_11_69 wr_p_111 hm627836 he627837 rfl (rm_gc hph627812 pk627834) (rm_gs hph627812 pk627834) (Nat.le_of_ble_eq_true rfl) (fun r628977 w628978 dc628974 ds628975 hp628976 => ?_) (fun _ _ _ _ _ z => z.elim)
                            obtain ⟨P628989, F628990, γ, el, o628979, rfl, rfl, hk628991, ⟨hr628992, hr628993⟩, hB628994, bo628979, x628980, x628981, x628982, x628983, x628984, x628985, x628986, x628987, x628988⟩ := hp628976
                            have hT628995 := hk628991.1
                            have hs628996 := rSk_tr hs627811 hk628991 (by decide) (by decide) (by decide)
                            have kp628997 : F628990 (γ0 9 3) = F587828 (γ0 9 3) := (rSk_F hk628991 (rSk_k hs627811 k0_3 (by decide) (by decide)) (by decide) (by decide)).trans x627828
                            have kp628998 : F628990 (γ0 9 19) = F622893 (γ0 9 19) := (rSk_F hk628991 (rSk_k hs627811 k0_19 (by decide) (by decide)) (by decide) (by decide)).trans x627824
                            have ht628999 : rKd γ q587829 10 := rSk_k hk628991 ht627831 (by decide) (by decide)
                            have ht629000 : rKd γ q587830 9 := rSk_k hk628991 ht627832 (by decide) (by decide)
                            have hf629001 : γ 1 q587830 = f := rSk_1 hk628991 ht627832 (by decide) hf627833
                            have ht629002 : rKd γ q626303 2 := rSk_k hk628991 ht627814 (by decide) (by decide)
                            have hf629003 : γ 1 q626303 = f := rSk_1 hk628991 ht627814 (by decide) hf627815
                            have ht629004 : rKd γ q627887 3 := rSk_k hk628991 ht627891 (by decide) (by decide)
                            have hf629005 : γ 1 q627887 = f := rSk_1 hk628991 ht627891 (by decide) hf627900
                            have ht629006 : rKd γ q627888 1 := rSk_k hk628991 ht627893 (by decide) (by decide)
                            have hf629007 : γ 1 q627888 = f := rSk_1 hk628991 ht627893 (by decide) hf627901
                            have he629008 : F628990 q627888 = .inr (20, [.int p628747, .int p628748, .int p628749, .int p628750, .int p628751, .int p628752, .int p628753]) := (rSk_F hk628991 ht627893 (by decide) (by decide)).trans he628746
                            have hm629009 : q627888 ∈ P628989 := RS_m hT628995 ht629006 (by decide)
                            clear bp627889 bp627890 r627898 r627899 rg628970 rm628971 bd628972 rc628973
                            have mk629010 : mKp (F587828 q587829) (F628990 q587829) := mKp_tr x627829 x628988
                            have hph629011 : rPh γ0 el0 f ≤ rPh γ el f := rm_ph hph627812 hr628993
                            have pk629012 : rPh γ el f ≤ 387 * B + 6000 := rm_pk (rM_ge hT628995 ht629000 hf629001).1 (rM_bd hB628994)
                            change G _ _ _ _ _ _ _ (.int o628979 :: _) _ _ _
                            refine G_widen (cs' := ((rPh γ el f - rPh γ0 el0 f) / 18)) (sl' := (rPh γ el f - rPh γ0 el0 f)) (rm_wc hph627812 hr628992) (rm_ws hph627812 hr628993) ?_
                            have sz629013 := x628980
                            have r629014 : 0 < γ 6 (γ 1 q587830) := by rw [hf629001]; omega
                            have hm629015 : q587829 ∈ P628989 := RS_m hT628995 ht628999 (by decide)
                            refine rk10_e (show rk_10 γ (F628990 q587829) from RS_o hT628995 ht628999) (fun q629017 q629018 p629019 p629020 p629021 p629022 p629023 p629024 p629025 p629026 p629027 p629028 p629029 p629030 p629031 p629032 p629033 he629016 hB629060 ht629034 ht629035 ht629036 ht629037 ht629038 ht629039 ht629040 ht629041 ht629042 ht629043 ht629044 ht629045 ht629046 ht629047 ht629048 ht629049 ht629050 ht629051 ht629052 ht629053 ht629054 ht629055 ht629056 ht629057 hB629061 => ?_)
                            have ac629062 : (fI (F628990 q587829) 11).toInt = p629021.toInt := by rw [he629016]; rfl
                            have bp629021 : gB p629021 0 100 := (hB629060.2.2.1)
                            have ac629063 : (fI (F628990 q587829) 14).toInt = p629024.toInt := by rw [he629016]; rfl
                            have bp629024 : gB p629024 0 2000 := (hB629060.2.2.2.1)
                            refine G_istore (L' := [(8, .int o628979), (7, .int p628750), (6, .int p628749), (5, .ref q627888), (4, .int g627807), (3, .ref q626303), (2, .int g626162), (0, .ref q587829), (1, .ref q587830)]) dr_cX17_spill_203 (Nat.le_of_ble_eq_true rfl) rfl ?_
                            refine G_iload 0 dr_cX17_spill_205 rfl ?_
                            refine G_if_ge 212 dr_cX17_spill_207 (by decide +kernel) (fun hc629064 => ?_) (fun hc629064 => ?_)
                            · have r629065 : 0 ≤ o628979.toInt := gj_leL hc629064 (show Int32.toInt 0 = 0 by decide)
                              have bo628979' : gB o628979 0 1999 := ⟨by omega, by omega⟩
                              have pl629067 := sp_ld (x628986.resolve_left (by omega)) pl628760.1 (tn_ge (by omega)) (rfl : ((g627807.toInt : Int).toNat + 1) = (g627807.toInt : Int).toNat + 1)
                              have hp629068 : rAt γ el q587830 (g626162.toInt : Int).toNat ((g627807.toInt : Int).toNat + 1) = q627888 := ((x628987.resolve_left (by omega)) (g627807.toInt : Int).toNat (Nat.le_refl _)).trans hp628742
                              have r629069 := x628984.resolve_left (by omega)
                              clear x628984 x628986 x628987
                              obtain ⟨z629070, hz629070⟩ : ∃ z : Int32, z = g627807 + Int32.ofInt 1 := ⟨_, rfl⟩
                              have ez629070 : z629070.toInt = g627807.toInt + 1 := gI_inc hz629070 (by decide) bg627807' (by decide) (by decide)
                              have bz629070 : gB z629070 1 1000001 := ⟨by omega, by omega⟩
                              refine G_iinc (L' := [(4, .int z629070), (8, .int o628979), (7, .int p628750), (6, .int p628749), (5, .ref q627888), (3, .ref q626303), (2, .int g626162), (0, .ref q587829), (1, .ref q587830)]) z629070 4 dr_cX17_spill_212 rfl hz629070.symm (Nat.le_of_ble_eq_true rfl) rfl ?_
                              refine G_aload 4 dr_cX17_spill_215 rfl ?_
                              refine G_iload 1 dr_cX17_spill_217 rfl ?_
                              refine Gp_put 2 hm629009 he629008 dr_cX17_spill_219 (gk_X15 D I) (Nat.le_of_ble_eq_true rfl) wr_9_186 rfl rfl rfl (Nat.le_of_ble_eq_true rfl) (fun F629071 e629072 n629073 => ?_)
                              have r629074 := rk1_at hT628995 ht629006 he629008
                              have he629075 : F629071 q587829 = .inr (22, [.ref (γ 9 0), .ref (γ 9 1), .ref (γ 9 2), .ref (γ 9 3), .ref (γ 9 4), .ref (γ 9 5), .ref (γ 9 6), .ref (γ 9 7), .ref (γ 9 8), .int p629019, .int p629020, .int p629021, .int p629022, .int p629023, .int p629024, .ref (γ 9 15), .ref (γ 9 16), .ref (γ 9 17), .ref (γ 9 18), .ref (γ 9 19), .ref (γ 9 20), .ref (γ 9 21), .ref (γ 9 22), .int p629025, .int p629026, .int p629027, .int p629028, .int p629029, .ref q629017, .ref (γ 9 29), .int p629030, .ref (γ 9 31), .int p629031, .int p629032, .int p629033, .ref q629018]) := (n629073 q587829 (rn_oo he629016 he629008 (by decide))).trans he629016
                              have he629076 : F629071 q627888 = .inr (20, [.int p628747, .int p628748, .int o628979, .int p628750, .int p628751, .int p628752, .int p628753]) := e629072
                              have mk629077 : mKp (F587828 q587829) (F629071 q587829) := mKp_tr mk629010 (mKp_eq (n629073 q587829 (rn_ty ht628999 ht629006 (by decide))))
                              have kp629078 : F629071 (γ0 9 3) = F587828 (γ0 9 3) := (n629073 (γ0 9 3) (rn_ty (rSk_k hs628996 k0_3 (by decide) (by decide)) ht629006 (by decide))).trans kp628997
                              have kp629079 : F629071 (γ0 9 19) = F622893 (γ0 9 19) := (n629073 (γ0 9 19) (rn_ty (rSk_k hs628996 k0_19 (by decide) (by decide)) ht629006 (by decide))).trans kp628998
                              refine G_iload 2 dr_cX17_spill_222 rfl ?_
                              refine G_iload 3 dr_cX17_spill_224 rfl ?_
                              refine G_icmp_ne 236 dr_cX17_spill_226 (by decide +kernel) (fun hc629080 => ?_) (fun hc629080 => ?_)
                              · have r629081 : p628750.toInt ≠ p628749.toInt := gC_ne hc629080
                                have hT629082 : RS D I P628989 F629071 γ el := RS_set hT628995 n629073 ht629006 (by decide) ⟨p628747, p628748, o628979, p628750, p628751, p628752, p628753, he629076, bp628747, bp628748, bp628751, bp628752, bp628753, (gHe r628754), (Or.inr bo628979'), (gHe r628756), r629074.1, r629074.2⟩
                                have hs629084 := rSk_put hs628996 hT629082 n629073 ht629006 (by decide) (by decide)
                                have hm629086 : q626303 ∈ P628989 := RS_m hT629082 ht629002 (by decide)
                                obtain ⟨q629088, q629089, p629090, p629091, he629087, ht629098, ht629092, ht629093, ht629094, ht629095, ht629096, bp629090, bp629091, r629097, r629099, r629100⟩ := show rk_2 γ q626303 (F629071 q626303) from RS_o hT629082 ht629002
                                have hf629101 : γ 1 q629088 = f := (show γ 1 q629088 = γ 1 q626303 from ht629093).trans hf629003
                                have hf629102 : γ 1 q629089 = f := (show γ 1 q629089 = γ 1 q626303 from ht629095).trans hf629003
                                have r629103 : γ 6 (γ 1 q626303) = γ 6 f := by rw [hf629003]
                                have r629104 : γ 7 (γ 1 q626303) = γ 7 f := by rw [hf629003]
                                have r629105 : γ 19 (γ 1 q626303) = γ 19 f := by rw [hf629003]
                                have r629106 := r629097.resolve_left (by omega)
                                clear r629097
                                have r629107 : γ 2 (γ 14 q626303) = γ 2 q629088 := by rw [ht629098.1]
                                have pl629085 := sp_put hT628995 ht629000 hf629001 pl629067 n629073 hp629068 (show (g626162.toInt : Int).toNat < γ 6 f from tn_lt (by omega) (by omega)) (by unfold rwL; rw [x628983.2.2]; exact tn_le1 (by omega) (by omega))
                                have ac629108 : (fI (F629071 q587829) 11).toInt = p629021.toInt := by rw [he629075]; rfl
                                have ac629109 : (fI (F629071 q587829) 14).toInt = p629024.toInt := by rw [he629075]; rfl
                                refine G_lv (L' := [(0, .ref q587829), (1, .ref q587830), (2, .int g626162), (3, .ref q626303), (4, .int z629070), (5, .ref q627888), (6, .int p628749), (7, .int p628750)]) [7, 8, 6, 5, 0, 4, 3, 2] rfl ?_
                                exact jn236_628468 P628989 F629071 γ el z629070 q627888 p628749 p628750 (gB_w bz629070 (by decide) (by decide)) (gB_w rb628788 (by decide) (by decide)) (gB_w rb628954 (by decide) (by decide)) hT629082 hs629084 hph629011 hB628994 ht629002 hf629003 x628983.2.1 x628983.2.2 ht629006 hf629007 (by omega) (by omega) (by omega) (by omega) (by omega) (by omega) kp629079 (by rw [(show (z629070.toInt : Int).toNat = ((g627807.toInt : Int).toNat + 1) from tn_eq1 (by omega) (by omega))]; exact pl629085) (by rw [(show (z629070.toInt : Int).toNat = ((g627807.toInt : Int).toNat + 1) from tn_eq1 (by omega) (by omega))]; exact hp629068) (rS1_of he628746 he629076 pl628760.2 (fun _ _ _ _ => Or.inl (by omega)) (fun _ _ _ => Or.inr ⟨rfl, rfl, by omega, Or.inl (by omega)⟩)) (by omega) (by omega) (ms_j hm90_627829 (by omega) (by omega) (by omega)) (eO_c (op := p628747.toInt) (by rw [he629076] <;> rfl) (Or.inr ((gHe r628758).resolve_left (fun z => absurd (ht627895.2.symm.trans z) (by decide))))) kp629078 mk629077
                              · have r629110 : p628750.toInt = p628749.toInt := gC_eq hc629080
                                refine G_aload 4 dr_cX17_spill_229 rfl ?_
                                refine G_iload 1 dr_cX17_spill_231 rfl ?_
                                refine Gp_put 3 hm629009 he629076 dr_cX17_spill_233 (gk_X15 D I) (Nat.le_of_ble_eq_true rfl) wr_9_190 rfl rfl rfl (Nat.le_of_ble_eq_true rfl) (fun F629111 e629112 n629113 => ?_)
                                have he629114 : F629111 q587829 = .inr (22, [.ref (γ 9 0), .ref (γ 9 1), .ref (γ 9 2), .ref (γ 9 3), .ref (γ 9 4), .ref (γ 9 5), .ref (γ 9 6), .ref (γ 9 7), .ref (γ 9 8), .int p629019, .int p629020, .int p629021, .int p629022, .int p629023, .int p629024, .ref (γ 9 15), .ref (γ 9 16), .ref (γ 9 17), .ref (γ 9 18), .ref (γ 9 19), .ref (γ 9 20), .ref (γ 9 21), .ref (γ 9 22), .int p629025, .int p629026, .int p629027, .int p629028, .int p629029, .ref q629017, .ref (γ 9 29), .int p629030, .ref (γ 9 31), .int p629031, .int p629032, .int p629033, .ref q629018]) := (n629113 q587829 (rn_oo he629075 he629076 (by decide))).trans he629075
                                have he629115 : F629111 q627888 = .inr (20, [.int p628747, .int p628748, .int o628979, .int o628979, .int p628751, .int p628752, .int p628753]) := e629112
                                have mk629116 : mKp (F587828 q587829) (F629111 q587829) := mKp_tr mk629077 (mKp_eq (n629113 q587829 (rn_ty ht628999 ht629006 (by decide))))
                                have n629117 : ∀ b, b ≠ q627888 → F629111 b = F628990 b := fun b hb => (n629113 b hb).trans (n629073 b hb)
                                have kp629118 : F629111 (γ0 9 3) = F587828 (γ0 9 3) := (n629113 (γ0 9 3) (rn_ty (rSk_k hs628996 k0_3 (by decide) (by decide)) ht629006 (by decide))).trans kp629078
                                have kp629119 : F629111 (γ0 9 19) = F622893 (γ0 9 19) := (n629113 (γ0 9 19) (rn_ty (rSk_k hs628996 k0_19 (by decide) (by decide)) ht629006 (by decide))).trans kp629079
                                have hT629120 : RS D I P628989 F629111 γ el := RS_set hT628995 n629117 ht629006 (by decide) ⟨p628747, p628748, o628979, o628979, p628751, p628752, p628753, he629115, bp628747, bp628748, bp628751, bp628752, bp628753, (gHe r628754), (Or.inr bo628979'), (Or.inr bo628979'), r629074.1, r629074.2⟩
                                have hs629122 := rSk_put hs628996 hT629120 n629117 ht629006 (by decide) (by decide)
                                have hm629124 : q626303 ∈ P628989 := RS_m hT629120 ht629002 (by decide)
                                obtain ⟨q629126, q629127, p629128, p629129, he629125, ht629136, ht629130, ht629131, ht629132, ht629133, ht629134, bp629128, bp629129, r629135, r629137, r629138⟩ := show rk_2 γ q626303 (F629111 q626303) from RS_o hT629120 ht629002
                                have hf629139 : γ 1 q629126 = f := (show γ 1 q629126 = γ 1 q626303 from ht629131).trans hf629003
                                have hf629140 : γ 1 q629127 = f := (show γ 1 q629127 = γ 1 q626303 from ht629133).trans hf629003
                                have r629141 : γ 6 (γ 1 q626303) = γ 6 f := by rw [hf629003]
                                have r629142 : γ 7 (γ 1 q626303) = γ 7 f := by rw [hf629003]
                                have r629143 : γ 19 (γ 1 q626303) = γ 19 f := by rw [hf629003]
                                have r629144 := r629135.resolve_left (by omega)
                                clear r629135
                                have r629145 : γ 2 (γ 14 q626303) = γ 2 q629126 := by rw [ht629136.1]
                                have pl629123 := sp_put hT628995 ht629000 hf629001 pl629067 n629117 hp629068 (show (g626162.toInt : Int).toNat < γ 6 f from tn_lt (by omega) (by omega)) (by unfold rwL; rw [x628983.2.2]; exact tn_le1 (by omega) (by omega))
                                have ac629146 : (fI (F629111 q587829) 11).toInt = p629021.toInt := by rw [he629114]; rfl
                                have ac629147 : (fI (F629111 q587829) 14).toInt = p629024.toInt := by rw [he629114]; rfl
                                refine G_lv (L' := [(0, .ref q587829), (1, .ref q587830), (2, .int g626162), (3, .ref q626303), (4, .int z629070), (5, .ref q627888), (6, .int p628749), (7, .int p628750)]) [7, 8, 6, 5, 0, 4, 3, 2] rfl ?_
                                exact jn236_628468 P628989 F629111 γ el z629070 q627888 p628749 p628750 (gB_w bz629070 (by decide) (by decide)) (gB_w rb628788 (by decide) (by decide)) (gB_w rb628954 (by decide) (by decide)) hT629120 hs629122 hph629011 hB628994 ht629002 hf629003 x628983.2.1 x628983.2.2 ht629006 hf629007 (by omega) (by omega) (by omega) (by omega) (by omega) (by omega) kp629119 (by rw [(show (z629070.toInt : Int).toNat = ((g627807.toInt : Int).toNat + 1) from tn_eq1 (by omega) (by omega))]; exact pl629123) (by rw [(show (z629070.toInt : Int).toNat = ((g627807.toInt : Int).toNat + 1) from tn_eq1 (by omega) (by omega))]; exact hp629068) (rS1_of he628746 he629115 pl628760.2 (fun _ _ _ _ => Or.inl (by omega)) (fun _ _ _ => Or.inl (by omega))) (by omega) (by omega) (ms_j hm90_627829 (by omega) (by omega) (by omega)) (eO_c (op := p628747.toInt) (by rw [he629115] <;> rfl) (Or.inr ((gHe r628758).resolve_left (fun z => absurd (ht627895.2.symm.trans z) (by decide))))) kp629118 mk629116
                            · have r629148 : o628979.toInt < 0 := gj_nleL hc629064 (show Int32.toInt 0 = 0 by decide)
                              have bo628979' : gB o628979 (-1) (-1) := ⟨by omega, by omega⟩
                              refine G_iconst 0 dr_cX17_spill_210 (by decide +kernel) ?_
                              exact G_zretA FieldType.boolean dr_cX17_spill_211 rfl rfl (rm_zc pk629012) (rm_zs pk629012) ⟨P628989, F628990, γ, el, 0, rfl, rfl, hs628996, (rm_pp hph629011), hB628994, (gB_w (gBl (show Int32.toInt 0 = 0 by decide)) (by decide) (by decide)), (by have qa0 : Int32.toInt 0 = 0 := (by decide); omega), (Or.inl (by decide)), kp628997, mk629010⟩
                    · have r629149 : g627807.toInt < p627910.toInt := gC_nle hc628740
                      have bg627807'' : gB g627807 0 999999 := ⟨by omega, by omega⟩
                      have bp627910' : gB p627910 1 1000000 := ⟨by omega, by omega⟩
                      refine G_aload_n 1 dr_cX17_spill_114 rfl ?_
                      refine Gp_get 0 hm627885 he627886 dr_cX17_spill_115 (gk_X12 D I) (Nat.le_of_ble_eq_true rfl) wr_9_220 rfl ?_
                      refine G_iload 0 dr_cX17_spill_118 rfl ?_
                      obtain ⟨r629150, r629151, n629158, f629159, r629152, r629153, r629154, r629155, r629156, r629157⟩ := rLC_n r627914 (by omega)
                      have hm629160 : q627911 ∈ P627808 := RS_m hT627810 r629150 (by decide)
                      obtain ⟨q629161, hx629162⟩ : ∃ x, x = el q627887 g627807.toInt.toNat := ⟨_, rfl⟩
                      have hx629163 : f629159 g627807.toNatClampNeg = some q629161 := (r629156 _ (show g627807.toInt.toNat < γ 2 q627887 by first | assumption | omega)).trans (by rw [hx629162])
                      have ht629164 : rKd γ q629161 1 := by rw [hx629162]; exact (r627915 _ (show g627807.toInt.toNat < γ 2 q627887 by first | assumption | omega)).1
                      have ht629165 : rFm γ q629161 q627887 := by rw [hx629162]; exact (r627915 _ (show g627807.toInt.toNat < γ 2 q627887 by first | assumption | omega)).2.1
                      have hf629166 : γ 1 q629161 = f := (show γ 1 q629161 = γ 1 q627887 from ht629165).trans hf627900
                      refine Gw_callV (As := [.int g627807]) (gV_ok D I) (cp_22_ArrayList_get l hl0 D I P627808 F627809 q627887 q627911 g627807 p627909 p627910 f629159 n629158 q629161 hm627907 hm629160 he627908 r629152 (gB_w bg627807'' (by decide) (by decide)) (gB_w bp627910' (by decide) (by decide)) (by omega) (by omega) (by assumption) (by omega)) dr_cX17_spill_120 ⟨wr_10_201, wr_1_18, wr_10_65, by decide, rfl, (Nat.le_of_ble_eq_true rfl), (Nat.le_of_ble_eq_true rfl)⟩ wr_10_63 wr_10_64 hm627907 he627908 rfl (rm_zc pk627834) (rm_zs pk627834) (Nat.le_of_ble_eq_true rfl) (fun r629170 w629171 dc629167 ds629168 hp629169 => ?_) (fun _ _ _ _ _ z => z.elim)
                      obtain ⟨rfl, rfl, hdc, hds, ht629172⟩ := hp629169
                      change G _ _ _ _ _ _ _ (.ref q629161 :: _) _ _ _
                      refine G_widen (cs' := ((rPh γ el f - rPh γ0 el0 f) / 18)) (sl' := (rPh γ el f - rPh γ0 el0 f)) (rm_d0 hdc) (rm_d0 hds) ?_
                      have hm629173 : q629161 ∈ P627808 := RS_m hT627810 ht629164 (by decide)
                      obtain ⟨p629175, p629176, p629177, p629178, p629179, p629180, p629181, he629174, bp629175, bp629176, bp629179, bp629180, bp629181, r629182, r629183, r629184, r629185, r629186⟩ := show rk_1 γ q629161 (F627809 q629161) from RS_o hT627810 ht629164
                      have bp629177 := gB_any p629177
                      have bp629178 := gB_any p629178
                      replace r629182 : gH _ := r629182
                      replace r629183 : gH _ := r629183
                      replace r629184 : gH _ := r629184
                      replace r629185 : gH _ := r629185
                      replace r629186 : gH _ := r629186
                      have r629187 : γ 7 (γ 1 q629161) = γ 7 f := by rw [hf629166]
                      refine Gp_cast hm629173 he629174 rfl dr_cX17_spill_123 wr_10_202 (gr_cast 1 rfl) ?_
                      refine G_goto 133 dr_cX17_spill_126 (by decide +kernel) ?_
                      have fl629190 : p627910.toInt = γ 2 q627887 := r627912
                      have hp629188 : rAt γ el q587830 (g626162.toInt : Int).toNat (g627807.toInt : Int).toNat = q629161 := (rAt_r r627817 ht627897.1 (by omega)).trans (by rw [hx629162])
                      have hL629189 : (g627807.toInt : Int).toNat ≤ γ 2 (rwL γ el q587830 (g626162.toInt : Int).toNat) := by unfold rwL; rw [r627817, ht627897.1]; exact tn_le0 (by omega) (by omega)
                      have pl629191 := sp_hd x627825 hp629188 (show (g626162.toInt : Int).toNat < γ 6 f from tn_lt (by omega) (by omega)) hL629189
                      refine G_astore (L' := [(5, .ref q629161), (4, .int g627807), (3, .ref q626303), (2, .int g626162), (0, .ref q587829), (1, .ref q587830)]) dr_cX17_spill_133 (Nat.le_of_ble_eq_true rfl) rfl ?_
                      refine G_aload 0 dr_cX17_spill_135 rfl ?_
                      refine Gw_callV (As := []) (gV_ok D I) (cp_407955_Row_usesA l hl0 D I P627808 F627809 q629161 p629175 p629176 p629177 p629178 p629179 p629180 p629181 hm629173 he629174 bp629175 bp629176 bp629179 bp629180 bp629181) dr_cX17_spill_137 ⟨wr_10_192, wr_1_39, wr_10_195, by decide, rfl, (Nat.le_of_ble_eq_true rfl), (Nat.le_of_ble_eq_true rfl)⟩ wr_10_193 wr_10_194 hm629173 he629174 rfl (rm_zc pk627834) (rm_zs pk627834) (Nat.le_of_ble_eq_true rfl) (fun r629195 w629196 dc629192 ds629193 hp629194 => ?_) (fun _ _ _ _ _ z => z.elim)
                      obtain ⟨o629197, rfl, rfl, hdc, hds, bo629197, x629198, ht629199⟩ := hp629194
                      change G _ _ _ _ _ _ _ (.int o629197 :: _) _ _ _
                      refine G_widen (cs' := ((rPh γ el f - rPh γ0 el0 f) / 18)) (sl' := (rPh γ el f - rPh γ0 el0 f)) (rm_d0 hdc) (rm_d0 hds) ?_
                      refine G_if_eq 151 dr_cX17_spill_140 (by decide +kernel) (fun hc629200 => ?_) (fun hc629200 => ?_)
                      · have r629201 : o629197.toInt = 0 := gj_eq hc629200 (show Int32.toInt 0 = 0 by decide)
                        have bo629197' : gB o629197 0 0 := gB_t0 r629201
                        refine G_iconst (-1) dr_cX17_spill_151 (by decide +kernel) ?_
                        refine G_istore (L' := [(6, .int (-1)), (5, .ref q629161), (4, .int g627807), (3, .ref q626303), (2, .int g626162), (0, .ref q587829), (1, .ref q587830)]) dr_cX17_spill_152 (Nat.le_of_ble_eq_true rfl) rfl ?_
                        refine G_aload 1 dr_cX17_spill_154 rfl ?_
                        refine Gw_callV (As := []) (gV_ok D I) (cp_407979_Row_usesB l hl0 D I P627808 F627809 q629161 p629175 p629176 p629177 p629178 p629179 p629180 p629181 hm629173 he629174 bp629175 bp629176 bp629179 bp629180 bp629181) dr_cX17_spill_156 ⟨wr_10_196, wr_1_39, wr_10_199, by decide, rfl, (Nat.le_of_ble_eq_true rfl), (Nat.le_of_ble_eq_true rfl)⟩ wr_10_197 wr_10_198 hm629173 he629174 rfl (rm_zc pk627834) (rm_zs pk627834) (Nat.le_of_ble_eq_true rfl) (fun r629205 w629206 dc629202 ds629203 hp629204 => ?_) (fun _ _ _ _ _ z => z.elim)
                        obtain ⟨o629207, rfl, rfl, hdc, hds, bo629207, x629208, ht629209⟩ := hp629204
                        change G _ _ _ _ _ _ _ (.int o629207 :: _) _ _ _
                        refine G_widen (cs' := ((rPh γ el f - rPh γ0 el0 f) / 18)) (sl' := (rPh γ el f - rPh γ0 el0 f)) (rm_d0 hdc) (rm_d0 hds) ?_
                        refine G_if_eq 170 dr_cX17_spill_159 (by decide +kernel) (fun hc629210 => ?_) (fun hc629210 => ?_)
                        · have r629211 : o629207.toInt = 0 := gj_eq hc629210 (show Int32.toInt 0 = 0 by decide)
                          have bo629207' : gB o629207 0 0 := gB_t0 r629211
                          refine G_iconst (-1) dr_cX17_spill_170 (by decide +kernel) ?_
                          refine G_istore (L' := [(7, .int (-1)), (6, .int (-1)), (5, .ref q629161), (4, .int g627807), (3, .ref q626303), (2, .int g626162), (0, .ref q587829), (1, .ref q587830)]) dr_cX17_spill_171 (Nat.le_of_ble_eq_true rfl) rfl ?_
                          refine G_iload 1 dr_cX17_spill_173 rfl ?_
                          refine G_if_lt 236 dr_cX17_spill_175 (by decide +kernel) (fun _ => ?_) (fun hc => absurd hc (by decide))
                          have ac629212 : (fI (F627809 q587829) 11).toInt = p627842.toInt := by rw [he627837]; rfl
                          have ac629213 : (fI (F627809 q587829) 14).toInt = p627845.toInt := by rw [he627837]; rfl
                          refine G_lv (L' := [(0, .ref q587829), (1, .ref q587830), (2, .int g626162), (3, .ref q626303), (4, .int g627807), (5, .ref q629161), (6, .int (-1)), (7, .int (-1))]) [6, 7, 5, 4, 3, 2, 1, 0] rfl ?_
                          exact jn236_628468 P627808 F627809 γ el g627807 q629161 (-1) (-1) (gB_w bg627807'' (by decide) (by decide)) (gB_w (gBl (show Int32.toInt (-1) = (-1) by decide)) (by decide) (by decide)) (gB_w (gBl (show Int32.toInt (-1) = (-1) by decide)) (by decide) (by decide)) hT627810 hs627811 hph627812 hB627813 ht627814 hf627815 r627816 r627817 ht629164 hf629166 (by have qa0 : Int32.toInt (-1) = (-1) := (by decide); omega) (by have qa0 : Int32.toInt (-1) = (-1) := (by decide); omega) (by have qa0 : Int32.toInt (-1) = (-1) := (by decide); omega) (by have qa0 : Int32.toInt (-1) = (-1) := (by decide); omega) (by have qa0 : Int32.toInt (-1) = (-1) := (by decide); omega) (by have qa0 : Int32.toInt (-1) = (-1) := (by decide); omega) x627824 (by exact pl629191.1) (by exact hp629188) (rS1_of he629174 he629174 pl629191.2 (fun h1 h2 h3 h4 => (uA_0 x629198 (by omega) h1 h2 h3 h4).elim) (fun h1 h2 h3 => (uB_0 x629208 (by omega) h1 h2 h3).elim)) (by have qa0 : Int32.toInt (-1) = (-1) := (by decide); omega) (by have qa0 : Int32.toInt (-1) = (-1) := (by decide); omega) (ms_j hm90_627829 (by omega) (by omega) (by omega)) (eO_l (by omega)) x627828 x627829
                        · have r629214 : o629207.toInt ≠ 0 := gj_neq hc629210 (show Int32.toInt 0 = 0 by decide)
                          have bo629207' : gB o629207 1 1 := gB_t1 bo629207 r629214
                          refine G_aload 1 dr_cX17_spill_162 rfl ?_
                          refine Gp_get 3 hm629173 he629174 dr_cX17_spill_164 (gk_X15 D I) (Nat.le_of_ble_eq_true rfl) wr_9_190 rfl ?_
                          have rb629215 : gB p629178 0 1999 := (gHe r629184).resolve_left (by have z := (uB_1 x629208 (by omega)).2.2; omega)
                          refine G_goto 171 dr_cX17_spill_167 (by decide +kernel) ?_
                          refine G_istore (L' := [(7, .int p629178), (6, .int (-1)), (5, .ref q629161), (4, .int g627807), (3, .ref q626303), (2, .int g626162), (0, .ref q587829), (1, .ref q587830)]) dr_cX17_spill_171 (Nat.le_of_ble_eq_true rfl) rfl ?_
                          refine G_iload 1 dr_cX17_spill_173 rfl ?_
                          refine G_if_lt 236 dr_cX17_spill_175 (by decide +kernel) (fun _ => ?_) (fun hc => absurd hc (by decide))
                          have ac629216 : (fI (F627809 q587829) 11).toInt = p627842.toInt := by rw [he627837]; rfl
                          have ac629217 : (fI (F627809 q587829) 14).toInt = p627845.toInt := by rw [he627837]; rfl
                          refine G_lv (L' := [(0, .ref q587829), (1, .ref q587830), (2, .int g626162), (3, .ref q626303), (4, .int g627807), (5, .ref q629161), (6, .int (-1)), (7, .int p629178)]) [6, 7, 5, 4, 3, 2, 1, 0] rfl ?_
                          exact jn236_628468 P627808 F627809 γ el g627807 q629161 (-1) p629178 (gB_w bg627807'' (by decide) (by decide)) (gB_w (gBl (show Int32.toInt (-1) = (-1) by decide)) (by decide) (by decide)) (gB_w rb629215 (by decide) (by decide)) hT627810 hs627811 hph627812 hB627813 ht627814 hf627815 r627816 r627817 ht629164 hf629166 (by have qa0 : Int32.toInt (-1) = (-1) := (by decide); omega) (by have qa0 : Int32.toInt (-1) = (-1) := (by decide); omega) (by have qa0 : Int32.toInt (-1) = (-1) := (by decide); omega) (by have qa0 : Int32.toInt (-1) = (-1) := (by decide); omega) (by have qa0 : Int32.toInt (-1) = (-1) := (by decide); omega) (by have qa0 : Int32.toInt (-1) = (-1) := (by decide); omega) x627824 (by exact pl629191.1) (by exact hp629188) (rS1_of he629174 he629174 pl629191.2 (fun h1 h2 h3 h4 => (uA_0 x629198 (by omega) h1 h2 h3 h4).elim) (fun _ _ _ => Or.inr ⟨rfl, rfl, by omega, Or.inl (by have qa : Int32.toInt (-1) = -1 := (by decide); omega)⟩)) (by have qa0 : Int32.toInt (-1) = (-1) := (by decide); omega) (by have qa0 : Int32.toInt (-1) = (-1) := (by decide); omega) (ms_j hm90_627829 (by omega) (by omega) (by omega)) (eO_l (by omega)) x627828 x627829
                      · have r629218 : o629197.toInt ≠ 0 := gj_neq hc629200 (show Int32.toInt 0 = 0 by decide)
                        have bo629197' : gB o629197 1 1 := gB_t1 bo629197 r629218
                        refine G_aload 0 dr_cX17_spill_143 rfl ?_
                        refine Gp_get 2 hm629173 he629174 dr_cX17_spill_145 (gk_X15 D I) (Nat.le_of_ble_eq_true rfl) wr_9_186 rfl ?_
                        have rb629219 : gB p629177 0 1999 := (gHe r629183).resolve_left (by have z := (uA_1 x629198 (by omega)).2.2.2; omega)
                        refine G_goto 152 dr_cX17_spill_148 (by decide +kernel) ?_
                        refine G_istore (L' := [(6, .int p629177), (5, .ref q629161), (4, .int g627807), (3, .ref q626303), (2, .int g626162), (0, .ref q587829), (1, .ref q587830)]) dr_cX17_spill_152 (Nat.le_of_ble_eq_true rfl) rfl ?_
                        refine G_aload 1 dr_cX17_spill_154 rfl ?_
                        refine Gw_callV (As := []) (gV_ok D I) (cp_407979_Row_usesB l hl0 D I P627808 F627809 q629161 p629175 p629176 p629177 p629178 p629179 p629180 p629181 hm629173 he629174 bp629175 bp629176 bp629179 bp629180 bp629181) dr_cX17_spill_156 ⟨wr_10_196, wr_1_39, wr_10_199, by decide, rfl, (Nat.le_of_ble_eq_true rfl), (Nat.le_of_ble_eq_true rfl)⟩ wr_10_197 wr_10_198 hm629173 he629174 rfl (rm_zc pk627834) (rm_zs pk627834) (Nat.le_of_ble_eq_true rfl) (fun r629223 w629224 dc629220 ds629221 hp629222 => ?_) (fun _ _ _ _ _ z => z.elim)
                        obtain ⟨o629225, rfl, rfl, hdc, hds, bo629225, x629226, ht629227⟩ := hp629222
                        change G _ _ _ _ _ _ _ (.int o629225 :: _) _ _ _
                        refine G_widen (cs' := ((rPh γ el f - rPh γ0 el0 f) / 18)) (sl' := (rPh γ el f - rPh γ0 el0 f)) (rm_d0 hdc) (rm_d0 hds) ?_
                        refine G_if_eq 170 dr_cX17_spill_159 (by decide +kernel) (fun hc629228 => ?_) (fun hc629228 => ?_)
                        · have r629229 : o629225.toInt = 0 := gj_eq hc629228 (show Int32.toInt 0 = 0 by decide)
                          have bo629225' : gB o629225 0 0 := gB_t0 r629229
                          refine G_iconst (-1) dr_cX17_spill_170 (by decide +kernel) ?_
                          refine G_istore (L' := [(7, .int (-1)), (6, .int p629177), (5, .ref q629161), (4, .int g627807), (3, .ref q626303), (2, .int g626162), (0, .ref q587829), (1, .ref q587830)]) dr_cX17_spill_171 (Nat.le_of_ble_eq_true rfl) rfl ?_
                          refine G_iload 1 dr_cX17_spill_173 rfl ?_
                          refine G_if_lt 236 dr_cX17_spill_175 (by decide +kernel) (fun hc => absurd (show False by have := gj_lt hc (show Int32.toInt 0 = 0 by decide); omega) not_false) (fun _ => ?_)
                          refine G_aload_n 6 dr_cX17_spill_178 rfl ?_
                          refine Gp_get 19 hm627836 he627837 dr_cX17_spill_179 (gk_X17 D I) (Nat.le_of_ble_eq_true rfl) wr_7_93 rfl ?_
                          refine G_iload 1 dr_cX17_spill_182 rfl ?_
                          have hm629230 : (γ 9 19) ∈ P627808 := RS_m hT627810 ht627870 (by decide)
                          obtain ⟨f629232, he629231, bf629232⟩ := show rk_21 I (F627809 (γ 9 19)) from RS_o hT627810 ht627870
                          refine Gp_iald 0 hm629230 he629231 dr_cX17_spill_184 rfl (gB_in rb629219 (by decide) (by decide)) (G_nam fun z629233 hz629233 => ?_)
                          have bz629233 : gB z629233 (-1) 1999 := by rw [hz629233]; exact bf629232 _
                          have c9_629234 : cB (F622893 (γ0 9 19)) = f629232 := by rw [← x627824, ← congrFun (rSk_9 hs627811) 19]; exact cB_of he629231
                          have hs629235 : (cB (F622893 (γ0 9 19)) p629177.toInt.toNat).toInt = z629233.toInt := by rw [c9_629234, hz629233]; rfl
                          refine G_if_lt 236 dr_cX17_spill_185 (by decide +kernel) (fun hc629237 => ?_) (fun hc629237 => ?_)
                          · have r629238 : z629233.toInt < 0 := gj_lt hc629237 (show Int32.toInt 0 = 0 by decide)
                            have bz629233' : gB z629233 (-1) (-1) := ⟨by omega, by omega⟩
                            have ac629239 : (fI (F627809 q587829) 11).toInt = p627842.toInt := by rw [he627837]; rfl
                            have ac629240 : (fI (F627809 q587829) 14).toInt = p627845.toInt := by rw [he627837]; rfl
                            refine G_lv (L' := [(0, .ref q587829), (1, .ref q587830), (2, .int g626162), (3, .ref q626303), (4, .int g627807), (5, .ref q629161), (6, .int p629177), (7, .int (-1))]) [6, 7, 5, 4, 3, 2, 1, 0] rfl ?_
                            exact jn236_628468 P627808 F627809 γ el g627807 q629161 p629177 (-1) (gB_w bg627807'' (by decide) (by decide)) (gB_w rb629219 (by decide) (by decide)) (gB_w (gBl (show Int32.toInt (-1) = (-1) by decide)) (by decide) (by decide)) hT627810 hs627811 hph627812 hB627813 ht627814 hf627815 r627816 r627817 ht629164 hf629166 (by have qa0 : Int32.toInt (-1) = (-1) := (by decide); omega) (by have qa0 : Int32.toInt (-1) = (-1) := (by decide); omega) (by have qa0 : Int32.toInt (-1) = (-1) := (by decide); omega) (by have qa0 : Int32.toInt (-1) = (-1) := (by decide); omega) (by have qa0 : Int32.toInt (-1) = (-1) := (by decide); omega) (by have qa0 : Int32.toInt (-1) = (-1) := (by decide); omega) x627824 (by exact pl629191.1) (by exact hp629188) (rS1_of he629174 he629174 pl629191.2 (fun _ _ _ _ => Or.inr ⟨rfl, by omega⟩) (fun h1 h2 h3 => (uB_0 x629226 (by omega) h1 h2 h3).elim)) (by have qa0 : Int32.toInt (-1) = (-1) := (by decide); omega) (by have qa0 : Int32.toInt (-1) = (-1) := (by decide); omega) (ms_j hm90_627829 (by omega) (by omega) (by omega)) (eO_l (by omega)) x627828 x627829
                          · have r629241 : 0 ≤ z629233.toInt := gj_nlt hc629237 (show Int32.toInt 0 = 0 by decide)
                            have bz629233' : gB z629233 0 1999 := ⟨by omega, by omega⟩
                            refine G_aload_n 6 dr_cX17_spill_188 rfl ?_
                            refine G_aload_n 7 dr_cX17_spill_189 rfl ?_
                            refine G_aload_n 4 dr_cX17_spill_190 rfl ?_
                            refine G_iload 3 dr_cX17_spill_191 rfl ?_
                            refine G_aload_n 6 dr_cX17_spill_193 rfl ?_
                            refine Gp_get 19 hm627836 he627837 dr_cX17_spill_194 (gk_X17 D I) (Nat.le_of_ble_eq_true rfl) wr_7_93 rfl ?_
                            refine G_iload 1 dr_cX17_spill_197 rfl ?_
                            refine Gp_iald 0 hm629230 he629231 dr_cX17_spill_199 rfl (gB_in rb629219 (by decide) (by decide)) (G_eqi (y := z629233) hz629233.symm ?_)
                            have r629242 := (spi622978.2.2.2 p629177.toInt.toNat (tn_lt (by omega) (by omega)) (by omega)).2.2
                            have ac629243 : (fI (F627809 q587829) 11).toInt = p627842.toInt := by rw [he627837]; rfl
                            have ac629244 : (fI (F627809 q587829) 14).toInt = p627845.toInt := by rw [he627837]; rfl
                            have rg629245 := rM_ge hT627810 ht627832 hf627833
                            have rm629246 := rM_bd hB627813
                            have bd629247 := rBd_c hT627810 ht627832 hf627833 hB627813
                            have rc629248 := rc_at hT627810 ht627832 hf627833
                            refine Gw_callV (As := [.ref q587830, .ref q626303, .int g627807, .int z629233]) (gV_ok D I) (cg_407593_SpillForgeModel_load l hl0 D I γ el f B P627808 F627809 q587829 q587830 q626303 g627807 z629233 g626162.toInt.toNat hT627810 ht627831 ht627832 ht627814 hf627833 hB627813 hBk r627816 r627817 hf627815 (gB_w bg627807'' (by decide) (by decide)) bz629233' (by have qa0 : Int32.toInt (-1) = (-1) := (by decide); omega) (by have qa0 : Int32.toInt (-1) = (-1) := (by decide); omega) (by have qa0 : Int32.toInt (-1) = (-1) := (by decide); omega) (by have qa0 : Int32.toInt (-1) = (-1) := (by decide); omega) (by have qa0 : Int32.toInt (-1) = (-1) := (by decide); omega)) dr_cX17_spill_200 ⟨wr_11_67, wr_1_14, wr_11_70, by decide, rfl, (Nat.le_of_ble_eq_true rfl), (Nat.le_of_ble_eq_true rfl)⟩ wr_11_69 wr_p_111 hm627836 he627837 rfl (rm_gc hph627812 pk627834) (rm_gs hph627812 pk627834) (Nat.le_of_ble_eq_true rfl) (fun r629252 w629253 dc629249 ds629250 hp629251 => ?_) (fun _ _ _ _ _ z => z.elim)
                            obtain ⟨P629264, F629265, γ, el, o629254, rfl, rfl, hk629266, ⟨hr629267, hr629268⟩, hB629269, bo629254, x629255, x629256, x629257, x629258, x629259, x629260, x629261, x629262, x629263⟩ := hp629251
                            have hT629270 := hk629266.1
                            have hs629271 := rSk_tr hs627811 hk629266 (by decide) (by decide) (by decide)
                            have kp629272 : F629265 (γ0 9 3) = F587828 (γ0 9 3) := (rSk_F hk629266 (rSk_k hs627811 k0_3 (by decide) (by decide)) (by decide) (by decide)).trans x627828
                            have kp629273 : F629265 (γ0 9 19) = F622893 (γ0 9 19) := (rSk_F hk629266 (rSk_k hs627811 k0_19 (by decide) (by decide)) (by decide) (by decide)).trans x627824
                            have ht629274 : rKd γ q587829 10 := rSk_k hk629266 ht627831 (by decide) (by decide)
                            have ht629275 : rKd γ q587830 9 := rSk_k hk629266 ht627832 (by decide) (by decide)
                            have hf629276 : γ 1 q587830 = f := rSk_1 hk629266 ht627832 (by decide) hf627833
                            have ht629277 : rKd γ q626303 2 := rSk_k hk629266 ht627814 (by decide) (by decide)
                            have hf629278 : γ 1 q626303 = f := rSk_1 hk629266 ht627814 (by decide) hf627815
                            have ht629279 : rKd γ q627887 3 := rSk_k hk629266 ht627891 (by decide) (by decide)
                            have hf629280 : γ 1 q627887 = f := rSk_1 hk629266 ht627891 (by decide) hf627900
                            have ht629281 : rKd γ q629161 1 := rSk_k hk629266 ht629164 (by decide) (by decide)
                            have hf629282 : γ 1 q629161 = f := rSk_1 hk629266 ht629164 (by decide) hf629166
                            have he629283 : F629265 q629161 = .inr (20, [.int p629175, .int p629176, .int p629177, .int p629178, .int p629179, .int p629180, .int p629181]) := (rSk_F hk629266 ht629164 (by decide) (by decide)).trans he629174
                            have hm629284 : q629161 ∈ P629264 := RS_m hT629270 ht629281 (by decide)
                            clear bp627889 bp627890 r627898 r627899 rg629245 rm629246 bd629247 rc629248
                            have mk629285 : mKp (F587828 q587829) (F629265 q587829) := mKp_tr x627829 x629263
                            have hph629286 : rPh γ0 el0 f ≤ rPh γ el f := rm_ph hph627812 hr629268
                            have pk629287 : rPh γ el f ≤ 387 * B + 6000 := rm_pk (rM_ge hT629270 ht629275 hf629276).1 (rM_bd hB629269)
                            change G _ _ _ _ _ _ _ (.int o629254 :: _) _ _ _
                            refine G_widen (cs' := ((rPh γ el f - rPh γ0 el0 f) / 18)) (sl' := (rPh γ el f - rPh γ0 el0 f)) (rm_wc hph627812 hr629267) (rm_ws hph627812 hr629268) ?_
                            have sz629288 := x629255
                            have r629289 : 0 < γ 6 (γ 1 q587830) := by rw [hf629276]; omega
                            have hm629290 : q587829 ∈ P629264 := RS_m hT629270 ht629274 (by decide)
                            refine rk10_e (show rk_10 γ (F629265 q587829) from RS_o hT629270 ht629274) (fun q629292 q629293 p629294 p629295 p629296 p629297 p629298 p629299 p629300 p629301 p629302 p629303 p629304 p629305 p629306 p629307 p629308 he629291 hB629335 ht629309 ht629310 ht629311 ht629312 ht629313 ht629314 ht629315 ht629316 ht629317 ht629318 ht629319 ht629320 ht629321 ht629322 ht629323 ht629324 ht629325 ht629326 ht629327 ht629328 ht629329 ht629330 ht629331 ht629332 hB629336 => ?_)
                            have ac629337 : (fI (F629265 q587829) 11).toInt = p629296.toInt := by rw [he629291]; rfl
                            have bp629296 : gB p629296 0 100 := (hB629335.2.2.1)
                            have ac629338 : (fI (F629265 q587829) 14).toInt = p629299.toInt := by rw [he629291]; rfl
                            have bp629299 : gB p629299 0 2000 := (hB629335.2.2.2.1)
                            refine G_istore (L' := [(8, .int o629254), (7, .int (-1)), (6, .int p629177), (5, .ref q629161), (4, .int g627807), (3, .ref q626303), (2, .int g626162), (0, .ref q587829), (1, .ref q587830)]) dr_cX17_spill_203 (Nat.le_of_ble_eq_true rfl) rfl ?_
                            refine G_iload 0 dr_cX17_spill_205 rfl ?_
                            refine G_if_ge 212 dr_cX17_spill_207 (by decide +kernel) (fun hc629339 => ?_) (fun hc629339 => ?_)
                            · have r629340 : 0 ≤ o629254.toInt := gj_leL hc629339 (show Int32.toInt 0 = 0 by decide)
                              have bo629254' : gB o629254 0 1999 := ⟨by omega, by omega⟩
                              have pl629342 := sp_ld (x629261.resolve_left (by omega)) pl629191.1 (tn_ge (by omega)) (rfl : ((g627807.toInt : Int).toNat + 1) = (g627807.toInt : Int).toNat + 1)
                              have hp629343 : rAt γ el q587830 (g626162.toInt : Int).toNat ((g627807.toInt : Int).toNat + 1) = q629161 := ((x629262.resolve_left (by omega)) (g627807.toInt : Int).toNat (Nat.le_refl _)).trans hp629188
                              have r629344 := x629259.resolve_left (by omega)
                              clear x629259 x629261 x629262
                              obtain ⟨z629345, hz629345⟩ : ∃ z : Int32, z = g627807 + Int32.ofInt 1 := ⟨_, rfl⟩
                              have ez629345 : z629345.toInt = g627807.toInt + 1 := gI_inc hz629345 (by decide) bg627807'' (by decide) (by decide)
                              have bz629345 : gB z629345 1 1000000 := ⟨by omega, by omega⟩
                              refine G_iinc (L' := [(4, .int z629345), (8, .int o629254), (7, .int (-1)), (6, .int p629177), (5, .ref q629161), (3, .ref q626303), (2, .int g626162), (0, .ref q587829), (1, .ref q587830)]) z629345 4 dr_cX17_spill_212 rfl hz629345.symm (Nat.le_of_ble_eq_true rfl) rfl ?_
                              refine G_aload 4 dr_cX17_spill_215 rfl ?_
                              refine G_iload 1 dr_cX17_spill_217 rfl ?_
                              refine Gp_put 2 hm629284 he629283 dr_cX17_spill_219 (gk_X15 D I) (Nat.le_of_ble_eq_true rfl) wr_9_186 rfl rfl rfl (Nat.le_of_ble_eq_true rfl) (fun F629346 e629347 n629348 => ?_)
                              have r629349 := rk1_at hT629270 ht629281 he629283
                              have he629350 : F629346 q587829 = .inr (22, [.ref (γ 9 0), .ref (γ 9 1), .ref (γ 9 2), .ref (γ 9 3), .ref (γ 9 4), .ref (γ 9 5), .ref (γ 9 6), .ref (γ 9 7), .ref (γ 9 8), .int p629294, .int p629295, .int p629296, .int p629297, .int p629298, .int p629299, .ref (γ 9 15), .ref (γ 9 16), .ref (γ 9 17), .ref (γ 9 18), .ref (γ 9 19), .ref (γ 9 20), .ref (γ 9 21), .ref (γ 9 22), .int p629300, .int p629301, .int p629302, .int p629303, .int p629304, .ref q629292, .ref (γ 9 29), .int p629305, .ref (γ 9 31), .int p629306, .int p629307, .int p629308, .ref q629293]) := (n629348 q587829 (rn_oo he629291 he629283 (by decide))).trans he629291
                              have he629351 : F629346 q629161 = .inr (20, [.int p629175, .int p629176, .int o629254, .int p629178, .int p629179, .int p629180, .int p629181]) := e629347
                              have mk629352 : mKp (F587828 q587829) (F629346 q587829) := mKp_tr mk629285 (mKp_eq (n629348 q587829 (rn_ty ht629274 ht629281 (by decide))))
                              have kp629353 : F629346 (γ0 9 3) = F587828 (γ0 9 3) := (n629348 (γ0 9 3) (rn_ty (rSk_k hs629271 k0_3 (by decide) (by decide)) ht629281 (by decide))).trans kp629272
                              have kp629354 : F629346 (γ0 9 19) = F622893 (γ0 9 19) := (n629348 (γ0 9 19) (rn_ty (rSk_k hs629271 k0_19 (by decide) (by decide)) ht629281 (by decide))).trans kp629273
                              refine G_iload 2 dr_cX17_spill_222 rfl ?_
                              refine G_iload 3 dr_cX17_spill_224 rfl ?_
                              refine G_icmp_ne 236 dr_cX17_spill_226 (by decide +kernel) (fun _ => ?_) (fun hc => absurd (show False by have := gj_eqL hc (show Int32.toInt (-1) = (-1) by decide); omega) not_false)
                              have hT629355 : RS D I P629264 F629346 γ el := RS_set hT629270 n629348 ht629281 (by decide) ⟨p629175, p629176, o629254, p629178, p629179, p629180, p629181, he629351, bp629175, bp629176, bp629179, bp629180, bp629181, (gHe r629182), (Or.inr bo629254'), (gHe r629184), r629349.1, r629349.2⟩
                              have hs629357 := rSk_put hs629271 hT629355 n629348 ht629281 (by decide) (by decide)
                              have hm629359 : q626303 ∈ P629264 := RS_m hT629355 ht629277 (by decide)
                              obtain ⟨q629361, q629362, p629363, p629364, he629360, ht629371, ht629365, ht629366, ht629367, ht629368, ht629369, bp629363, bp629364, r629370, r629372, r629373⟩ := show rk_2 γ q626303 (F629346 q626303) from RS_o hT629355 ht629277
                              have hf629374 : γ 1 q629361 = f := (show γ 1 q629361 = γ 1 q626303 from ht629366).trans hf629278
                              have hf629375 : γ 1 q629362 = f := (show γ 1 q629362 = γ 1 q626303 from ht629368).trans hf629278
                              have r629376 : γ 6 (γ 1 q626303) = γ 6 f := by rw [hf629278]
                              have r629377 : γ 7 (γ 1 q626303) = γ 7 f := by rw [hf629278]
                              have r629378 : γ 19 (γ 1 q626303) = γ 19 f := by rw [hf629278]
                              have r629379 := r629370.resolve_left (by omega)
                              clear r629370
                              have r629380 : γ 2 (γ 14 q626303) = γ 2 q629361 := by rw [ht629371.1]
                              have pl629358 := sp_put hT629270 ht629275 hf629276 pl629342 n629348 hp629343 (show (g626162.toInt : Int).toNat < γ 6 f from tn_lt (by omega) (by omega)) (by unfold rwL; rw [x629258.2.2]; exact tn_le1 (by omega) (by omega))
                              have ac629381 : (fI (F629346 q587829) 11).toInt = p629296.toInt := by rw [he629350]; rfl
                              have ac629382 : (fI (F629346 q587829) 14).toInt = p629299.toInt := by rw [he629350]; rfl
                              refine G_lv (L' := [(0, .ref q587829), (1, .ref q587830), (2, .int g626162), (3, .ref q626303), (4, .int z629345), (5, .ref q629161), (6, .int p629177), (7, .int (-1))]) [7, 8, 6, 5, 0, 4, 3, 2] rfl ?_
                              exact jn236_628468 P629264 F629346 γ el z629345 q629161 p629177 (-1) (gB_w bz629345 (by decide) (by decide)) (gB_w rb629219 (by decide) (by decide)) (gB_w (gBl (show Int32.toInt (-1) = (-1) by decide)) (by decide) (by decide)) hT629355 hs629357 hph629286 hB629269 ht629277 hf629278 x629258.2.1 x629258.2.2 ht629281 hf629282 (by have qa0 : Int32.toInt (-1) = (-1) := (by decide); omega) (by have qa0 : Int32.toInt (-1) = (-1) := (by decide); omega) (by have qa0 : Int32.toInt (-1) = (-1) := (by decide); omega) (by have qa0 : Int32.toInt (-1) = (-1) := (by decide); omega) (by have qa0 : Int32.toInt (-1) = (-1) := (by decide); omega) (by have qa0 : Int32.toInt (-1) = (-1) := (by decide); omega) kp629354 (by rw [(show (z629345.toInt : Int).toNat = ((g627807.toInt : Int).toNat + 1) from tn_eq1 (by omega) (by omega))]; exact pl629358) (by rw [(show (z629345.toInt : Int).toNat = ((g627807.toInt : Int).toNat + 1) from tn_eq1 (by omega) (by omega))]; exact hp629343) (rS1_of he629174 he629351 pl629191.2 (fun _ _ _ _ => Or.inl (by omega)) (fun h1 h2 h3 => (uB_0 x629226 (by omega) h1 h2 h3).elim)) (by have qa0 : Int32.toInt (-1) = (-1) := (by decide); omega) (by have qa0 : Int32.toInt (-1) = (-1) := (by decide); omega) (ms_j hm90_627829 (by omega) (by omega) (by omega)) (eO_l (by omega)) kp629353 mk629352
                            · have r629383 : o629254.toInt < 0 := gj_nleL hc629339 (show Int32.toInt 0 = 0 by decide)
                              have bo629254' : gB o629254 (-1) (-1) := ⟨by omega, by omega⟩
                              refine G_iconst 0 dr_cX17_spill_210 (by decide +kernel) ?_
                              exact G_zretA FieldType.boolean dr_cX17_spill_211 rfl rfl (rm_zc pk629287) (rm_zs pk629287) ⟨P629264, F629265, γ, el, 0, rfl, rfl, hs629271, (rm_pp hph629286), hB629269, (gB_w (gBl (show Int32.toInt 0 = 0 by decide)) (by decide) (by decide)), (by have qa0 : Int32.toInt (-1) = (-1) := (by decide); have qa1 : Int32.toInt 0 = 0 := (by decide); omega), (Or.inl (by decide)), kp629272, mk629285⟩
                        · have r629384 : o629225.toInt ≠ 0 := gj_neq hc629228 (show Int32.toInt 0 = 0 by decide)
                          have bo629225' : gB o629225 1 1 := gB_t1 bo629225 r629384
                          refine G_aload 1 dr_cX17_spill_162 rfl ?_
                          refine Gp_get 3 hm629173 he629174 dr_cX17_spill_164 (gk_X15 D I) (Nat.le_of_ble_eq_true rfl) wr_9_190 rfl ?_
                          have rb629385 : gB p629178 0 1999 := (gHe r629184).resolve_left (by have z := (uB_1 x629226 (by omega)).2.2; omega)
                          refine G_goto 171 dr_cX17_spill_167 (by decide +kernel) ?_
                          refine G_istore (L' := [(7, .int p629178), (6, .int p629177), (5, .ref q629161), (4, .int g627807), (3, .ref q626303), (2, .int g626162), (0, .ref q587829), (1, .ref q587830)]) dr_cX17_spill_171 (Nat.le_of_ble_eq_true rfl) rfl ?_
                          refine G_iload 1 dr_cX17_spill_173 rfl ?_
                          refine G_if_lt 236 dr_cX17_spill_175 (by decide +kernel) (fun hc => absurd (show False by have := gj_lt hc (show Int32.toInt 0 = 0 by decide); omega) not_false) (fun _ => ?_)
                          refine G_aload_n 6 dr_cX17_spill_178 rfl ?_
                          refine Gp_get 19 hm627836 he627837 dr_cX17_spill_179 (gk_X17 D I) (Nat.le_of_ble_eq_true rfl) wr_7_93 rfl ?_
                          refine G_iload 1 dr_cX17_spill_182 rfl ?_
                          have hm629386 : (γ 9 19) ∈ P627808 := RS_m hT627810 ht627870 (by decide)
                          obtain ⟨f629388, he629387, bf629388⟩ := show rk_21 I (F627809 (γ 9 19)) from RS_o hT627810 ht627870
                          refine Gp_iald 0 hm629386 he629387 dr_cX17_spill_184 rfl (gB_in rb629219 (by decide) (by decide)) (G_nam fun z629389 hz629389 => ?_)
                          have bz629389 : gB z629389 (-1) 1999 := by rw [hz629389]; exact bf629388 _
                          have c9_629390 : cB (F622893 (γ0 9 19)) = f629388 := by rw [← x627824, ← congrFun (rSk_9 hs627811) 19]; exact cB_of he629387
                          have hs629391 : (cB (F622893 (γ0 9 19)) p629177.toInt.toNat).toInt = z629389.toInt := by rw [c9_629390, hz629389]; rfl
                          refine G_if_lt 236 dr_cX17_spill_185 (by decide +kernel) (fun hc629393 => ?_) (fun hc629393 => ?_)
                          · have r629394 : z629389.toInt < 0 := gj_lt hc629393 (show Int32.toInt 0 = 0 by decide)
                            have bz629389' : gB z629389 (-1) (-1) := ⟨by omega, by omega⟩
                            have ac629395 : (fI (F627809 q587829) 11).toInt = p627842.toInt := by rw [he627837]; rfl
                            have ac629396 : (fI (F627809 q587829) 14).toInt = p627845.toInt := by rw [he627837]; rfl
                            refine G_lv (L' := [(0, .ref q587829), (1, .ref q587830), (2, .int g626162), (3, .ref q626303), (4, .int g627807), (5, .ref q629161), (6, .int p629177), (7, .int p629178)]) [6, 7, 5, 4, 3, 2, 1, 0] rfl ?_
                            exact jn236_628468 P627808 F627809 γ el g627807 q629161 p629177 p629178 (gB_w bg627807'' (by decide) (by decide)) (gB_w rb629219 (by decide) (by decide)) (gB_w rb629385 (by decide) (by decide)) hT627810 hs627811 hph627812 hB627813 ht627814 hf627815 r627816 r627817 ht629164 hf629166 (by omega) (by omega) (by omega) (by omega) (by omega) (by omega) x627824 (by exact pl629191.1) (by exact hp629188) (rS1_of he629174 he629174 pl629191.2 (fun _ _ _ _ => Or.inr ⟨rfl, by omega⟩) (fun _ _ _ => Or.inr ⟨rfl, rfl, by omega, (Classical.em (p629178.toInt = p629177.toInt)).elim (fun e => Or.inr (by rw [e]; omega)) (fun e => Or.inl e)⟩)) (by omega) (by omega) (ms_j hm90_627829 (by omega) (by omega) (by omega)) (eO_l (by omega)) x627828 x627829
                          · have r629397 : 0 ≤ z629389.toInt := gj_nlt hc629393 (show Int32.toInt 0 = 0 by decide)
                            have bz629389' : gB z629389 0 1999 := ⟨by omega, by omega⟩
                            refine G_aload_n 6 dr_cX17_spill_188 rfl ?_
                            refine G_aload_n 7 dr_cX17_spill_189 rfl ?_
                            refine G_aload_n 4 dr_cX17_spill_190 rfl ?_
                            refine G_iload 3 dr_cX17_spill_191 rfl ?_
                            refine G_aload_n 6 dr_cX17_spill_193 rfl ?_
                            refine Gp_get 19 hm627836 he627837 dr_cX17_spill_194 (gk_X17 D I) (Nat.le_of_ble_eq_true rfl) wr_7_93 rfl ?_
                            refine G_iload 1 dr_cX17_spill_197 rfl ?_
                            refine Gp_iald 0 hm629386 he629387 dr_cX17_spill_199 rfl (gB_in rb629219 (by decide) (by decide)) (G_eqi (y := z629389) hz629389.symm ?_)
                            have r629398 := (spi622978.2.2.2 p629177.toInt.toNat (tn_lt (by omega) (by omega)) (by omega)).2.2
                            have ac629399 : (fI (F627809 q587829) 11).toInt = p627842.toInt := by rw [he627837]; rfl
                            have ac629400 : (fI (F627809 q587829) 14).toInt = p627845.toInt := by rw [he627837]; rfl
                            have rg629401 := rM_ge hT627810 ht627832 hf627833
                            have rm629402 := rM_bd hB627813
                            have bd629403 := rBd_c hT627810 ht627832 hf627833 hB627813
                            have rc629404 := rc_at hT627810 ht627832 hf627833
                            refine Gw_callV (As := [.ref q587830, .ref q626303, .int g627807, .int z629389]) (gV_ok D I) (cg_407593_SpillForgeModel_load l hl0 D I γ el f B P627808 F627809 q587829 q587830 q626303 g627807 z629389 g626162.toInt.toNat hT627810 ht627831 ht627832 ht627814 hf627833 hB627813 hBk r627816 r627817 hf627815 (gB_w bg627807'' (by decide) (by decide)) bz629389' (by omega) (by omega) (by omega) (by omega) (by omega)) dr_cX17_spill_200 ⟨wr_11_67, wr_1_14, wr_11_70, by decide, rfl, (Nat.le_of_ble_eq_true rfl), (Nat.le_of_ble_eq_true rfl)⟩ wr_11_69 wr_p_111 hm627836 he627837 rfl (rm_gc hph627812 pk627834) (rm_gs hph627812 pk627834) (Nat.le_of_ble_eq_true rfl) (fun r629408 w629409 dc629405 ds629406 hp629407 => ?_) (fun _ _ _ _ _ z => z.elim)
                            obtain ⟨P629420, F629421, γ, el, o629410, rfl, rfl, hk629422, ⟨hr629423, hr629424⟩, hB629425, bo629410, x629411, x629412, x629413, x629414, x629415, x629416, x629417, x629418, x629419⟩ := hp629407
                            have hT629426 := hk629422.1
                            have hs629427 := rSk_tr hs627811 hk629422 (by decide) (by decide) (by decide)
                            have kp629428 : F629421 (γ0 9 3) = F587828 (γ0 9 3) := (rSk_F hk629422 (rSk_k hs627811 k0_3 (by decide) (by decide)) (by decide) (by decide)).trans x627828
                            have kp629429 : F629421 (γ0 9 19) = F622893 (γ0 9 19) := (rSk_F hk629422 (rSk_k hs627811 k0_19 (by decide) (by decide)) (by decide) (by decide)).trans x627824
                            have ht629430 : rKd γ q587829 10 := rSk_k hk629422 ht627831 (by decide) (by decide)
                            have ht629431 : rKd γ q587830 9 := rSk_k hk629422 ht627832 (by decide) (by decide)
                            have hf629432 : γ 1 q587830 = f := rSk_1 hk629422 ht627832 (by decide) hf627833
                            have ht629433 : rKd γ q626303 2 := rSk_k hk629422 ht627814 (by decide) (by decide)
                            have hf629434 : γ 1 q626303 = f := rSk_1 hk629422 ht627814 (by decide) hf627815
                            have ht629435 : rKd γ q627887 3 := rSk_k hk629422 ht627891 (by decide) (by decide)
                            have hf629436 : γ 1 q627887 = f := rSk_1 hk629422 ht627891 (by decide) hf627900
                            have ht629437 : rKd γ q629161 1 := rSk_k hk629422 ht629164 (by decide) (by decide)
                            have hf629438 : γ 1 q629161 = f := rSk_1 hk629422 ht629164 (by decide) hf629166
                            have he629439 : F629421 q629161 = .inr (20, [.int p629175, .int p629176, .int p629177, .int p629178, .int p629179, .int p629180, .int p629181]) := (rSk_F hk629422 ht629164 (by decide) (by decide)).trans he629174
                            have hm629440 : q629161 ∈ P629420 := RS_m hT629426 ht629437 (by decide)
                            clear bp627889 bp627890 r627898 r627899 rg629401 rm629402 bd629403 rc629404
                            have mk629441 : mKp (F587828 q587829) (F629421 q587829) := mKp_tr x627829 x629419
                            have hph629442 : rPh γ0 el0 f ≤ rPh γ el f := rm_ph hph627812 hr629424
                            have pk629443 : rPh γ el f ≤ 387 * B + 6000 := rm_pk (rM_ge hT629426 ht629431 hf629432).1 (rM_bd hB629425)
                            change G _ _ _ _ _ _ _ (.int o629410 :: _) _ _ _
                            refine G_widen (cs' := ((rPh γ el f - rPh γ0 el0 f) / 18)) (sl' := (rPh γ el f - rPh γ0 el0 f)) (rm_wc hph627812 hr629423) (rm_ws hph627812 hr629424) ?_
                            have sz629444 := x629411
                            have r629445 : 0 < γ 6 (γ 1 q587830) := by rw [hf629432]; omega
                            have hm629446 : q587829 ∈ P629420 := RS_m hT629426 ht629430 (by decide)
                            refine rk10_e (show rk_10 γ (F629421 q587829) from RS_o hT629426 ht629430) (fun q629448 q629449 p629450 p629451 p629452 p629453 p629454 p629455 p629456 p629457 p629458 p629459 p629460 p629461 p629462 p629463 p629464 he629447 hB629491 ht629465 ht629466 ht629467 ht629468 ht629469 ht629470 ht629471 ht629472 ht629473 ht629474 ht629475 ht629476 ht629477 ht629478 ht629479 ht629480 ht629481 ht629482 ht629483 ht629484 ht629485 ht629486 ht629487 ht629488 hB629492 => ?_)
                            have ac629493 : (fI (F629421 q587829) 11).toInt = p629452.toInt := by rw [he629447]; rfl
                            have bp629452 : gB p629452 0 100 := (hB629491.2.2.1)
                            have ac629494 : (fI (F629421 q587829) 14).toInt = p629455.toInt := by rw [he629447]; rfl
                            have bp629455 : gB p629455 0 2000 := (hB629491.2.2.2.1)
                            refine G_istore (L' := [(8, .int o629410), (7, .int p629178), (6, .int p629177), (5, .ref q629161), (4, .int g627807), (3, .ref q626303), (2, .int g626162), (0, .ref q587829), (1, .ref q587830)]) dr_cX17_spill_203 (Nat.le_of_ble_eq_true rfl) rfl ?_
                            refine G_iload 0 dr_cX17_spill_205 rfl ?_
                            refine G_if_ge 212 dr_cX17_spill_207 (by decide +kernel) (fun hc629495 => ?_) (fun hc629495 => ?_)
                            · have r629496 : 0 ≤ o629410.toInt := gj_leL hc629495 (show Int32.toInt 0 = 0 by decide)
                              have bo629410' : gB o629410 0 1999 := ⟨by omega, by omega⟩
                              have pl629498 := sp_ld (x629417.resolve_left (by omega)) pl629191.1 (tn_ge (by omega)) (rfl : ((g627807.toInt : Int).toNat + 1) = (g627807.toInt : Int).toNat + 1)
                              have hp629499 : rAt γ el q587830 (g626162.toInt : Int).toNat ((g627807.toInt : Int).toNat + 1) = q629161 := ((x629418.resolve_left (by omega)) (g627807.toInt : Int).toNat (Nat.le_refl _)).trans hp629188
                              have r629500 := x629415.resolve_left (by omega)
                              clear x629415 x629417 x629418
                              obtain ⟨z629501, hz629501⟩ : ∃ z : Int32, z = g627807 + Int32.ofInt 1 := ⟨_, rfl⟩
                              have ez629501 : z629501.toInt = g627807.toInt + 1 := gI_inc hz629501 (by decide) bg627807'' (by decide) (by decide)
                              have bz629501 : gB z629501 1 1000000 := ⟨by omega, by omega⟩
                              refine G_iinc (L' := [(4, .int z629501), (8, .int o629410), (7, .int p629178), (6, .int p629177), (5, .ref q629161), (3, .ref q626303), (2, .int g626162), (0, .ref q587829), (1, .ref q587830)]) z629501 4 dr_cX17_spill_212 rfl hz629501.symm (Nat.le_of_ble_eq_true rfl) rfl ?_
                              refine G_aload 4 dr_cX17_spill_215 rfl ?_
                              refine G_iload 1 dr_cX17_spill_217 rfl ?_
                              refine Gp_put 2 hm629440 he629439 dr_cX17_spill_219 (gk_X15 D I) (Nat.le_of_ble_eq_true rfl) wr_9_186 rfl rfl rfl (Nat.le_of_ble_eq_true rfl) (fun F629502 e629503 n629504 => ?_)
                              have r629505 := rk1_at hT629426 ht629437 he629439
                              have he629506 : F629502 q587829 = .inr (22, [.ref (γ 9 0), .ref (γ 9 1), .ref (γ 9 2), .ref (γ 9 3), .ref (γ 9 4), .ref (γ 9 5), .ref (γ 9 6), .ref (γ 9 7), .ref (γ 9 8), .int p629450, .int p629451, .int p629452, .int p629453, .int p629454, .int p629455, .ref (γ 9 15), .ref (γ 9 16), .ref (γ 9 17), .ref (γ 9 18), .ref (γ 9 19), .ref (γ 9 20), .ref (γ 9 21), .ref (γ 9 22), .int p629456, .int p629457, .int p629458, .int p629459, .int p629460, .ref q629448, .ref (γ 9 29), .int p629461, .ref (γ 9 31), .int p629462, .int p629463, .int p629464, .ref q629449]) := (n629504 q587829 (rn_oo he629447 he629439 (by decide))).trans he629447
                              have he629507 : F629502 q629161 = .inr (20, [.int p629175, .int p629176, .int o629410, .int p629178, .int p629179, .int p629180, .int p629181]) := e629503
                              have mk629508 : mKp (F587828 q587829) (F629502 q587829) := mKp_tr mk629441 (mKp_eq (n629504 q587829 (rn_ty ht629430 ht629437 (by decide))))
                              have kp629509 : F629502 (γ0 9 3) = F587828 (γ0 9 3) := (n629504 (γ0 9 3) (rn_ty (rSk_k hs629427 k0_3 (by decide) (by decide)) ht629437 (by decide))).trans kp629428
                              have kp629510 : F629502 (γ0 9 19) = F622893 (γ0 9 19) := (n629504 (γ0 9 19) (rn_ty (rSk_k hs629427 k0_19 (by decide) (by decide)) ht629437 (by decide))).trans kp629429
                              refine G_iload 2 dr_cX17_spill_222 rfl ?_
                              refine G_iload 3 dr_cX17_spill_224 rfl ?_
                              refine G_icmp_ne 236 dr_cX17_spill_226 (by decide +kernel) (fun hc629511 => ?_) (fun hc629511 => ?_)
                              · have r629512 : p629178.toInt ≠ p629177.toInt := gC_ne hc629511
                                have hT629513 : RS D I P629420 F629502 γ el := RS_set hT629426 n629504 ht629437 (by decide) ⟨p629175, p629176, o629410, p629178, p629179, p629180, p629181, he629507, bp629175, bp629176, bp629179, bp629180, bp629181, (gHe r629182), (Or.inr bo629410'), (gHe r629184), r629505.1, r629505.2⟩
                                have hs629515 := rSk_put hs629427 hT629513 n629504 ht629437 (by decide) (by decide)
                                have hm629517 : q626303 ∈ P629420 := RS_m hT629513 ht629433 (by decide)
                                obtain ⟨q629519, q629520, p629521, p629522, he629518, ht629529, ht629523, ht629524, ht629525, ht629526, ht629527, bp629521, bp629522, r629528, r629530, r629531⟩ := show rk_2 γ q626303 (F629502 q626303) from RS_o hT629513 ht629433
                                have hf629532 : γ 1 q629519 = f := (show γ 1 q629519 = γ 1 q626303 from ht629524).trans hf629434
                                have hf629533 : γ 1 q629520 = f := (show γ 1 q629520 = γ 1 q626303 from ht629526).trans hf629434
                                have r629534 : γ 6 (γ 1 q626303) = γ 6 f := by rw [hf629434]
                                have r629535 : γ 7 (γ 1 q626303) = γ 7 f := by rw [hf629434]
                                have r629536 : γ 19 (γ 1 q626303) = γ 19 f := by rw [hf629434]
                                have r629537 := r629528.resolve_left (by omega)
                                clear r629528
                                have r629538 : γ 2 (γ 14 q626303) = γ 2 q629519 := by rw [ht629529.1]
                                have pl629516 := sp_put hT629426 ht629431 hf629432 pl629498 n629504 hp629499 (show (g626162.toInt : Int).toNat < γ 6 f from tn_lt (by omega) (by omega)) (by unfold rwL; rw [x629414.2.2]; exact tn_le1 (by omega) (by omega))
                                have ac629539 : (fI (F629502 q587829) 11).toInt = p629452.toInt := by rw [he629506]; rfl
                                have ac629540 : (fI (F629502 q587829) 14).toInt = p629455.toInt := by rw [he629506]; rfl
                                refine G_lv (L' := [(0, .ref q587829), (1, .ref q587830), (2, .int g626162), (3, .ref q626303), (4, .int z629501), (5, .ref q629161), (6, .int p629177), (7, .int p629178)]) [7, 8, 6, 5, 0, 4, 3, 2] rfl ?_
                                exact jn236_628468 P629420 F629502 γ el z629501 q629161 p629177 p629178 (gB_w bz629501 (by decide) (by decide)) (gB_w rb629219 (by decide) (by decide)) (gB_w rb629385 (by decide) (by decide)) hT629513 hs629515 hph629442 hB629425 ht629433 hf629434 x629414.2.1 x629414.2.2 ht629437 hf629438 (by omega) (by omega) (by omega) (by omega) (by omega) (by omega) kp629510 (by rw [(show (z629501.toInt : Int).toNat = ((g627807.toInt : Int).toNat + 1) from tn_eq1 (by omega) (by omega))]; exact pl629516) (by rw [(show (z629501.toInt : Int).toNat = ((g627807.toInt : Int).toNat + 1) from tn_eq1 (by omega) (by omega))]; exact hp629499) (rS1_of he629174 he629507 pl629191.2 (fun _ _ _ _ => Or.inl (by omega)) (fun _ _ _ => Or.inr ⟨rfl, rfl, by omega, Or.inl (by omega)⟩)) (by omega) (by omega) (ms_j hm90_627829 (by omega) (by omega) (by omega)) (eO_l (by omega)) kp629509 mk629508
                              · have r629541 : p629178.toInt = p629177.toInt := gC_eq hc629511
                                refine G_aload 4 dr_cX17_spill_229 rfl ?_
                                refine G_iload 1 dr_cX17_spill_231 rfl ?_
                                refine Gp_put 3 hm629440 he629507 dr_cX17_spill_233 (gk_X15 D I) (Nat.le_of_ble_eq_true rfl) wr_9_190 rfl rfl rfl (Nat.le_of_ble_eq_true rfl) (fun F629542 e629543 n629544 => ?_)
                                have he629545 : F629542 q587829 = .inr (22, [.ref (γ 9 0), .ref (γ 9 1), .ref (γ 9 2), .ref (γ 9 3), .ref (γ 9 4), .ref (γ 9 5), .ref (γ 9 6), .ref (γ 9 7), .ref (γ 9 8), .int p629450, .int p629451, .int p629452, .int p629453, .int p629454, .int p629455, .ref (γ 9 15), .ref (γ 9 16), .ref (γ 9 17), .ref (γ 9 18), .ref (γ 9 19), .ref (γ 9 20), .ref (γ 9 21), .ref (γ 9 22), .int p629456, .int p629457, .int p629458, .int p629459, .int p629460, .ref q629448, .ref (γ 9 29), .int p629461, .ref (γ 9 31), .int p629462, .int p629463, .int p629464, .ref q629449]) := (n629544 q587829 (rn_oo he629506 he629507 (by decide))).trans he629506
                                have he629546 : F629542 q629161 = .inr (20, [.int p629175, .int p629176, .int o629410, .int o629410, .int p629179, .int p629180, .int p629181]) := e629543
                                have mk629547 : mKp (F587828 q587829) (F629542 q587829) := mKp_tr mk629508 (mKp_eq (n629544 q587829 (rn_ty ht629430 ht629437 (by decide))))
                                have n629548 : ∀ b, b ≠ q629161 → F629542 b = F629421 b := fun b hb => (n629544 b hb).trans (n629504 b hb)
                                have kp629549 : F629542 (γ0 9 3) = F587828 (γ0 9 3) := (n629544 (γ0 9 3) (rn_ty (rSk_k hs629427 k0_3 (by decide) (by decide)) ht629437 (by decide))).trans kp629509
                                have kp629550 : F629542 (γ0 9 19) = F622893 (γ0 9 19) := (n629544 (γ0 9 19) (rn_ty (rSk_k hs629427 k0_19 (by decide) (by decide)) ht629437 (by decide))).trans kp629510
                                have hT629551 : RS D I P629420 F629542 γ el := RS_set hT629426 n629548 ht629437 (by decide) ⟨p629175, p629176, o629410, o629410, p629179, p629180, p629181, he629546, bp629175, bp629176, bp629179, bp629180, bp629181, (gHe r629182), (Or.inr bo629410'), (Or.inr bo629410'), r629505.1, r629505.2⟩
                                have hs629553 := rSk_put hs629427 hT629551 n629548 ht629437 (by decide) (by decide)
                                have hm629555 : q626303 ∈ P629420 := RS_m hT629551 ht629433 (by decide)
                                obtain ⟨q629557, q629558, p629559, p629560, he629556, ht629567, ht629561, ht629562, ht629563, ht629564, ht629565, bp629559, bp629560, r629566, r629568, r629569⟩ := show rk_2 γ q626303 (F629542 q626303) from RS_o hT629551 ht629433
                                have hf629570 : γ 1 q629557 = f := (show γ 1 q629557 = γ 1 q626303 from ht629562).trans hf629434
                                have hf629571 : γ 1 q629558 = f := (show γ 1 q629558 = γ 1 q626303 from ht629564).trans hf629434
                                have r629572 : γ 6 (γ 1 q626303) = γ 6 f := by rw [hf629434]
                                have r629573 : γ 7 (γ 1 q626303) = γ 7 f := by rw [hf629434]
                                have r629574 : γ 19 (γ 1 q626303) = γ 19 f := by rw [hf629434]
                                have r629575 := r629566.resolve_left (by omega)
                                clear r629566
                                have r629576 : γ 2 (γ 14 q626303) = γ 2 q629557 := by rw [ht629567.1]
                                have pl629554 := sp_put hT629426 ht629431 hf629432 pl629498 n629548 hp629499 (show (g626162.toInt : Int).toNat < γ 6 f from tn_lt (by omega) (by omega)) (by unfold rwL; rw [x629414.2.2]; exact tn_le1 (by omega) (by omega))
                                have ac629577 : (fI (F629542 q587829) 11).toInt = p629452.toInt := by rw [he629545]; rfl
                                have ac629578 : (fI (F629542 q587829) 14).toInt = p629455.toInt := by rw [he629545]; rfl
                                refine G_lv (L' := [(0, .ref q587829), (1, .ref q587830), (2, .int g626162), (3, .ref q626303), (4, .int z629501), (5, .ref q629161), (6, .int p629177), (7, .int p629178)]) [7, 8, 6, 5, 0, 4, 3, 2] rfl ?_
                                exact jn236_628468 P629420 F629542 γ el z629501 q629161 p629177 p629178 (gB_w bz629501 (by decide) (by decide)) (gB_w rb629219 (by decide) (by decide)) (gB_w rb629385 (by decide) (by decide)) hT629551 hs629553 hph629442 hB629425 ht629433 hf629434 x629414.2.1 x629414.2.2 ht629437 hf629438 (by omega) (by omega) (by omega) (by omega) (by omega) (by omega) kp629550 (by rw [(show (z629501.toInt : Int).toNat = ((g627807.toInt : Int).toNat + 1) from tn_eq1 (by omega) (by omega))]; exact pl629554) (by rw [(show (z629501.toInt : Int).toNat = ((g627807.toInt : Int).toNat + 1) from tn_eq1 (by omega) (by omega))]; exact hp629499) (rS1_of he629174 he629546 pl629191.2 (fun _ _ _ _ => Or.inl (by omega)) (fun _ _ _ => Or.inl (by omega))) (by omega) (by omega) (ms_j hm90_627829 (by omega) (by omega) (by omega)) (eO_l (by omega)) kp629549 mk629547
                            · have r629579 : o629410.toInt < 0 := gj_nleL hc629495 (show Int32.toInt 0 = 0 by decide)
                              have bo629410' : gB o629410 (-1) (-1) := ⟨by omega, by omega⟩
                              refine G_iconst 0 dr_cX17_spill_210 (by decide +kernel) ?_
                              exact G_zretA FieldType.boolean dr_cX17_spill_211 rfl rfl (rm_zc pk629443) (rm_zs pk629443) ⟨P629420, F629421, γ, el, 0, rfl, rfl, hs629427, (rm_pp hph629442), hB629425, (gB_w (gBl (show Int32.toInt 0 = 0 by decide)) (by decide) (by decide)), (by have qa0 : Int32.toInt 0 = 0 := (by decide); omega), (Or.inl (by decide)), kp629428, mk629441⟩
              have ac629580 : (fI (F626164 q587829) 11).toInt = p626191.toInt := by rw [he626186]; rfl
              have ac629581 : (fI (F626164 q587829) 14).toInt = p626194.toInt := by rw [he626186]; rfl
              exact hlp90_627829 ((γ 2 (γ 14 q626303) + 1 - (0 : Int).toNat) + 1) P626163 F626164 γ el 0 (gB_w (gBl (show Int32.toInt 0 = 0 by decide)) (by decide) (by decide)) hT626165 hs626166 hph626167 hB626168 ht626308 hf626331 r626339 r626340 (by have qa0 : Int32.toInt 0 = 0 := (by decide); omega) (by have qa0 : Int32.toInt 0 = 0 := (by decide); omega) (by have qa0 : Int32.toInt 0 = 0 := (by decide); omega) (by have qa0 : Int32.toInt 0 = 0 := (by decide); omega) (by have qa0 : Int32.toInt 0 = 0 := (by decide); omega) (by have qa0 : Int32.toInt 0 = 0 := (by decide); omega) x626175 (by have qa : Int32.toInt 0 = 0 := (by decide); rw [qa]; exact x626176) (by have qa0 : Int32.toInt 0 = 0 := (by decide); omega) (by have qa0 : Int32.toInt 0 = 0 := (by decide); omega) x626177 x626178 (Nat.lt_succ_self _)
        have ac629582 : (fI (F622893 q587829) 11).toInt = p622999.toInt := by rw [he622994]; rfl
        have ac629583 : (fI (F622893 q587829) 14).toInt = p623002.toInt := by rw [he622994]; rfl
        exact hlp73_626178 (((1000001 : Int) - 0).toNat + 1) P622892 F622893 γ el 0 (gB_w (gBl (show Int32.toInt 0 = 0 by decide)) (by decide) (by decide)) hT622984 hs622985 hph623043 hB623042 (by have qa0 : Int32.toInt 0 = 0 := (by decide); omega) (by have qa0 : Int32.toInt 0 = 0 := (by decide); omega) (by have qa0 : Int32.toInt 0 = 0 := (by decide); omega) (by have qa0 : Int32.toInt 0 = 0 := (by decide); omega) (by have qa0 : Int32.toInt 0 = 0 := (by decide); omega) (by have qa0 : Int32.toInt 0 = 0 := (by decide); omega) kp622987 (by have qa : Int32.toInt 0 = 0 := (by decide); rw [qa]; exact pl623046) kp622986 mk622992 (Nat.lt_succ_self _)
      · have r629584 : g622891.toInt < 2000 := gj_nleL hc622974 (show Int32.toInt 2000 = 2000 by decide)
        have bg622891' : gB g622891 0 1999 := ⟨by omega, by omega⟩
        refine G_aload_n 1 dr_cX17_spill_9 rfl ?_
        refine Gp_get 19 hm622912 he622913 dr_cX17_spill_10 (gk_X17 D I) (Nat.le_of_ble_eq_true rfl) wr_7_93 rfl ?_
        refine G_iload_n 0 dr_cX17_spill_13 rfl ?_
        refine G_iconst (-1) dr_cX17_spill_14 (by decide +kernel) ?_
        refine Gp_iast 0 hm622966 he622967 dr_cX17_spill_15 rfl (gB_in bg622891' (by decide) (by decide)) (fun F629585 e629586 n629587 => ?_)
        obtain ⟨f629588, hf629588⟩ : ∃ z, z = upd f622968 g622891.toNatClampNeg (-1) := ⟨_, rfl⟩
        rw [← hf629588] at e629586
        have he629589 : F629585 q587829 = .inr (22, [.ref (γ 9 0), .ref (γ 9 1), .ref (γ 9 2), .ref (γ 9 3), .ref (γ 9 4), .ref (γ 9 5), .ref (γ 9 6), .ref (γ 9 7), .ref (γ 9 8), .int p622916, .int p622917, .int p622918, .int p622919, .int p622920, .int p622921, .ref (γ 9 15), .ref (γ 9 16), .ref (γ 9 17), .ref (γ 9 18), .ref (γ 9 19), .ref (γ 9 20), .ref (γ 9 21), .ref (γ 9 22), .int p622922, .int p622923, .int p622924, .int p622925, .int p622926, .ref q622914, .ref (γ 9 29), .int p622927, .ref (γ 9 31), .int p622928, .int p622929, .int p622930, .ref q622915]) := (n629587 q587829 (rn_oa he622913 he622967)).trans he622913
        have he629590 : F629585 (γ 9 3) = .inl (I .boolean, 2000, .inl f622964) := (n629587 (γ 9 3) (rn_ty ht622936 ht622946 (by decide))).trans he622963
        have he629591 : F629585 (γ 9 17) = .inl (I .int, 2000, .inl f622972) := (n629587 (γ 9 17) (rn_ty ht622944 ht622946 (by decide))).trans he622971
        have he629592 : F629585 (γ 9 19) = .inl (I .int, 2000, .inl f629588) := e629586
        have mk629593 : mKp (F587828 q587829) (F629585 q587829) := mKp_tr x622906 (mKp_eq (n629587 q587829 (rn_ty ht622908 ht622946 (by decide))))
        have kp629594 : F629585 (γ0 9 3) = F587828 (γ0 9 3) := (n629587 (γ0 9 3) (rn_ty (rSk_k hs622895 k0_3 (by decide) (by decide)) ht622946 (by decide))).trans x622905
        have bf629588 : gF f629588 (-1) 1999 := gF_upd hf629588 bf622968 (gB_w (gBl (show Int32.toInt (-1) = (-1) by decide)) (by decide) (by decide))
        have hT629595 : RS D I P622892 F629585 γ el := RS_set hT622894 n629587 ht622946 (by decide) ⟨f629588, he629592, bf629588⟩
        have hs629597 := rSk_put hs622895 hT629595 n629587 ht622946 (by decide) (by decide)
        have pl629598 := rPl_fr hT622894 ht622909 hf622910 x622904 (fun b hb _ => n629587 b (rn_ty (show rKd γ b 1 from hb) ht622946 (by decide)))
        refine G_aload_n 1 dr_cX17_spill_16 rfl ?_
        refine Gp_get 3 hm622912 he629589 dr_cX17_spill_17 (gk_X17 D I) (Nat.le_of_ble_eq_true rfl) wr_7_77 rfl ?_
        refine G_iload_n 0 dr_cX17_spill_20 rfl ?_
        refine Gp_zald 3 hm622962 he629590 dr_cX17_spill_21 rfl (gB_in bg622891' (by decide) (by decide)) (G_nam fun z629599 hz629599 => ?_)
        have bz629599 : gB z629599 0 1 := by rw [hz629599]; exact bf622964 _
        refine G_if_eq 65 dr_cX17_spill_22 (by decide +kernel) (fun hc629600 => ?_) (fun hc629600 => ?_)
        · have r629601 : z629599.toInt = 0 := gj_eq hc629600 (show Int32.toInt 0 = 0 by decide)
          have bz629599' : gB z629599 0 0 := gB_t0 r629601
          obtain ⟨z629602, hz629602⟩ : ∃ z : Int32, z = g622891 + Int32.ofInt 1 := ⟨_, rfl⟩
          have ez629602 : z629602.toInt = g622891.toInt + 1 := gI_inc hz629602 (by decide) bg622891' (by decide) (by decide)
          have bz629602 : gB z629602 1 2000 := ⟨by omega, by omega⟩
          refine G_iinc (L' := [(2, .int z629602), (0, .ref q587829), (1, .ref q587830)]) z629602 0 dr_cX17_spill_65 rfl hz629602.symm (Nat.le_of_ble_eq_true rfl) rfl ?_
          refine G_goto 2 dr_cX17_spill_68 (by decide +kernel) ?_
          have ac629603 : (fI (F629585 q587829) 11).toInt = p622918.toInt := by rw [he629589]; rfl
          have ac629604 : (fI (F629585 q587829) 14).toInt = p622921.toInt := by rw [he629589]; rfl
          have c9_629605 : cB (F587828 (γ0 9 3)) = f622964 := by rw [← kp629594, ← congrFun (rSk_9 hs629597) 3]; exact cB_of he629590
          have c9_629606 : cB (F629585 (γ0 9 19)) = f629588 := by rw [← congrFun (rSk_9 hs629597) 19]; exact cB_of he629592
          exact ih2_622906 P622892 F629585 γ el z629602 (gB_w bz629602 (by decide) (by decide)) hT629595 hs629597 hph622896 hB622897 (by omega) (by omega) (by omega) (by omega) (by omega) (by rw [c9_629605, c9_629606, ac629603]; exact spI_n (h2 := fun _ => 0) hf629588 (by decide) (by omega) ez629602 cq622973) pl629598 kp629594 mk629593 (by omega)
        · have r629607 : z629599.toInt ≠ 0 := gj_neq hc629600 (show Int32.toInt 0 = 0 by decide)
          have bz629599' : gB z629599 1 1 := gB_t1 bz629599 r629607
          refine G_aload_n 1 dr_cX17_spill_25 rfl ?_
          refine Gp_get 17 hm622912 he629589 dr_cX17_spill_26 (gk_X17 D I) (Nat.le_of_ble_eq_true rfl) wr_7_91 rfl ?_
          refine G_iload_n 0 dr_cX17_spill_29 rfl ?_
          refine Gp_iald 0 hm622970 he629591 dr_cX17_spill_30 rfl (gB_in bg622891' (by decide) (by decide)) (G_nam fun z629608 hz629608 => ?_)
          have bz629608 : gB z629608 (-1) 31 := by rw [hz629608]; exact bf622972 _
          refine G_if_lt 37 dr_cX17_spill_31 (by decide +kernel) (fun hc629609 => ?_) (fun hc629609 => ?_)
          · have r629610 : z629608.toInt < 0 := gj_lt hc629609 (show Int32.toInt 0 = 0 by decide)
            have bz629608' : gB z629608 (-1) (-1) := ⟨by omega, by omega⟩
            refine G_iload_n 0 dr_cX17_spill_37 rfl ?_
            refine G_bipush 100 dr_cX17_spill_38 (by decide +kernel) ?_
            refine G_icmp_lt 45 dr_cX17_spill_40 (by decide +kernel) (fun hc629611 => ?_) (fun hc629611 => ?_)
            · have r629612 : g622891.toInt < 100 := gj_lt hc629611 (show Int32.toInt 100 = 100 by decide)
              have bg622891'' : gB g622891 0 99 := ⟨by omega, by omega⟩
              refine G_aload_n 1 dr_cX17_spill_45 rfl ?_
              refine Gp_get 19 hm622912 he629589 dr_cX17_spill_46 (gk_X17 D I) (Nat.le_of_ble_eq_true rfl) wr_7_93 rfl ?_
              refine G_iload_n 0 dr_cX17_spill_49 rfl ?_
              refine G_aload_n 1 dr_cX17_spill_50 rfl ?_
              refine Gp_get 11 hm622912 he629589 dr_cX17_spill_51 (gk_X17 D I) (Nat.le_of_ble_eq_true rfl) wr_7_85 rfl ?_
              refine Gp_iast 0 hm622966 he629592 dr_cX17_spill_54 rfl (gB_in bg622891'' (by decide) (by decide)) (fun F629613 e629614 n629615 => ?_)
              obtain ⟨f629616, hf629616⟩ : ∃ z, z = upd f629588 g622891.toNatClampNeg p622918 := ⟨_, rfl⟩
              rw [← hf629616] at e629614
              have he629617 : F629613 q587829 = .inr (22, [.ref (γ 9 0), .ref (γ 9 1), .ref (γ 9 2), .ref (γ 9 3), .ref (γ 9 4), .ref (γ 9 5), .ref (γ 9 6), .ref (γ 9 7), .ref (γ 9 8), .int p622916, .int p622917, .int p622918, .int p622919, .int p622920, .int p622921, .ref (γ 9 15), .ref (γ 9 16), .ref (γ 9 17), .ref (γ 9 18), .ref (γ 9 19), .ref (γ 9 20), .ref (γ 9 21), .ref (γ 9 22), .int p622922, .int p622923, .int p622924, .int p622925, .int p622926, .ref q622914, .ref (γ 9 29), .int p622927, .ref (γ 9 31), .int p622928, .int p622929, .int p622930, .ref q622915]) := (n629615 q587829 (rn_oa he629589 he629592)).trans he629589
              have he629618 : F629613 (γ 9 3) = .inl (I .boolean, 2000, .inl f622964) := (n629615 (γ 9 3) (rn_ty ht622936 ht622946 (by decide))).trans he629590
              have he629619 : F629613 (γ 9 17) = .inl (I .int, 2000, .inl f622972) := (n629615 (γ 9 17) (rn_ty ht622944 ht622946 (by decide))).trans he629591
              have he629620 : F629613 (γ 9 19) = .inl (I .int, 2000, .inl f629616) := e629614
              have mk629621 : mKp (F587828 q587829) (F629613 q587829) := mKp_tr mk629593 (mKp_eq (n629615 q587829 (rn_ty ht622908 ht622946 (by decide))))
              have kp629622 : F629613 (γ0 9 3) = F587828 (γ0 9 3) := (n629615 (γ0 9 3) (rn_ty (rSk_k hs629597 k0_3 (by decide) (by decide)) ht622946 (by decide))).trans kp629594
              have bf629616 : gF f629616 (-1) 1999 := gF_upd hf629616 bf629588 (gB_w bp622918 (by decide) (by decide))
              have hT629623 : RS D I P622892 F629613 γ el := RS_set hT629595 n629615 ht622946 (by decide) ⟨f629616, he629620, bf629616⟩
              have of629624 : ∀ b, b ≠ (γ 9 19) → F629613 b = F622893 b := fun b hb => (n629615 b hb).trans (n629587 b hb)
              have hs629625 := rSk_put hs629597 hT629623 n629615 ht622946 (by decide) (by decide)
              have pl629626 := rPl_fr hT629595 ht622909 hf622910 pl629598 (fun b hb _ => n629615 b (rn_ty (show rKd γ b 1 from hb) ht622946 (by decide)))
              have cq629627 := spI_s (r1 := g622891.toInt + 1) (s1 := p622918.toInt + 1) hf629588 hf629616 rfl (by omega) (by omega) rfl (by omega) (sd_of hz629599 (by omega) (by omega) (by omega)) rfl cq622973
              have r629628 := cq629627.2
              have r629629 := cq622973.1
              have r629630 := x587834
              rw [c9_622965] at r629630
              have bp622918' : gB p622918 0 99 := ⟨by omega, by omega⟩
              refine G_aload_n 1 dr_cX17_spill_55 rfl ?_
              refine G_dup dr_cX17_spill_56 rfl ?_
              refine Gp_get 11 hm622912 he629617 dr_cX17_spill_57 (gk_X17 D I) (Nat.le_of_ble_eq_true rfl) wr_7_85 rfl ?_
              refine G_iconst 1 dr_cX17_spill_60 (by decide +kernel) ?_
              refine G_iadd dr_cX17_spill_61 (G_nam fun z629631 hz629631 => ?_)
              have ez629631 : z629631.toInt = p622918.toInt + 1 := by rw [gI_add hz629631 bp622918' (gBl (show Int32.toInt 1 = 1 by decide)) (by decide) (by decide), show Int32.toInt 1 = 1 from by decide]
              have bz629631 : gB z629631 1 100 := gB_add (gI_add hz629631 bp622918' (gBl (show Int32.toInt 1 = 1 by decide)) (by decide) (by decide)) bp622918' (gBl (show Int32.toInt 1 = 1 by decide)) (by decide) (by decide)
              refine Gp_put 11 hm622912 he629617 dr_cX17_spill_62 (gk_X17 D I) (Nat.le_of_ble_eq_true rfl) wr_7_85 rfl rfl rfl (Nat.le_of_ble_eq_true rfl) (fun F629632 e629633 n629634 => ?_)
              have he629635 : F629632 (γ 9 3) = .inl (I .boolean, 2000, .inl f622964) := (n629634 (γ 9 3) (rn_ao he629618 he629617)).trans he629618
              have he629636 : F629632 (γ 9 19) = .inl (I .int, 2000, .inl f629616) := (n629634 (γ 9 19) (rn_ao he629620 he629617)).trans he629620
              have he629637 : F629632 (γ 9 17) = .inl (I .int, 2000, .inl f622972) := (n629634 (γ 9 17) (rn_ao he629619 he629617)).trans he629619
              have he629638 : F629632 q587829 = .inr (22, [.ref (γ 9 0), .ref (γ 9 1), .ref (γ 9 2), .ref (γ 9 3), .ref (γ 9 4), .ref (γ 9 5), .ref (γ 9 6), .ref (γ 9 7), .ref (γ 9 8), .int p622916, .int p622917, .int z629631, .int p622919, .int p622920, .int p622921, .ref (γ 9 15), .ref (γ 9 16), .ref (γ 9 17), .ref (γ 9 18), .ref (γ 9 19), .ref (γ 9 20), .ref (γ 9 21), .ref (γ 9 22), .int p622922, .int p622923, .int p622924, .int p622925, .int p622926, .ref q622914, .ref (γ 9 29), .int p622927, .ref (γ 9 31), .int p622928, .int p622929, .int p622930, .ref q622915]) := e629633
              have mk629639 : mKp (F587828 q587829) (F629632 q587829) := mKp_tr mk629621 (by rw [he629617, he629638]; exact ⟨rfl, rfl⟩)
              have kp629640 : F629632 (γ0 9 3) = F587828 (γ0 9 3) := (n629634 (γ0 9 3) (rn_ty (rSk_k hs629625 k0_3 (by decide) (by decide)) ht622908 (by decide))).trans kp629622
              have kp629641 : F629632 (γ0 9 19) = F629613 (γ0 9 19) := n629634 (γ0 9 19) (rn_ty (rSk_k hs629625 k0_19 (by decide) (by decide)) ht622908 (by decide))
              have hT629642 : RS D I P622892 F629632 γ el := RS_set hT629623 n629634 ht622908 (by decide) ⟨q622914, q622915, p622916, p622917, z629631, p622919, p622920, p622921, p622922, p622923, p622924, p622925, p622926, p622927, p622928, p622929, p622930, he629638, ⟨(hB622957.1), (hB622957.2.1), (gB_w bz629631 (by decide) (by decide)), bp622921, (hB622957.2.2.2.2.1), (hB622957.2.2.2.2.2.1), (hB622957.2.2.2.2.2.2.1), (hB622957.2.2.2.2.2.2.2.1), (hB622957.2.2.2.2.2.2.2.2)⟩, ht622931, ht622932, ht622933, ht622934, ht622935, ht622936, ht622937, ht622938, ht622939, ht622940, ht622941, ht622942, ht622943, ht622944, ht622945, ht622946, ht622947, ht622948, ht622949, ht622950, ht622951, ht622952, ht622953, ht622954, hB622958⟩
              have hs629644 := rSk_put hs629625 hT629642 n629634 ht622908 (by decide) (by decide)
              have pl629645 := rPl_fr hT629623 ht622909 hf622910 pl629626 (fun b hb _ => n629634 b (rn_ty (show rKd γ b 1 from hb) ht622908 (by decide)))
              obtain ⟨z629646, hz629646⟩ : ∃ z : Int32, z = g622891 + Int32.ofInt 1 := ⟨_, rfl⟩
              have ez629646 : z629646.toInt = g622891.toInt + 1 := gI_inc hz629646 (by decide) bg622891'' (by decide) (by decide)
              have bz629646 : gB z629646 1 100 := ⟨by omega, by omega⟩
              refine G_iinc (L' := [(2, .int z629646), (0, .ref q587829), (1, .ref q587830)]) z629646 0 dr_cX17_spill_65 rfl hz629646.symm (Nat.le_of_ble_eq_true rfl) rfl ?_
              refine G_goto 2 dr_cX17_spill_68 (by decide +kernel) ?_
              have ac629647 : (fI (F629632 q587829) 11).toInt = z629631.toInt := by rw [he629638]; rfl
              have ac629648 : (fI (F629632 q587829) 14).toInt = p622921.toInt := by rw [he629638]; rfl
              have c9_629649 : cB (F587828 (γ0 9 3)) = f622964 := by rw [← kp629640, ← congrFun (rSk_9 hs629644) 3]; exact cB_of he629635
              have c9_629650 : cB (F629632 (γ0 9 19)) = f629616 := by rw [← congrFun (rSk_9 hs629644) 19]; exact cB_of he629636
              exact ih2_622906 P622892 F629632 γ el z629646 (gB_w bz629646 (by decide) (by decide)) hT629642 hs629644 hph622896 hB622897 (by omega) (by omega) (by omega) (by omega) (by omega) (by rw [c9_629649, c9_629650, ac629647, ez629646, ez629631]; exact cq629627.1) pl629645 kp629640 mk629639 (by omega)
            · have r629651 : 100 ≤ g622891.toInt := gj_nlt hc629611 (show Int32.toInt 100 = 100 by decide)
              have bg622891'' : gB g622891 100 1999 := ⟨by omega, by omega⟩
              refine G_iconst 0 dr_cX17_spill_43 (by decide +kernel) ?_
              exact G_zretA FieldType.boolean dr_cX17_spill_44 rfl rfl (rm_zc pk622911) (rm_zs pk622911) ⟨P622892, F629585, γ, el, 0, rfl, rfl, hs629597, (rm_pp hph622896), hB622897, (gB_w (gBl (show Int32.toInt 0 = 0 by decide)) (by decide) (by decide)), (by have qa0 : Int32.toInt 0 = 0 := (by decide); omega), (Or.inl (by decide)), kp629594, mk629593⟩
          · have r629652 : 0 ≤ z629608.toInt := gj_nlt hc629609 (show Int32.toInt 0 = 0 by decide)
            have bz629608' : gB z629608 0 31 := ⟨by omega, by omega⟩
            refine G_goto 65 dr_cX17_spill_34 (by decide +kernel) ?_
            obtain ⟨z629653, hz629653⟩ : ∃ z : Int32, z = g622891 + Int32.ofInt 1 := ⟨_, rfl⟩
            have ez629653 : z629653.toInt = g622891.toInt + 1 := gI_inc hz629653 (by decide) bg622891' (by decide) (by decide)
            have bz629653 : gB z629653 1 2000 := ⟨by omega, by omega⟩
            refine G_iinc (L' := [(2, .int z629653), (0, .ref q587829), (1, .ref q587830)]) z629653 0 dr_cX17_spill_65 rfl hz629653.symm (Nat.le_of_ble_eq_true rfl) rfl ?_
            refine G_goto 2 dr_cX17_spill_68 (by decide +kernel) ?_
            have ac629654 : (fI (F629585 q587829) 11).toInt = p622918.toInt := by rw [he629589]; rfl
            have ac629655 : (fI (F629585 q587829) 14).toInt = p622921.toInt := by rw [he629589]; rfl
            have c9_629656 : cB (F587828 (γ0 9 3)) = f622964 := by rw [← kp629594, ← congrFun (rSk_9 hs629597) 3]; exact cB_of he629590
            have c9_629657 : cB (F629585 (γ0 9 19)) = f629588 := by rw [← congrFun (rSk_9 hs629597) 19]; exact cB_of he629592
            exact ih2_622906 P622892 F629585 γ el z629653 (gB_w bz629653 (by decide) (by decide)) hT629595 hs629597 hph622896 hB622897 (by omega) (by omega) (by omega) (by omega) (by omega) (by rw [c9_629656, c9_629657, ac629654]; exact spI_n (h2 := fun _ => 0) hf629588 (by decide) (by omega) ez629653 cq622973) pl629598 kp629594 mk629593 (by omega)
  exact hlp2_622906 (((2001 : Int) - 0).toNat + 1) P587827 F587828 γ el 0 (gB_w (gBl (show Int32.toInt 0 = 0 by decide)) (by decide) (by decide)) hT hst hph hB (by have qa0 : Int32.toInt 0 = 0 := (by decide); omega) (by have qa0 : Int32.toInt 0 = 0 := (by decide); omega) (by have qa0 : Int32.toInt 0 = 0 := (by decide); omega) (by have qa0 : Int32.toInt 0 = 0 := (by decide); omega) (by have qa0 : Int32.toInt 0 = 0 := (by decide); omega) (by have qa : Int32.toInt 0 = 0 := (by decide); rw [qa]; exact spI_0) (by rw [hγ0, hel0]; exact x587835) rfl mKp_rf (Nat.lt_succ_self _)
