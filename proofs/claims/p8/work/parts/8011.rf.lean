theorem dr_cX17_spill_0 : decode cX17_spill 0 = .ok (.iconst 0, 1) := by decide +kernel
theorem dr_cX17_spill_1 : decode cX17_spill 1 = .ok (.istore_n 2, 1) := by decide +kernel
theorem dr_cX17_spill_2 : decode cX17_spill 2 = .ok (.iload_n 2, 1) := by decide +kernel
theorem dr_cX17_spill_3 : decode cX17_spill 3 = .ok (.sipush 2000, 3) := by decide +kernel
theorem dr_cX17_spill_6 : decode cX17_spill 6 = .ok (.if_icmp .ge 65, 3) := by decide +kernel
theorem dr_cX17_spill_71 : decode cX17_spill 71 = .ok (.iconst 0, 1) := by decide +kernel
theorem dr_cX17_spill_72 : decode cX17_spill 72 = .ok (.istore_n 2, 1) := by decide +kernel
theorem dr_cX17_spill_73 : decode cX17_spill 73 = .ok (.iload_n 2, 1) := by decide +kernel
theorem dr_cX17_spill_74 : decode cX17_spill 74 = .ok (.aload_n 1, 1) := by decide +kernel
theorem dr_cX17_spill_75 : decode cX17_spill 75 = .ok (.invokevirtual 96, 3) := by decide +kernel
theorem dr_cX17_spill_78 : decode cX17_spill 78 = .ok (.if_icmp .ge 353, 3) := by decide +kernel
theorem dr_cX17_spill_431 : decode cX17_spill 431 = .ok (.aload_n 1, 1) := by decide +kernel
theorem dr_cX17_spill_432 : decode cX17_spill 432 = .ok (.invokevirtual 234, 3) := by decide +kernel
theorem dr_cX17_spill_435 : decode cX17_spill 435 = .ok (.sipush 4000, 3) := by decide +kernel
theorem dr_cX17_spill_438 : decode cX17_spill 438 = .ok (.if_icmp .gt 7, 3) := by decide +kernel
theorem dr_cX17_spill_445 : decode cX17_spill 445 = .ok (.iconst 0, 1) := by decide +kernel
theorem dr_cX17_spill_446 : decode cX17_spill 446 = .ok (.ireturn, 1) := by decide +kernel
theorem dr_cX17_spill_441 : decode cX17_spill 441 = .ok (.iconst 1, 1) := by decide +kernel
theorem dr_cX17_spill_442 : decode cX17_spill 442 = .ok (.goto 4, 3) := by decide +kernel
theorem dr_cX17_spill_81 : decode cX17_spill 81 = .ok (.aload_n 1, 1) := by decide +kernel
theorem dr_cX17_spill_82 : decode cX17_spill 82 = .ok (.iload_n 2, 1) := by decide +kernel
theorem dr_cX17_spill_83 : decode cX17_spill 83 = .ok (.invokevirtual 101, 3) := by decide +kernel
theorem dr_cX17_spill_86 : decode cX17_spill 86 = .ok (.astore_n 3, 1) := by decide +kernel
theorem dr_cX17_spill_87 : decode cX17_spill 87 = .ok (.iconst 0, 1) := by decide +kernel
theorem dr_cX17_spill_88 : decode cX17_spill 88 = .ok (.istore 4, 2) := by decide +kernel
theorem dr_cX17_spill_90 : decode cX17_spill 90 = .ok (.iload 4, 2) := by decide +kernel
theorem dr_cX17_spill_92 : decode cX17_spill 92 = .ok (.aload_n 3, 1) := by decide +kernel
theorem dr_cX17_spill_93 : decode cX17_spill 93 = .ok (.getfield 117, 3) := by decide +kernel
theorem dr_cX17_spill_96 : decode cX17_spill 96 = .ok (.invokevirtual 121, 3) := by decide +kernel
theorem dr_cX17_spill_99 : decode cX17_spill 99 = .ok (.if_icmp .gt 326, 3) := by decide +kernel
theorem dr_cX17_spill_425 : decode cX17_spill 425 = .ok (.iinc 2 1, 3) := by decide +kernel
theorem dr_cX17_spill_428 : decode cX17_spill 428 = .ok (.goto (-355), 3) := by decide +kernel
theorem dr_cX17_spill_292 : decode cX17_spill 292 = .ok (.aload 5, 2) := by decide +kernel
theorem dr_cX17_spill_294 : decode cX17_spill 294 = .ok (.invokevirtual 48, 3) := by decide +kernel
theorem dr_cX17_spill_297 : decode cX17_spill 297 = .ok (.ifCond .eq 122, 3) := by decide +kernel
theorem dr_cX17_spill_419 : decode cX17_spill 419 = .ok (.iinc 4 1, 3) := by decide +kernel
theorem dr_cX17_spill_422 : decode cX17_spill 422 = .ok (.goto (-332), 3) := by decide +kernel
theorem dr_cX17_spill_300 : decode cX17_spill 300 = .ok (.aload 5, 2) := by decide +kernel
theorem dr_cX17_spill_302 : decode cX17_spill 302 = .ok (.getfield 39, 3) := by decide +kernel
theorem dr_cX17_spill_305 : decode cX17_spill 305 = .ok (.bipush 21, 2) := by decide +kernel
theorem dr_cX17_spill_307 : decode cX17_spill 307 = .ok (.if_icmp .eq 112, 3) := by decide +kernel
theorem dr_cX17_spill_310 : decode cX17_spill 310 = .ok (.aload_n 0, 1) := by decide +kernel
theorem dr_cX17_spill_311 : decode cX17_spill 311 = .ok (.getfield 221, 3) := by decide +kernel
theorem dr_cX17_spill_314 : decode cX17_spill 314 = .ok (.aload 5, 2) := by decide +kernel
theorem dr_cX17_spill_316 : decode cX17_spill 316 = .ok (.getfield 52, 3) := by decide +kernel
theorem dr_cX17_spill_319 : decode cX17_spill 319 = .ok (.iaload, 1) := by decide +kernel
theorem dr_cX17_spill_320 : decode cX17_spill 320 = .ok (.ifCond .ge 6, 3) := by decide +kernel
theorem dr_cX17_spill_326 : decode cX17_spill 326 = .ok (.aload_n 0, 1) := by decide +kernel
theorem dr_cX17_spill_327 : decode cX17_spill 327 = .ok (.getfield 221, 3) := by decide +kernel
theorem dr_cX17_spill_330 : decode cX17_spill 330 = .ok (.aload 5, 2) := by decide +kernel
theorem dr_cX17_spill_332 : decode cX17_spill 332 = .ok (.getfield 52, 3) := by decide +kernel
theorem dr_cX17_spill_335 : decode cX17_spill 335 = .ok (.iaload, 1) := by decide +kernel
theorem dr_cX17_spill_336 : decode cX17_spill 336 = .ok (.istore 8, 2) := by decide +kernel
theorem dr_cX17_spill_338 : decode cX17_spill 338 = .ok (.aload_n 0, 1) := by decide +kernel
theorem dr_cX17_spill_339 : decode cX17_spill 339 = .ok (.getfield 231, 3) := by decide +kernel
theorem dr_cX17_spill_342 : decode cX17_spill 342 = .ok (.sipush 2000, 3) := by decide +kernel
theorem dr_cX17_spill_345 : decode cX17_spill 345 = .ok (.if_icmp .ne 5, 3) := by decide +kernel
theorem dr_cX17_spill_350 : decode cX17_spill 350 = .ok (.aload 5, 2) := by decide +kernel
theorem dr_cX17_spill_352 : decode cX17_spill 352 = .ok (.aload_n 0, 1) := by decide +kernel
theorem dr_cX17_spill_353 : decode cX17_spill 353 = .ok (.getfield 231, 3) := by decide +kernel
theorem dr_cX17_spill_356 : decode cX17_spill 356 = .ok (.putfield 52, 3) := by decide +kernel
theorem dr_cX17_spill_359 : decode cX17_spill 359 = .ok (.aload_n 0, 1) := by decide +kernel
theorem dr_cX17_spill_360 : decode cX17_spill 360 = .ok (.dup, 1) := by decide +kernel
theorem dr_cX17_spill_361 : decode cX17_spill 361 = .ok (.getfield 231, 3) := by decide +kernel
theorem dr_cX17_spill_364 : decode cX17_spill 364 = .ok (.iconst 1, 1) := by decide +kernel
theorem dr_cX17_spill_365 : decode cX17_spill 365 = .ok (.iadd, 1) := by decide +kernel
theorem dr_cX17_spill_366 : decode cX17_spill 366 = .ok (.putfield 231, 3) := by decide +kernel
theorem dr_cX17_spill_369 : decode cX17_spill 369 = .ok (.aload_n 1, 1) := by decide +kernel
theorem dr_cX17_spill_370 : decode cX17_spill 370 = .ok (.invokevirtual 177, 3) := by decide +kernel
theorem dr_cX17_spill_373 : decode cX17_spill 373 = .ok (.astore 9, 2) := by decide +kernel
theorem dr_cX17_spill_375 : decode cX17_spill 375 = .ok (.aload 9, 2) := by decide +kernel
theorem dr_cX17_spill_377 : decode cX17_spill 377 = .ok (.bipush 23, 2) := by decide +kernel
theorem dr_cX17_spill_379 : decode cX17_spill 379 = .ok (.putfield 39, 3) := by decide +kernel
theorem dr_cX17_spill_382 : decode cX17_spill 382 = .ok (.aload 9, 2) := by decide +kernel
theorem dr_cX17_spill_384 : decode cX17_spill 384 = .ok (.iload 8, 2) := by decide +kernel
theorem dr_cX17_spill_386 : decode cX17_spill 386 = .ok (.putfield 45, 3) := by decide +kernel
theorem dr_cX17_spill_389 : decode cX17_spill 389 = .ok (.aload 9, 2) := by decide +kernel
theorem dr_cX17_spill_391 : decode cX17_spill 391 = .ok (.aload 5, 2) := by decide +kernel
theorem dr_cX17_spill_393 : decode cX17_spill 393 = .ok (.getfield 52, 3) := by decide +kernel
theorem dr_cX17_spill_396 : decode cX17_spill 396 = .ok (.putfield 73, 3) := by decide +kernel
theorem dr_cX17_spill_399 : decode cX17_spill 399 = .ok (.aload 9, 2) := by decide +kernel
theorem dr_cX17_spill_401 : decode cX17_spill 401 = .ok (.iconst 1, 1) := by decide +kernel
theorem dr_cX17_spill_402 : decode cX17_spill 402 = .ok (.putfield 141, 3) := by decide +kernel
theorem dr_cX17_spill_405 : decode cX17_spill 405 = .ok (.iinc 4 1, 3) := by decide +kernel
theorem dr_cX17_spill_408 : decode cX17_spill 408 = .ok (.aload_n 3, 1) := by decide +kernel
theorem dr_cX17_spill_409 : decode cX17_spill 409 = .ok (.getfield 117, 3) := by decide +kernel
theorem dr_cX17_spill_412 : decode cX17_spill 412 = .ok (.iload 4, 2) := by decide +kernel
theorem dr_cX17_spill_414 : decode cX17_spill 414 = .ok (.aload 9, 2) := by decide +kernel
theorem dr_cX17_spill_416 : decode cX17_spill 416 = .ok (.invokevirtual 181, 3) := by decide +kernel
theorem dr_cX17_spill_348 : decode cX17_spill 348 = .ok (.iconst 0, 1) := by decide +kernel
theorem dr_cX17_spill_349 : decode cX17_spill 349 = .ok (.ireturn, 1) := by decide +kernel
theorem dr_cX17_spill_323 : decode cX17_spill 323 = .ok (.goto 96, 3) := by decide +kernel
theorem dr_cX17_spill_236 : decode cX17_spill 236 = .ok (.iload 7, 2) := by decide +kernel
theorem dr_cX17_spill_238 : decode cX17_spill 238 = .ok (.ifCond .lt 54, 3) := by decide +kernel
theorem dr_cX17_spill_241 : decode cX17_spill 241 = .ok (.iload 7, 2) := by decide +kernel
theorem dr_cX17_spill_243 : decode cX17_spill 243 = .ok (.iload 6, 2) := by decide +kernel
theorem dr_cX17_spill_245 : decode cX17_spill 245 = .ok (.if_icmp .eq 47, 3) := by decide +kernel
theorem dr_cX17_spill_248 : decode cX17_spill 248 = .ok (.aload_n 0, 1) := by decide +kernel
theorem dr_cX17_spill_249 : decode cX17_spill 249 = .ok (.getfield 221, 3) := by decide +kernel
theorem dr_cX17_spill_252 : decode cX17_spill 252 = .ok (.iload 7, 2) := by decide +kernel
theorem dr_cX17_spill_254 : decode cX17_spill 254 = .ok (.iaload, 1) := by decide +kernel
theorem dr_cX17_spill_255 : decode cX17_spill 255 = .ok (.ifCond .lt 37, 3) := by decide +kernel
theorem dr_cX17_spill_258 : decode cX17_spill 258 = .ok (.aload_n 0, 1) := by decide +kernel
theorem dr_cX17_spill_259 : decode cX17_spill 259 = .ok (.aload_n 1, 1) := by decide +kernel
theorem dr_cX17_spill_260 : decode cX17_spill 260 = .ok (.aload_n 3, 1) := by decide +kernel
theorem dr_cX17_spill_261 : decode cX17_spill 261 = .ok (.iload 4, 2) := by decide +kernel
theorem dr_cX17_spill_263 : decode cX17_spill 263 = .ok (.aload_n 0, 1) := by decide +kernel
theorem dr_cX17_spill_264 : decode cX17_spill 264 = .ok (.getfield 221, 3) := by decide +kernel
theorem dr_cX17_spill_267 : decode cX17_spill 267 = .ok (.iload 7, 2) := by decide +kernel
theorem dr_cX17_spill_269 : decode cX17_spill 269 = .ok (.iaload, 1) := by decide +kernel
theorem dr_cX17_spill_270 : decode cX17_spill 270 = .ok (.invokevirtual 227, 3) := by decide +kernel
theorem wr_11_67 : (Jvm.Cond.methodLink "SpillForgeModel" (227 : Nat) ({ cls := "SpillForgeModel", name := "load", desc := "(LSpillForgeModel$Code;LSpillForgeModel$Block;II)I" } : Jvm.MethodName)) ∈ gw := gw_11 67 rfl rfl
theorem wr_11_70 : (Jvm.Cond.code ({ cls := "SpillForgeModel", name := "load", desc := "(LSpillForgeModel$Code;LSpillForgeModel$Block;II)I" } : Jvm.MethodName) prog_14_method_23_code (6 : Nat) (Option.some Jvm.ClassFile.FieldType.int)) ∈ gw := gw_11 70 rfl rfl
theorem wr_11_69 : (Jvm.Cond.instanceMethod ({ cls := "SpillForgeModel", name := "load", desc := "(LSpillForgeModel$Code;LSpillForgeModel$Block;II)I" } : Jvm.MethodName)) ∈ gw := gw_11 69 rfl rfl
theorem wr_p_111 : Cond.selects "SpillForgeModel" ⟨"SpillForgeModel", "load", "(LSpillForgeModel$Code;LSpillForgeModel$Block;II)I"⟩ ⟨"SpillForgeModel", "load", "(LSpillForgeModel$Code;LSpillForgeModel$Block;II)I"⟩ ∈ gw := gw_p _ 111 rfl rfl rfl
theorem dr_cX17_spill_273 : decode cX17_spill 273 = .ok (.istore 8, 2) := by decide +kernel
theorem dr_cX17_spill_275 : decode cX17_spill 275 = .ok (.iload 8, 2) := by decide +kernel
theorem dr_cX17_spill_277 : decode cX17_spill 277 = .ok (.ifCond .ge 5, 3) := by decide +kernel
theorem dr_cX17_spill_282 : decode cX17_spill 282 = .ok (.iinc 4 1, 3) := by decide +kernel
theorem dr_cX17_spill_285 : decode cX17_spill 285 = .ok (.aload 5, 2) := by decide +kernel
theorem dr_cX17_spill_287 : decode cX17_spill 287 = .ok (.iload 8, 2) := by decide +kernel
theorem dr_cX17_spill_289 : decode cX17_spill 289 = .ok (.putfield 79, 3) := by decide +kernel
theorem dr_cX17_spill_280 : decode cX17_spill 280 = .ok (.iconst 0, 1) := by decide +kernel
theorem dr_cX17_spill_281 : decode cX17_spill 281 = .ok (.ireturn, 1) := by decide +kernel
theorem dr_cX17_spill_102 : decode cX17_spill 102 = .ok (.iload 4, 2) := by decide +kernel
theorem dr_cX17_spill_104 : decode cX17_spill 104 = .ok (.aload_n 3, 1) := by decide +kernel
theorem dr_cX17_spill_105 : decode cX17_spill 105 = .ok (.getfield 117, 3) := by decide +kernel
theorem dr_cX17_spill_108 : decode cX17_spill 108 = .ok (.invokevirtual 121, 3) := by decide +kernel
theorem dr_cX17_spill_111 : decode cX17_spill 111 = .ok (.if_icmp .ge 18, 3) := by decide +kernel
theorem dr_cX17_spill_129 : decode cX17_spill 129 = .ok (.aload_n 3, 1) := by decide +kernel
theorem dr_cX17_spill_130 : decode cX17_spill 130 = .ok (.getfield 109, 3) := by decide +kernel
theorem dr_cX17_spill_133 : decode cX17_spill 133 = .ok (.astore 5, 2) := by decide +kernel
theorem dr_cX17_spill_135 : decode cX17_spill 135 = .ok (.aload 5, 2) := by decide +kernel
theorem dr_cX17_spill_137 : decode cX17_spill 137 = .ok (.invokevirtual 70, 3) := by decide +kernel
theorem dr_cX17_spill_140 : decode cX17_spill 140 = .ok (.ifCond .eq 11, 3) := by decide +kernel
theorem dr_cX17_spill_151 : decode cX17_spill 151 = .ok (.iconst (-1), 1) := by decide +kernel
theorem dr_cX17_spill_152 : decode cX17_spill 152 = .ok (.istore 6, 2) := by decide +kernel
theorem dr_cX17_spill_154 : decode cX17_spill 154 = .ok (.aload 5, 2) := by decide +kernel
theorem dr_cX17_spill_156 : decode cX17_spill 156 = .ok (.invokevirtual 76, 3) := by decide +kernel
theorem dr_cX17_spill_159 : decode cX17_spill 159 = .ok (.ifCond .eq 11, 3) := by decide +kernel
theorem dr_cX17_spill_170 : decode cX17_spill 170 = .ok (.iconst (-1), 1) := by decide +kernel
theorem dr_cX17_spill_171 : decode cX17_spill 171 = .ok (.istore 7, 2) := by decide +kernel
theorem dr_cX17_spill_173 : decode cX17_spill 173 = .ok (.iload 6, 2) := by decide +kernel
theorem dr_cX17_spill_175 : decode cX17_spill 175 = .ok (.ifCond .lt 61, 3) := by decide +kernel
theorem dr_cX17_spill_162 : decode cX17_spill 162 = .ok (.aload 5, 2) := by decide +kernel
theorem dr_cX17_spill_164 : decode cX17_spill 164 = .ok (.getfield 79, 3) := by decide +kernel
theorem dr_cX17_spill_167 : decode cX17_spill 167 = .ok (.goto 4, 3) := by decide +kernel
theorem dr_cX17_spill_143 : decode cX17_spill 143 = .ok (.aload 5, 2) := by decide +kernel
theorem dr_cX17_spill_145 : decode cX17_spill 145 = .ok (.getfield 73, 3) := by decide +kernel
theorem dr_cX17_spill_148 : decode cX17_spill 148 = .ok (.goto 4, 3) := by decide +kernel
theorem dr_cX17_spill_178 : decode cX17_spill 178 = .ok (.aload_n 0, 1) := by decide +kernel
theorem dr_cX17_spill_179 : decode cX17_spill 179 = .ok (.getfield 221, 3) := by decide +kernel
theorem dr_cX17_spill_182 : decode cX17_spill 182 = .ok (.iload 6, 2) := by decide +kernel
theorem dr_cX17_spill_184 : decode cX17_spill 184 = .ok (.iaload, 1) := by decide +kernel
theorem dr_cX17_spill_185 : decode cX17_spill 185 = .ok (.ifCond .lt 51, 3) := by decide +kernel
theorem dr_cX17_spill_188 : decode cX17_spill 188 = .ok (.aload_n 0, 1) := by decide +kernel
theorem dr_cX17_spill_189 : decode cX17_spill 189 = .ok (.aload_n 1, 1) := by decide +kernel
theorem dr_cX17_spill_190 : decode cX17_spill 190 = .ok (.aload_n 3, 1) := by decide +kernel
theorem dr_cX17_spill_191 : decode cX17_spill 191 = .ok (.iload 4, 2) := by decide +kernel
theorem dr_cX17_spill_193 : decode cX17_spill 193 = .ok (.aload_n 0, 1) := by decide +kernel
theorem dr_cX17_spill_194 : decode cX17_spill 194 = .ok (.getfield 221, 3) := by decide +kernel
theorem dr_cX17_spill_197 : decode cX17_spill 197 = .ok (.iload 6, 2) := by decide +kernel
theorem dr_cX17_spill_199 : decode cX17_spill 199 = .ok (.iaload, 1) := by decide +kernel
theorem dr_cX17_spill_200 : decode cX17_spill 200 = .ok (.invokevirtual 227, 3) := by decide +kernel
theorem dr_cX17_spill_203 : decode cX17_spill 203 = .ok (.istore 8, 2) := by decide +kernel
theorem dr_cX17_spill_205 : decode cX17_spill 205 = .ok (.iload 8, 2) := by decide +kernel
theorem dr_cX17_spill_207 : decode cX17_spill 207 = .ok (.ifCond .ge 5, 3) := by decide +kernel
theorem dr_cX17_spill_212 : decode cX17_spill 212 = .ok (.iinc 4 1, 3) := by decide +kernel
theorem dr_cX17_spill_215 : decode cX17_spill 215 = .ok (.aload 5, 2) := by decide +kernel
theorem dr_cX17_spill_217 : decode cX17_spill 217 = .ok (.iload 8, 2) := by decide +kernel
theorem dr_cX17_spill_219 : decode cX17_spill 219 = .ok (.putfield 73, 3) := by decide +kernel
theorem dr_cX17_spill_222 : decode cX17_spill 222 = .ok (.iload 7, 2) := by decide +kernel
theorem dr_cX17_spill_224 : decode cX17_spill 224 = .ok (.iload 6, 2) := by decide +kernel
theorem dr_cX17_spill_226 : decode cX17_spill 226 = .ok (.if_icmp .ne 10, 3) := by decide +kernel
theorem dr_cX17_spill_210 : decode cX17_spill 210 = .ok (.iconst 0, 1) := by decide +kernel
theorem dr_cX17_spill_211 : decode cX17_spill 211 = .ok (.ireturn, 1) := by decide +kernel
theorem dr_cX17_spill_229 : decode cX17_spill 229 = .ok (.aload 5, 2) := by decide +kernel
theorem dr_cX17_spill_231 : decode cX17_spill 231 = .ok (.iload 8, 2) := by decide +kernel
theorem dr_cX17_spill_233 : decode cX17_spill 233 = .ok (.putfield 79, 3) := by decide +kernel
theorem dr_cX17_spill_114 : decode cX17_spill 114 = .ok (.aload_n 3, 1) := by decide +kernel
theorem dr_cX17_spill_115 : decode cX17_spill 115 = .ok (.getfield 117, 3) := by decide +kernel
theorem dr_cX17_spill_118 : decode cX17_spill 118 = .ok (.iload 4, 2) := by decide +kernel
theorem dr_cX17_spill_120 : decode cX17_spill 120 = .ok (.invokevirtual 124, 3) := by decide +kernel
theorem dr_cX17_spill_123 : decode cX17_spill 123 = .ok (.checkcast 40, 3) := by decide +kernel
theorem dr_cX17_spill_126 : decode cX17_spill 126 = .ok (.goto 7, 3) := by decide +kernel
theorem dr_cX17_spill_9 : decode cX17_spill 9 = .ok (.aload_n 0, 1) := by decide +kernel
theorem dr_cX17_spill_10 : decode cX17_spill 10 = .ok (.getfield 221, 3) := by decide +kernel
theorem dr_cX17_spill_13 : decode cX17_spill 13 = .ok (.iload_n 2, 1) := by decide +kernel
theorem dr_cX17_spill_14 : decode cX17_spill 14 = .ok (.iconst (-1), 1) := by decide +kernel
theorem dr_cX17_spill_15 : decode cX17_spill 15 = .ok (.iastore, 1) := by decide +kernel
theorem dr_cX17_spill_16 : decode cX17_spill 16 = .ok (.aload_n 0, 1) := by decide +kernel
theorem dr_cX17_spill_17 : decode cX17_spill 17 = .ok (.getfield 131, 3) := by decide +kernel
theorem dr_cX17_spill_20 : decode cX17_spill 20 = .ok (.iload_n 2, 1) := by decide +kernel
theorem dr_cX17_spill_21 : decode cX17_spill 21 = .ok (.baload, 1) := by decide +kernel
theorem dr_cX17_spill_22 : decode cX17_spill 22 = .ok (.ifCond .eq 43, 3) := by decide +kernel
theorem dr_cX17_spill_65 : decode cX17_spill 65 = .ok (.iinc 2 1, 3) := by decide +kernel
theorem dr_cX17_spill_68 : decode cX17_spill 68 = .ok (.goto (-66), 3) := by decide +kernel
theorem dr_cX17_spill_25 : decode cX17_spill 25 = .ok (.aload_n 0, 1) := by decide +kernel
theorem dr_cX17_spill_26 : decode cX17_spill 26 = .ok (.getfield 212, 3) := by decide +kernel
theorem dr_cX17_spill_29 : decode cX17_spill 29 = .ok (.iload_n 2, 1) := by decide +kernel
theorem dr_cX17_spill_30 : decode cX17_spill 30 = .ok (.iaload, 1) := by decide +kernel
theorem dr_cX17_spill_31 : decode cX17_spill 31 = .ok (.ifCond .lt 6, 3) := by decide +kernel
theorem dr_cX17_spill_37 : decode cX17_spill 37 = .ok (.iload_n 2, 1) := by decide +kernel
theorem dr_cX17_spill_38 : decode cX17_spill 38 = .ok (.bipush 100, 2) := by decide +kernel
theorem dr_cX17_spill_40 : decode cX17_spill 40 = .ok (.if_icmp .lt 5, 3) := by decide +kernel
theorem dr_cX17_spill_45 : decode cX17_spill 45 = .ok (.aload_n 0, 1) := by decide +kernel
theorem dr_cX17_spill_46 : decode cX17_spill 46 = .ok (.getfield 221, 3) := by decide +kernel
theorem dr_cX17_spill_49 : decode cX17_spill 49 = .ok (.iload_n 2, 1) := by decide +kernel
theorem dr_cX17_spill_50 : decode cX17_spill 50 = .ok (.aload_n 0, 1) := by decide +kernel
theorem dr_cX17_spill_51 : decode cX17_spill 51 = .ok (.getfield 224, 3) := by decide +kernel
theorem dr_cX17_spill_54 : decode cX17_spill 54 = .ok (.iastore, 1) := by decide +kernel
theorem dr_cX17_spill_55 : decode cX17_spill 55 = .ok (.aload_n 0, 1) := by decide +kernel
theorem dr_cX17_spill_56 : decode cX17_spill 56 = .ok (.dup, 1) := by decide +kernel
theorem dr_cX17_spill_57 : decode cX17_spill 57 = .ok (.getfield 224, 3) := by decide +kernel
theorem dr_cX17_spill_60 : decode cX17_spill 60 = .ok (.iconst 1, 1) := by decide +kernel
theorem dr_cX17_spill_61 : decode cX17_spill 61 = .ok (.iadd, 1) := by decide +kernel
theorem dr_cX17_spill_62 : decode cX17_spill 62 = .ok (.putfield 224, 3) := by decide +kernel
theorem dr_cX17_spill_43 : decode cX17_spill 43 = .ok (.iconst 0, 1) := by decide +kernel
theorem dr_cX17_spill_44 : decode cX17_spill 44 = .ok (.ireturn, 1) := by decide +kernel
theorem dr_cX17_spill_34 : decode cX17_spill 34 = .ok (.goto 31, 3) := by decide +kernel
abbrev ky_589779_SpillForgeModel_spill : gKey := (cX17_spill, 10, "SpillForgeModel", (some FieldType.boolean), [], "spill", fun _ _ => True)
def pg_589779_SpillForgeModel_spill (D : va_G) (I : FieldType → ClassId) (γ0 el0 : Nat → Nat → Nat) (f : Nat) (B : Nat) (P589769 : List Nat) (F589770 : Nat → va_E) (q589771 : Nat) (q589772 : Nat) : Option Value → va_W → Nat → Nat → Prop := fun r w dc ds => ∃ (P631601 : List Nat) (F631602 : Nat → va_E) (γ el : Nat → Nat → Nat) (o631600 : Int32), r = some (.int o631600) ∧ w = va_pl P631601 F631602 ∧ rSk f [101] ([1, 3, 5, 6, 8, 9, 101] ++ npk) D I P589769 F589770 γ0 el0 P631601 F631602 γ el ∧ (18 * dc + rPh γ0 el0 f ≤ rPh γ el f ∧ ds + rPh γ0 el0 f ≤ rPh γ el f) ∧ rBd γ el f B ∧ gB o631600 0 1 ∧ γ 6 f = γ0 6 f ∧ (o631600.toInt = 0 ∨ (γ 6 f = γ0 6 f ∧ γ 18 f = γ0 18 f ∧ ((γ 7 f : Nat) : Int) = (fI (F631602 q589771) 11).toInt ∧ ((γ 16 f : Nat) : Int) + 2001 ≤ (B : Int) + (fI (F631602 q589771) 14).toInt ∧ 100 ≤ (fI (F631602 q589771) 14).toInt ∧ rNI γ el F631602 q589772 (γ 6 f) (fI (F631602 q589771) 11).toInt)) ∧ (F631602 (γ0 9 3) = F589770 (γ0 9 3)) ∧ mKp (F589770 q589771) (F631602 q589771)
set_option maxRecDepth 100000 in
set_option maxHeartbeats 20000000 in
theorem cg_589779_SpillForgeModel_spill (l : Launch) (hl0 : l.stackTraces = false) (D : va_G) (I : FieldType → ClassId) (γ0 el0 : Nat → Nat → Nat) (f : Nat) (B : Nat) (P589769 : List Nat) (F589770 : Nat → va_E) (q589771 : Nat) (q589772 : Nat) (hT0 : RS D I P589769 F589770 γ0 el0) (hzq589771 : rKd γ0 q589771 10) (hzq589772 : rKd γ0 q589772 9) (hf0 : γ0 1 q589772 = f) (hB0 : rBd γ0 el0 f B) (hBk : B ≤ 100000) (x589773 : 0 < γ0 6 f) (x589774 : ((γ0 7 f : Nat) : Int) = (fI (F589770 q589771) 11).toInt) (x589775 : ((γ0 16 f : Nat) : Int) + 2001 ≤ (B : Int) + (fI (F589770 q589771) 14).toInt) (x589776 : (fI (F589770 q589771) 11).toInt + (rcn (cB (F589770 (γ0 9 3))) 100 : Nat) ≤ 100) (x589777 : rPl γ0 el0 F589770 q589772 (γ0 6 f) (fun _ _ => rNx (rSd (cB (F589770 (γ0 9 3)))))) (x589778 : 100 ≤ (fI (F589770 q589771) 14).toInt) : CtA (gV D I) l yX17_spill cX17_spill 10 (some FieldType.boolean) 9 195 (((387 * B + 6000) - rPh γ0 el0 f) / 18) ((387 * B + 6000) - rPh γ0 el0 f) [.ref q589771, .ref q589772] (va_pl P589769 F589770) (pg_589779_SpillForgeModel_spill D I γ0 el0 f B P589769 F589770 q589771 q589772) gNA := by
  refine CtA_of hl0 (by decide) (Nat.le_of_ble_eq_true rfl) ?_
  obtain ⟨γ, hγ0⟩ : ∃ z, z = γ0 := ⟨_, rfl⟩
  obtain ⟨el, hel0⟩ : ∃ z, z = el0 := ⟨_, rfl⟩
  have hT : RS D I P589769 F589770 γ el := by rw [hγ0, hel0]; exact hT0
  have hst : rSk f [101] ([1, 3, 5, 6, 8, 9, 101] ++ npk) D I P589769 F589770 γ0 el0 P589769 F589770 γ el := by rw [hγ0, hel0]; exact rSk_rf hT0
  have hph : rPh γ0 el0 f ≤ rPh γ el f := by rw [hγ0, hel0]; exact Nat.le_refl _
  have hB : rBd γ el f B := by rw [hγ0, hel0]; exact hB0
  have htq589771 : rKd γ q589771 10 := by rw [hγ0]; exact hzq589771
  have htq589772 : rKd γ q589772 9 := by rw [hγ0]; exact hzq589772
  have hf1 : γ 1 q589772 = f := by rw [hγ0]; exact hf0
  have x589773n : 0 < γ 6 f := by rw [hγ0]; exact x589773
  have x589774n : ((γ 7 f : Nat) : Int) = (fI (F589770 q589771) 11).toInt := by rw [hγ0]; exact x589774
  have x589775n : ((γ 16 f : Nat) : Int) + 2001 ≤ (B : Int) + (fI (F589770 q589771) 14).toInt := by rw [hγ0]; exact x589775
  have x589776n : (fI (F589770 q589771) 11).toInt + (rcn (cB (F589770 (γ 9 3))) 100 : Nat) ≤ 100 := by rw [hγ0]; exact x589776
  have x589777n : rPl γ el F589770 q589772 (γ 6 f) (fun _ _ => rNx (rSd (cB (F589770 (γ 9 3))))) := by rw [hγ0, hel0]; exact x589777
  have pk589780 : rPh γ el f ≤ 387 * B + 6000 := rm_pk (rM_ge hT htq589772 hf1).1 (rM_bd hB)
  refine G_widen (cs' := ((rPh γ el f - rPh γ0 el0 f) / 18)) (sl' := (rPh γ el f - rPh γ0 el0 f)) (Nat.zero_le _) (Nat.zero_le _) ?_
  have lz0 : Int32.toInt 0 = 0 := by decide
  have r589781 : γ 6 f = γ0 6 f := by rw [hγ0]
  have r589782 : γ 7 f = γ0 7 f := by rw [hγ0]
  have r589783 : γ 16 f = γ0 16 f := by rw [hγ0]
  have r589784 : γ 18 f = γ0 18 f := by rw [hγ0]
  have r589785 : γ 19 f = γ0 19 f := by rw [hγ0]
  have hm589786 : q589771 ∈ P589769 := RS_m hT htq589771 (by decide)
  refine rk10_e (show rk_10 γ (F589770 q589771) from RS_o hT htq589771) (fun q589788 q589789 p589790 p589791 p589792 p589793 p589794 p589795 p589796 p589797 p589798 p589799 p589800 p589801 p589802 p589803 p589804 he589787 hB589831 ht589805 ht589806 ht589807 ht589808 ht589809 ht589810 ht589811 ht589812 ht589813 ht589814 ht589815 ht589816 ht589817 ht589818 ht589819 ht589820 ht589821 ht589822 ht589823 ht589824 ht589825 ht589826 ht589827 ht589828 hB589832 => ?_)
  have ac0_11 : (fI (F589770 q589771) 11).toInt = p589792.toInt := by rw [he589787]; rfl
  have ac0_14 : (fI (F589770 q589771) 14).toInt = p589795.toInt := by rw [he589787]; rfl
  have bp589792 : gB p589792 0 100 := (hB589831.2.2.1)
  have bp589795 : gB p589795 0 2000 := (hB589831.2.2.2.1)
  have k0_3 : rKd γ0 (γ0 9 3) 14 := by rw [← hγ0]; exact ht589810
  have k0_17 : rKd γ0 (γ0 9 17) 20 := by rw [← hγ0]; exact ht589818
  have k0_19 : rKd γ0 (γ0 9 19) 21 := by rw [← hγ0]; exact ht589820
  refine G_iconst 0 dr_cX17_spill_0 (by decide +kernel) ?_
  refine G_istore_n (L' := [(2, .int 0), (0, .ref q589771), (1, .ref q589772)]) dr_cX17_spill_1 (Nat.le_of_ble_eq_true rfl) rfl ?_
  have hlp2_624848 : ∀ (n2_624848 : Nat) (P624834 : List Nat) (F624835 : Nat → va_E) (γ el : Nat → Nat → Nat) (g624833 : Int32), gB g624833 0 2000 → RS D I P624834 F624835 γ el → rSk f [101] ([1, 3, 5, 6, 8, 9, 101] ++ npk) D I P589769 F589770 γ0 el0 P624834 F624835 γ el → rPh γ0 el0 f ≤ rPh γ el f → rBd γ el f B → γ 6 f = γ0 6 f → γ 7 f = γ0 7 f → γ 16 f = γ0 16 f → γ 18 f = γ0 18 f → (fI (F624835 q589771) 14).toInt = (fI (F589770 q589771) 14).toInt → spI (cB (F589770 (γ0 9 3))) (cB (F624835 (γ0 9 19))) (g624833.toInt : Int).toNat (fI (F589770 q589771) 11).toInt (fI (F624835 q589771) 11).toInt → rPl γ el F624835 q589772 (γ 6 f) (fun _ _ => rNx (rSd (cB (F589770 (γ0 9 3))))) → (F624835 (γ0 9 3) = F589770 (γ0 9 3)) → mKp (F589770 q589771) (F624835 q589771) → ((2001 : Int) - g624833.toInt).toNat < n2_624848 → G (gV D I) l (gRm 9 195 (((387 * B + 6000) - rPh γ0 el0 f) / 18) ((387 * B + 6000) - rPh γ0 el0 f)) (gMA (gV D I) (pg_589779_SpillForgeModel_spill D I γ0 el0 f B P589769 F589770 q589771 q589772) gNA (((387 * B + 6000) - rPh γ0 el0 f) / 18) ((387 * B + 6000) - rPh γ0 el0 f)) ky_589779_SpillForgeModel_spill 2 [(2, .int g624833), (0, .ref q589771), (1, .ref q589772)] [] (va_pl P624834 F624835) ((rPh γ el f - rPh γ0 el0 f) / 18) (rPh γ el f - rPh γ0 el0 f) := by
    intro n2_624848
    induction n2_624848 with
    | zero => intro P624834 F624835 γ el g624833 bg624833 hT624836 hs624837 hph624838 hB624839 x624840 x624841 x624842 x624843 x624844 x624845 x624846 x624847 x624848 hm2_624848; exact absurd hm2_624848 (Nat.not_lt_zero _)
    | succ n2_624848 ih2_624848 =>
      intro P624834 F624835 γ el g624833 bg624833 hT624836 hs624837 hph624838 hB624839 x624840 x624841 x624842 x624843 x624844 x624845 x624846 x624847 x624848 hm2_624848
      clear r589781 r589782 r589783 r589784 r589785
      have ht624850 : rKd γ q589771 10 := rSk_k hs624837 hzq589771 (by decide) (by decide)
      have ht624851 : rKd γ q589772 9 := rSk_k hs624837 hzq589772 (by decide) (by decide)
      have hf624852 : γ 1 q589772 = f := rSk_1 hs624837 hzq589772 (by decide) hf0
      have pk624853 : rPh γ el f ≤ 387 * B + 6000 := rm_pk (rM_ge hT624836 ht624851 hf624852).1 (rM_bd hB624839)
      have hm624854 : q589771 ∈ P624834 := RS_m hT624836 ht624850 (by decide)
      refine rk10_e (show rk_10 γ (F624835 q589771) from RS_o hT624836 ht624850) (fun q624856 q624857 p624858 p624859 p624860 p624861 p624862 p624863 p624864 p624865 p624866 p624867 p624868 p624869 p624870 p624871 p624872 he624855 hB624899 ht624873 ht624874 ht624875 ht624876 ht624877 ht624878 ht624879 ht624880 ht624881 ht624882 ht624883 ht624884 ht624885 ht624886 ht624887 ht624888 ht624889 ht624890 ht624891 ht624892 ht624893 ht624894 ht624895 ht624896 hB624900 => ?_)
      have ac624901 : (fI (F624835 q589771) 11).toInt = p624860.toInt := by rw [he624855]; rfl
      have bp624860 : gB p624860 0 100 := (hB624899.2.2.1)
      have ac624902 : (fI (F624835 q589771) 14).toInt = p624863.toInt := by rw [he624855]; rfl
      have bp624863 : gB p624863 0 2000 := (hB624899.2.2.2.1)
      have r624903 : 0 < γ 6 (γ 1 q589772) := by rw [hf624852]; omega
      have hm624904 : (γ 9 3) ∈ P624834 := RS_m hT624836 ht624878 (by decide)
      obtain ⟨f624906, he624905, bf624906⟩ := show rk_14 I (F624835 (γ 9 3)) from RS_o hT624836 ht624878
      have c9_624907 : cB (F589770 (γ0 9 3)) = f624906 := by rw [← x624847, ← congrFun (rSk_9 hs624837) 3]; exact cB_of he624905
      have hm624908 : (γ 9 19) ∈ P624834 := RS_m hT624836 ht624888 (by decide)
      obtain ⟨f624910, he624909, bf624910⟩ := show rk_21 I (F624835 (γ 9 19)) from RS_o hT624836 ht624888
      have c9_624911 : cB (F624835 (γ0 9 19)) = f624910 := by rw [← congrFun (rSk_9 hs624837) 19]; exact cB_of he624909
      have hm624912 : (γ 9 17) ∈ P624834 := RS_m hT624836 ht624886 (by decide)
      obtain ⟨f624914, he624913, bf624914⟩ := show rk_20 I (F624835 (γ 9 17)) from RS_o hT624836 ht624886
      have cq624915 := x624845
      rw [c9_624907, c9_624911, ac624901] at cq624915
      refine G_iload_n 0 dr_cX17_spill_2 rfl ?_
      refine G_sipush 2000 dr_cX17_spill_3 (by decide +kernel) ?_
      refine G_icmp_ge 71 dr_cX17_spill_6 (by decide +kernel) (fun hc624916 => ?_) (fun hc624916 => ?_)
      · have r624917 : 2000 ≤ g624833.toInt := gj_leL hc624916 (show Int32.toInt 2000 = 2000 by decide)
        have bg624833' : gB g624833 2000 2000 := ⟨by omega, by omega⟩
        have ac624918 : (fI (F624835 q589771) 11).toInt = p624860.toInt := by rw [he624855]; rfl
        have ac624919 : (fI (F624835 q589771) 14).toInt = p624863.toInt := by rw [he624855]; rfl
        have spi624920 := x624845
        rw [show (g624833.toInt : Int).toNat = 2000 by omega] at spi624920
        have r624921 := cq624915.1
        have hv624922 := St_slots (f := f) (n := p624860.toInt.toNat) hT624836 ht624851 hf624852 (by omega)
        obtain ⟨γ, hg624923⟩ : ∃ z, z = gVal γ 7 f p624860.toInt.toNat := ⟨_, rfl⟩
        rw [← hg624923] at hv624922
        have hk624924 := rSk_of hv624922.1
        have r624925 := hv624922.2.1
        have hT624926 := hk624924.1
        have hs624927 := rSk_tr hs624837 hk624924 (by decide) (by decide) (by decide)
        have kp624928 : F624835 (γ0 9 3) = F589770 (γ0 9 3) := (rSk_F hk624924 (rSk_k hs624837 k0_3 (by decide) (by decide)) (by decide) (by decide)).trans x624847
        have kp624929 : F624835 (γ0 9 19) = F624835 (γ0 9 19) := rSk_F hk624924 (rSk_k hs624837 k0_19 (by decide) (by decide)) (by decide) (by decide)
        have r624930 := rSk_F hk624924 ht624850 (by decide) (by decide)
        have ht624931 : rKd γ q589771 10 := rSk_k hk624924 ht624850 (by decide) (by decide)
        have ht624932 : rKd γ q589772 9 := rSk_k hk624924 ht624851 (by decide) (by decide)
        have hf624933 : γ 1 q589772 = f := rSk_1 hk624924 ht624851 (by decide) hf624852
        have mk624934 : mKp (F589770 q589771) (F624835 q589771) := mKp_tr x624848 (mKp_eq (rSk_F hk624924 ht624850 (by decide) (by decide)))
        have hm624935 : q589771 ∈ P624834 := RS_m hT624926 ht624931 (by decide)
        refine rk10_e (show rk_10 γ (F624835 q589771) from RS_o hT624926 ht624931) (fun q624937 q624938 p624939 p624940 p624941 p624942 p624943 p624944 p624945 p624946 p624947 p624948 p624949 p624950 p624951 p624952 p624953 he624936 hB624980 ht624954 ht624955 ht624956 ht624957 ht624958 ht624959 ht624960 ht624961 ht624962 ht624963 ht624964 ht624965 ht624966 ht624967 ht624968 ht624969 ht624970 ht624971 ht624972 ht624973 ht624974 ht624975 ht624976 ht624977 hB624981 => ?_)
        have r624982 : p624941.toInt = p624860.toInt := by have z : p624941 = p624860 := congrArg (fun e => fI e 11) (he624936.symm.trans (r624930.trans he624855)); rw [z]
        have bp624941 : gB p624941 0 100 := (hB624980.2.2.1)
        have r624983 : p624944.toInt = p624863.toInt := by have z : p624944 = p624863 := congrArg (fun e => fI e 14) (he624936.symm.trans (r624930.trans he624855)); rw [z]
        have bp624944 : gB p624944 0 2000 := (hB624980.2.2.2.1)
        have hB624984 : rBd γ el f B := hv624922.2.2.2 B hB624839
        have hph624985 : rPh γ0 el0 f ≤ rPh γ el f := by rw [r624925]; exact hph624838
        have pk624986 : rPh γ el f ≤ 387 * B + 6000 := rm_pk (rM_ge hT624926 ht624932 hf624933).1 (rM_bd hB624984)
        refine G_widen (cs' := ((rPh γ el f - rPh γ0 el0 f) / 18)) (sl' := (rPh γ el f - rPh γ0 el0 f)) (rm_ec r624925) (rm_es r624925) ?_
        have r624987 := gVal_7 hg624923
        have pl624988 := sp_0 (h := cB (F624835 (γ0 9 19))) (rPl_val hT624836 ht624851 hf624852 hk624924 hg624923 x624846)
        have r624989 : 0 < γ 6 (γ 1 q589772) := by rw [hf624933]; omega
        have ac624990 : (fI (F624835 q589771) 11).toInt = p624941.toInt := by rw [he624936]; rfl
        have ac624991 : (fI (F624835 q589771) 14).toInt = p624944.toInt := by rw [he624936]; rfl
        refine G_iconst 0 dr_cX17_spill_71 (by decide +kernel) ?_
        refine G_istore_n (L' := [(2, .int 0), (0, .ref q589771), (1, .ref q589772)]) dr_cX17_spill_72 (Nat.le_of_ble_eq_true rfl) rfl ?_
        have hlp73_628120 : ∀ (n73_628120 : Nat) (P628105 : List Nat) (F628106 : Nat → va_E) (γ el : Nat → Nat → Nat) (g628104 : Int32), gB g628104 0 1000000 → RS D I P628105 F628106 γ el → rSk f [101] ([1, 3, 5, 6, 8, 9, 101] ++ npk) D I P589769 F589770 γ0 el0 P628105 F628106 γ el → rPh γ0 el0 f ≤ rPh γ el f → rBd γ el f B → γ 6 f = γ0 6 f → γ 18 f = γ0 18 f → ((γ 7 f : Nat) : Int) = (fI (F628106 q589771) 11).toInt → (fI (F628106 q589771) 11).toInt = (fI (F624835 q589771) 11).toInt → ((γ 16 f : Nat) : Int) + 2001 ≤ (B : Int) + (fI (F628106 q589771) 14).toInt → 100 ≤ (fI (F628106 q589771) 14).toInt → (F628106 (γ0 9 19) = F624835 (γ0 9 19)) → rPl γ el F628106 q589772 (γ 6 f) (spQ (cB (F589770 (γ0 9 3))) (cB (F624835 (γ0 9 19))) (g628104.toInt : Int).toNat 0) → (F628106 (γ0 9 3) = F589770 (γ0 9 3)) → mKp (F589770 q589771) (F628106 q589771) → ((1000001 : Int) - g628104.toInt).toNat < n73_628120 → G (gV D I) l (gRm 9 195 (((387 * B + 6000) - rPh γ0 el0 f) / 18) ((387 * B + 6000) - rPh γ0 el0 f)) (gMA (gV D I) (pg_589779_SpillForgeModel_spill D I γ0 el0 f B P589769 F589770 q589771 q589772) gNA (((387 * B + 6000) - rPh γ0 el0 f) / 18) ((387 * B + 6000) - rPh γ0 el0 f)) ky_589779_SpillForgeModel_spill 73 [(2, .int g628104), (0, .ref q589771), (1, .ref q589772)] [] (va_pl P628105 F628106) ((rPh γ el f - rPh γ0 el0 f) / 18) (rPh γ el f - rPh γ0 el0 f) := by
          intro n73_628120
          induction n73_628120 with
          | zero => intro P628105 F628106 γ el g628104 bg628104 hT628107 hs628108 hph628109 hB628110 x628111 x628112 x628113 x628114 x628115 x628116 x628117 x628118 x628119 x628120 hm73_628120; exact absurd hm73_628120 (Nat.not_lt_zero _)
          | succ n73_628120 ih73_628120 =>
            intro P628105 F628106 γ el g628104 bg628104 hT628107 hs628108 hph628109 hB628110 x628111 x628112 x628113 x628114 x628115 x628116 x628117 x628118 x628119 x628120 hm73_628120
            clear r624921 r624925 r624930 r624982 r624983 hph624985 pk624986 r624987 r624989
            have ht628122 : rKd γ q589771 10 := rSk_k hs628108 hzq589771 (by decide) (by decide)
            have ht628123 : rKd γ q589772 9 := rSk_k hs628108 hzq589772 (by decide) (by decide)
            have hf628124 : γ 1 q589772 = f := rSk_1 hs628108 hzq589772 (by decide) hf0
            have pk628125 : rPh γ el f ≤ 387 * B + 6000 := rm_pk (rM_ge hT628107 ht628123 hf628124).1 (rM_bd hB628110)
            have r628126 : 0 < γ 6 (γ 1 q589772) := by rw [hf628124]; omega
            have hm628127 : q589771 ∈ P628105 := RS_m hT628107 ht628122 (by decide)
            refine rk10_e (show rk_10 γ (F628106 q589771) from RS_o hT628107 ht628122) (fun q628129 q628130 p628131 p628132 p628133 p628134 p628135 p628136 p628137 p628138 p628139 p628140 p628141 p628142 p628143 p628144 p628145 he628128 hB628172 ht628146 ht628147 ht628148 ht628149 ht628150 ht628151 ht628152 ht628153 ht628154 ht628155 ht628156 ht628157 ht628158 ht628159 ht628160 ht628161 ht628162 ht628163 ht628164 ht628165 ht628166 ht628167 ht628168 ht628169 hB628173 => ?_)
            have ac628174 : (fI (F628106 q589771) 11).toInt = p628133.toInt := by rw [he628128]; rfl
            have bp628133 : gB p628133 0 100 := (hB628172.2.2.1)
            have ac628175 : (fI (F628106 q589771) 14).toInt = p628136.toInt := by rw [he628128]; rfl
            have bp628136 : gB p628136 0 2000 := (hB628172.2.2.2.1)
            refine G_iload_n 0 dr_cX17_spill_73 rfl ?_
            refine G_aload_n 2 dr_cX17_spill_74 rfl ?_
            have hm628176 : q589772 ∈ P628105 := RS_m hT628107 ht628123 (by decide)
            obtain ⟨q628178, q628179, p628180, p628181, he628177, ht628197, ht628182, ht628183, ht628184, ht628185, r628186, r628187, r628188, r628189, r628190, r628191, r628192, r628193, r628194, r628195, r628196⟩ := show rk_9 γ el q589772 (F628106 q589772) from RS_o hT628107 ht628123
            have bp628180 : gB p628180 0 1000000 := ⟨by omega, by omega⟩
            have bp628181 : gB p628181 0 1000000 := ⟨by omega, by omega⟩
            have hf628198 : γ 1 q628178 = f := (show γ 1 q628178 = γ 1 q589772 from ht628183).trans hf628124
            have hf628199 : γ 1 q628179 = f := (show γ 1 q628179 = γ 1 q589772 from ht628185).trans hf628124
            have r628200 : γ 6 (γ 1 q589772) = γ 6 f := by rw [hf628124]
            have r628201 : γ 16 (γ 1 q589772) = γ 16 f := by rw [hf628124]
            have r628202 : p628181.toInt = γ 6 f ∧ p628181.toInt ≤ 40 := by omega
            clear r628192
            refine Gw_callV (As := []) (gV_ok D I) (cp_12780_Code_size l hl0 D I P628105 F628106 q589772 q628178 q628179 p628180 p628181 hm628176 he628177) dr_cX17_spill_75 ⟨wr_10_160, wr_1_15, wr_9_131, by decide, rfl, (Nat.le_of_ble_eq_true rfl), (Nat.le_of_ble_eq_true rfl)⟩ wr_9_129 wr_9_130 hm628176 he628177 rfl (rm_zc pk628125) (rm_zs pk628125) (Nat.le_of_ble_eq_true rfl) (fun r628206 w628207 dc628203 ds628204 hp628205 => ?_) (fun _ _ _ _ _ z => z.elim)
            obtain ⟨rfl, rfl, hdc, hds⟩ := hp628205
            change G _ _ _ _ _ _ _ (.int p628181 :: _) _ _ _
            refine G_widen (cs' := ((rPh γ el f - rPh γ0 el0 f) / 18)) (sl' := (rPh γ el f - rPh γ0 el0 f)) (rm_d0 hdc) (rm_d0 hds) ?_
            refine G_icmp_ge 431 dr_cX17_spill_78 (by decide +kernel) (fun hc628208 => ?_) (fun hc628208 => ?_)
            · have r628209 : p628181.toInt ≤ g628104.toInt := gC_le hc628208
              have ac628210 : (fI (F628106 q589771) 11).toInt = p628133.toInt := by rw [he628128]; rfl
              have ac628211 : (fI (F628106 q589771) 14).toInt = p628136.toInt := by rw [he628128]; rfl
              have ni628212 : rNI γ el F628106 q589772 (γ 6 f) (fI (F628106 q589771) 11).toInt := by rw [show (fI (F628106 q589771) 11).toInt = (fI (F624835 q589771) 11).toInt by omega]; exact spI_e rfl spi624920 x589776 (sp_end x628118 (by omega))
              refine G_aload_n 2 dr_cX17_spill_431 rfl ?_
              refine Gw_callV (As := []) (gV_ok D I) (ct_7810_Code_countRows l hl0 D I γ el P628105 F628106 q589772 hT628107 ht628123 (by omega)) dr_cX17_spill_432 ⟨wr_10_229, wr_1_15, wr_10_232, by decide, rfl, (Nat.le_of_ble_eq_true rfl), (Nat.le_of_ble_eq_true rfl)⟩ wr_10_230 wr_10_231 hm628176 he628177 rfl (rm_zc pk628125) (rm_zs pk628125) (Nat.le_of_ble_eq_true rfl) (fun r628216 w628217 dc628213 ds628214 hp628215 => ?_) (fun _ _ _ _ _ z => z.elim)
              obtain ⟨o628218, rfl, rfl, hdc, hds, ht628219⟩ := hp628215
              have bo628218 := gB_any o628218
              change G _ _ _ _ _ _ _ (.int o628218 :: _) _ _ _
              refine G_widen (cs' := ((rPh γ el f - rPh γ0 el0 f) / 18)) (sl' := (rPh γ el f - rPh γ0 el0 f)) (rm_d0 hdc) (rm_d0 hds) ?_
              refine G_sipush 4000 dr_cX17_spill_435 (by decide +kernel) ?_
              refine G_icmp_gt 445 dr_cX17_spill_438 (by decide +kernel) (fun hc628220 => ?_) (fun hc628220 => ?_)
              · have r628221 : 4000 < o628218.toInt := gj_ltL hc628220 (show Int32.toInt 4000 = 4000 by decide)
                have bo628218' : gB o628218 4001 2147483647 := ⟨by omega, by omega⟩
                refine G_iconst 0 dr_cX17_spill_445 (by decide +kernel) ?_
                exact G_zretA FieldType.boolean dr_cX17_spill_446 rfl rfl (rm_zc pk628125) (rm_zs pk628125) ⟨P628105, F628106, γ, el, 0, rfl, rfl, hs628108, (rm_pp hph628109), hB628110, (gB_w (gBl (show Int32.toInt 0 = 0 by decide)) (by decide) (by decide)), (by have qa0 : Int32.toInt 0 = 0 := (by decide); omega), (Or.inl (by decide)), x628119, x628120⟩
              · have r628222 : o628218.toInt ≤ 4000 := gj_nltL hc628220 (show Int32.toInt 4000 = 4000 by decide)
                have bo628218' : gB o628218 (-2147483648) 4000 := ⟨by omega, by omega⟩
                refine G_iconst 1 dr_cX17_spill_441 (by decide +kernel) ?_
                refine G_goto 446 dr_cX17_spill_442 (by decide +kernel) ?_
                exact G_zretA FieldType.boolean dr_cX17_spill_446 rfl rfl (rm_zc pk628125) (rm_zs pk628125) ⟨P628105, F628106, γ, el, 1, rfl, rfl, hs628108, (rm_pp hph628109), hB628110, (gB_w (gBl (show Int32.toInt 1 = 1 by decide)) (by decide) (by decide)), (by have qa0 : Int32.toInt 1 = 1 := (by decide); omega), (Or.inr ⟨by omega, by omega, by omega, by omega, by omega, ni628212⟩), x628119, x628120⟩
            · have r628223 : g628104.toInt < p628181.toInt := gC_nle hc628208
              have bg628104' : gB g628104 0 999999 := ⟨by omega, by omega⟩
              have bp628181' : gB p628181 1 1000000 := ⟨by omega, by omega⟩
              refine G_aload_n 2 dr_cX17_spill_81 rfl ?_
              refine G_iload_n 0 dr_cX17_spill_82 rfl ?_
              have hm628224 : q628178 ∈ P628105 := RS_m hT628107 ht628182 (by decide)
              obtain ⟨⟨p628226, p628227, q628228, he628225, r628229, r628230, r628231, r628233⟩, r628232⟩ := show rk_4 D I γ el F628106 q628178 from RS_o hT628107 ht628182
              have bp628226 := gB_any p628226
              have bp628227 : gB p628227 0 1000000 := ⟨by omega, by omega⟩
              obtain ⟨r628234, r628235, n628242, f628243, r628236, r628237, r628238, r628239, r628240, r628241⟩ := rLC_n r628231 (by omega)
              have hm628244 : q628228 ∈ P628105 := RS_m hT628107 r628234 (by decide)
              obtain ⟨q628245, hx628246⟩ : ∃ x, x = el q628178 g628104.toInt.toNat := ⟨_, rfl⟩
              have hx628247 : f628243 g628104.toNatClampNeg = some q628245 := (r628240 _ (show g628104.toInt.toNat < γ 2 q628178 by first | assumption | omega)).trans (by rw [hx628246])
              have ht628250 : rKd γ q628245 2 := by rw [hx628246]; exact (r628193 _ (by omega)).resolve_right (fun z => absurd z.1 (by omega))
              have ht628251 : rFm γ q628245 q628178 := by rw [hx628246]; exact (r628232 _ (show g628104.toInt.toNat < γ 2 q628178 by omega)).2.1
              have hm628252 : q628245 ∈ P628105 := RS_m hT628107 ht628250 (by decide)
              obtain ⟨q628254, q628255, p628256, p628257, he628253, ht628264, ht628258, ht628259, ht628260, ht628261, ht628262, bp628256, bp628257, r628263, r628265, r628266⟩ := show rk_2 γ q628245 (F628106 q628245) from RS_o hT628107 ht628250
              refine Gw_callV (As := [.int g628104]) (gV_ok D I) (cp_7901_Code_get l hl0 D I P628105 F628106 q589772 q628178 q628228 g628104 q628179 p628180 p628181 p628226 p628227 f628243 n628242 q628245 q628254 q628255 p628256 p628257 hm628176 hm628224 hm628244 hm628252 he628177 he628225 r628236 he628253 (gB_w bg628104' (by decide) (by decide)) (gB_w bp628227 (by decide) (by decide)) (by omega) (by omega) (by assumption) (by omega)) dr_cX17_spill_83 ⟨wr_10_161, wr_1_15, wr_10_141, by decide, rfl, (Nat.le_of_ble_eq_true rfl), (Nat.le_of_ble_eq_true rfl)⟩ wr_10_139 wr_10_140 hm628176 he628177 rfl (rm_zc pk628125) (rm_zs pk628125) (Nat.le_of_ble_eq_true rfl) (fun r628270 w628271 dc628267 ds628268 hp628269 => ?_) (fun _ _ _ _ _ z => z.elim)
              obtain ⟨rfl, rfl, hdc, hds, ht628272⟩ := hp628269
              change G _ _ _ _ _ _ _ (.ref q628245 :: _) _ _ _
              refine G_widen (cs' := ((rPh γ el f - rPh γ0 el0 f) / 18)) (sl' := (rPh γ el f - rPh γ0 el0 f)) (rm_d0 hdc) (rm_d0 hds) ?_
              have hf628273 : γ 1 q628245 = f := (show γ 1 q628245 = γ 1 q628178 from ht628251).trans ((show γ 1 q628178 = γ 1 q589772 from ht628183).trans hf628124)
              have hf628274 : γ 1 q628254 = f := (show γ 1 q628254 = γ 1 q628245 from ht628259).trans hf628273
              have hf628275 : γ 1 q628255 = f := (show γ 1 q628255 = γ 1 q628245 from ht628261).trans hf628273
              have r628276 : γ 6 (γ 1 q628245) = γ 6 f := by rw [hf628273]
              have r628277 : γ 7 (γ 1 q628245) = γ 7 f := by rw [hf628273]
              have r628278 : γ 19 (γ 1 q628245) = γ 19 f := by rw [hf628273]
              have r628279 := r628263.resolve_left (by omega)
              clear r628263
              have r628280 : γ 2 (γ 14 q628245) = γ 2 q628254 := by rw [ht628264.1]
              have r628281 : g628104.toInt.toNat < γ 2 (γ 14 q589772) := by rw [ht628197.1]; omega
              have r628282 : el (γ 14 q589772) g628104.toInt.toNat = q628245 := by rw [ht628197.1, hx628246]
              refine G_astore_n (L' := [(3, .ref q628245), (2, .int g628104), (0, .ref q589771), (1, .ref q589772)]) dr_cX17_spill_86 (Nat.le_of_ble_eq_true rfl) rfl ?_
              refine G_iconst 0 dr_cX17_spill_87 (by decide +kernel) ?_
              refine G_istore (L' := [(4, .int 0), (3, .ref q628245), (2, .int g628104), (0, .ref q589771), (1, .ref q589772)]) dr_cX17_spill_88 (Nat.le_of_ble_eq_true rfl) rfl ?_
              have hlp90_629771 : ∀ (n90_629771 : Nat) (P629750 : List Nat) (F629751 : Nat → va_E) (γ el : Nat → Nat → Nat) (g629749 : Int32), gB g629749 0 1000003 → RS D I P629750 F629751 γ el → rSk f [101] ([1, 3, 5, 6, 8, 9, 101] ++ npk) D I P589769 F589770 γ0 el0 P629750 F629751 γ el → rPh γ0 el0 f ≤ rPh γ el f → rBd γ el f B → rKd γ q628245 2 → γ 1 q628245 = f → g628104.toInt.toNat < γ 2 (γ 14 q589772) → el (γ 14 q589772) g628104.toInt.toNat = q628245 → γ 6 f = γ0 6 f → γ 18 f = γ0 18 f → ((γ 7 f : Nat) : Int) = (fI (F629751 q589771) 11).toInt → (fI (F629751 q589771) 11).toInt = (fI (F624835 q589771) 11).toInt → ((γ 16 f : Nat) : Int) + 2001 ≤ (B : Int) + (fI (F629751 q589771) 14).toInt → 100 ≤ (fI (F629751 q589771) 14).toInt → (F629751 (γ0 9 19) = F624835 (γ0 9 19)) → rPl γ el F629751 q589772 (γ 6 f) (spQ (cB (F589770 (γ0 9 3))) (cB (F624835 (γ0 9 19))) (g628104.toInt : Int).toNat (g629749.toInt : Int).toNat) → (g629749.toInt : Int) ≤ γ 2 (γ 14 q628245) + 1 → (g628104.toInt : Int) < γ 6 f → (F629751 (γ0 9 3) = F589770 (γ0 9 3)) → mKp (F589770 q589771) (F629751 q589771) → (γ 2 (γ 14 q628245) + 1 - (g629749.toInt : Int).toNat) < n90_629771 → G (gV D I) l (gRm 9 195 (((387 * B + 6000) - rPh γ0 el0 f) / 18) ((387 * B + 6000) - rPh γ0 el0 f)) (gMA (gV D I) (pg_589779_SpillForgeModel_spill D I γ0 el0 f B P589769 F589770 q589771 q589772) gNA (((387 * B + 6000) - rPh γ0 el0 f) / 18) ((387 * B + 6000) - rPh γ0 el0 f)) ky_589779_SpillForgeModel_spill 90 [(4, .int g629749), (3, .ref q628245), (2, .int g628104), (0, .ref q589771), (1, .ref q589772)] [] (va_pl P629750 F629751) ((rPh γ el f - rPh γ0 el0 f) / 18) (rPh γ el f - rPh γ0 el0 f) := by
                intro n90_629771
                induction n90_629771 with
                | zero => intro P629750 F629751 γ el g629749 bg629749 hT629752 hs629753 hph629754 hB629755 ht629756 hf629757 r629758 r629759 x629760 x629761 x629762 x629763 x629764 x629765 x629766 x629767 x629768 x629769 x629770 x629771 hm90_629771; exact absurd hm90_629771 (Nat.not_lt_zero _)
                | succ n90_629771 ih90_629771 =>
                  intro P629750 F629751 γ el g629749 bg629749 hT629752 hs629753 hph629754 hB629755 ht629756 hf629757 r629758 r629759 x629760 x629761 x629762 x629763 x629764 x629765 x629766 x629767 x629768 x629769 x629770 x629771 hm90_629771
                  clear r628186 r628187 r628188 r628189 r628190 r628191 r628193 r628194 r628195 r628196 bp628180 bp628181 bp628256 bp628257 r628265 r628266 r628200 r628201 r628202 r628229 r628230 r628231 r628233 r628232 r628234 r628235 r628236 r628237 r628238 r628239 r628240 r628241 r628276 r628277 r628278 r628279 r628280 r628281 r628282
                  have ht629773 : rKd γ q589771 10 := rSk_k hs629753 hzq589771 (by decide) (by decide)
                  have ht629774 : rKd γ q589772 9 := rSk_k hs629753 hzq589772 (by decide) (by decide)
                  have hf629775 : γ 1 q589772 = f := rSk_1 hs629753 hzq589772 (by decide) hf0
                  have pk629776 : rPh γ el f ≤ 387 * B + 6000 := rm_pk (rM_ge hT629752 ht629774 hf629775).1 (rM_bd hB629755)
                  have r629777 : 0 < γ 6 (γ 1 q589772) := by rw [hf629775]; omega
                  have hm629778 : q589771 ∈ P629750 := RS_m hT629752 ht629773 (by decide)
                  refine rk10_e (show rk_10 γ (F629751 q589771) from RS_o hT629752 ht629773) (fun q629780 q629781 p629782 p629783 p629784 p629785 p629786 p629787 p629788 p629789 p629790 p629791 p629792 p629793 p629794 p629795 p629796 he629779 hB629823 ht629797 ht629798 ht629799 ht629800 ht629801 ht629802 ht629803 ht629804 ht629805 ht629806 ht629807 ht629808 ht629809 ht629810 ht629811 ht629812 ht629813 ht629814 ht629815 ht629816 ht629817 ht629818 ht629819 ht629820 hB629824 => ?_)
                  have ac629825 : (fI (F629751 q589771) 11).toInt = p629784.toInt := by rw [he629779]; rfl
                  have bp629784 : gB p629784 0 100 := (hB629823.2.2.1)
                  have ac629826 : (fI (F629751 q589771) 14).toInt = p629787.toInt := by rw [he629779]; rfl
                  have bp629787 : gB p629787 0 2000 := (hB629823.2.2.2.1)
                  refine G_iload 0 dr_cX17_spill_90 rfl ?_
                  refine G_aload_n 1 dr_cX17_spill_92 rfl ?_
                  have hm629827 : q628245 ∈ P629750 := RS_m hT629752 ht629756 (by decide)
                  obtain ⟨q629829, q629830, p629831, p629832, he629828, ht629839, ht629833, ht629834, ht629835, ht629836, ht629837, bp629831, bp629832, r629838, r629840, r629841⟩ := show rk_2 γ q628245 (F629751 q628245) from RS_o hT629752 ht629756
                  have hf629842 : γ 1 q629829 = f := (show γ 1 q629829 = γ 1 q628245 from ht629834).trans hf629757
                  have hf629843 : γ 1 q629830 = f := (show γ 1 q629830 = γ 1 q628245 from ht629836).trans hf629757
                  have r629844 : γ 6 (γ 1 q628245) = γ 6 f := by rw [hf629757]
                  have r629845 : γ 7 (γ 1 q628245) = γ 7 f := by rw [hf629757]
                  have r629846 : γ 19 (γ 1 q628245) = γ 19 f := by rw [hf629757]
                  have r629847 := r629838.resolve_left (by omega)
                  clear r629838
                  have r629848 : γ 2 (γ 14 q628245) = γ 2 q629829 := by rw [ht629839.1]
                  refine Gp_get 0 hm629827 he629828 dr_cX17_spill_93 (gk_X12 D I) (Nat.le_of_ble_eq_true rfl) wr_9_220 rfl ?_
                  have hm629849 : q629829 ∈ P629750 := RS_m hT629752 ht629833 (by decide)
                  obtain ⟨⟨p629851, p629852, q629853, he629850, r629854, r629855, r629856, r629858⟩, r629857⟩ := show rk_3 D I γ el F629751 q629829 from RS_o hT629752 ht629833
                  have bp629851 := gB_any p629851
                  have bp629852 : gB p629852 0 1000000 := ⟨by omega, by omega⟩
                  refine Gw_callV (As := []) (gV_ok D I) (cp_7_ArrayList_size l hl0 D I P629750 F629751 q629829 p629851 q629853 p629852 hm629849 he629850 (gB_w bp629852 (by decide) (by decide))) dr_cX17_spill_96 ⟨wr_10_200, wr_1_18, wr_9_160, by decide, rfl, (Nat.le_of_ble_eq_true rfl), (Nat.le_of_ble_eq_true rfl)⟩ wr_9_158 wr_9_159 hm629849 he629850 rfl (rm_zc pk629776) (rm_zs pk629776) (Nat.le_of_ble_eq_true rfl) (fun r629862 w629863 dc629859 ds629860 hp629861 => ?_) (fun _ _ _ _ _ z => z.elim)
                  obtain ⟨rfl, rfl, hdc, hds⟩ := hp629861
                  change G _ _ _ _ _ _ _ (.int p629852 :: _) _ _ _
                  refine G_widen (cs' := ((rPh γ el f - rPh γ0 el0 f) / 18)) (sl' := (rPh γ el f - rPh γ0 el0 f)) (rm_d0 hdc) (rm_d0 hds) ?_
                  refine G_icmp_gt 425 dr_cX17_spill_99 (by decide +kernel) (fun hc629864 => ?_) (fun hc629864 => ?_)
                  · have r629865 : p629852.toInt < g629749.toInt := gC_lt hc629864
                    have bg629749' : gB g629749 1 1000003 := ⟨by omega, by omega⟩
                    obtain ⟨z629866, hz629866⟩ : ∃ z : Int32, z = g628104 + Int32.ofInt 1 := ⟨_, rfl⟩
                    have ez629866 : z629866.toInt = g628104.toInt + 1 := gI_inc hz629866 (by decide) bg628104' (by decide) (by decide)
                    have bz629866 : gB z629866 1 1000000 := ⟨by omega, by omega⟩
                    refine G_iinc (L' := [(2, .int z629866), (4, .int g629749), (3, .ref q628245), (0, .ref q589771), (1, .ref q589772)]) z629866 2 dr_cX17_spill_425 rfl hz629866.symm (Nat.le_of_ble_eq_true rfl) rfl ?_
                    refine G_goto 73 dr_cX17_spill_428 (by decide +kernel) ?_
                    refine G_lv (L' := [(2, .int z629866), (0, .ref q589771), (1, .ref q589772)]) [0, 3, 4] rfl ?_
                    have ac629867 : (fI (F629751 q589771) 11).toInt = p629784.toInt := by rw [he629779]; rfl
                    have ac629868 : (fI (F629751 q589771) 14).toInt = p629787.toInt := by rw [he629779]; rfl
                    exact ih73_628120 P629750 F629751 γ el z629866 (gB_w bz629866 (by decide) (by decide)) hT629752 hs629753 hph629754 hB629755 (by omega) (by omega) (by omega) (by omega) (by omega) (by omega) x629766 (sp_nx x629767 (by unfold rwL; rw [r629759]; omega) (by omega)) x629770 x629771 (by omega)
                  · have r629869 : g629749.toInt ≤ p629852.toInt := gC_nlt hc629864
                    have bg629749' : gB g629749 0 1000000 := ⟨by omega, by omega⟩
                    have jn292_629899 : ∀ (P629872 : List Nat) (F629873 : Nat → va_E) (γ el : Nat → Nat → Nat) (g629870 : Int32) (q629871 : Nat), gB g629870 0 1000001 → RS D I P629872 F629873 γ el → rSk f [101] ([1, 3, 5, 6, 8, 9, 101] ++ npk) D I P589769 F589770 γ0 el0 P629872 F629873 γ el → rPh γ0 el0 f ≤ rPh γ el f → rBd γ el f B → rKd γ q628245 2 → γ 1 q628245 = f → g628104.toInt.toNat < γ 2 (γ 14 q589772) → el (γ 14 q589772) g628104.toInt.toNat = q628245 → rKd γ q629871 1 → γ 1 q629871 = f → γ 6 f = γ0 6 f → γ 18 f = γ0 18 f → ((γ 7 f : Nat) : Int) = (fI (F629873 q589771) 11).toInt → (fI (F629873 q589771) 11).toInt = (fI (F624835 q589771) 11).toInt → ((γ 16 f : Nat) : Int) + 2001 ≤ (B : Int) + (fI (F629873 q589771) 14).toInt → 100 ≤ (fI (F629873 q589771) 14).toInt → (F629873 (γ0 9 19) = F624835 (γ0 9 19)) → rPl γ el F629873 q589772 (γ 6 f) (spX (cB (F589770 (γ0 9 3))) (cB (F624835 (γ0 9 19))) (g628104.toInt : Int).toNat (g629870.toInt : Int).toNat) → rAt γ el q589772 (g628104.toInt : Int).toNat (g629870.toInt : Int).toNat = q629871 → rS2 (cB (F589770 (γ0 9 3))) (cB (F624835 (γ0 9 19))) (F629873 q629871) → (g629870.toInt : Int) ≤ γ 2 (γ 14 q628245) → (g628104.toInt : Int) < γ 6 f → (γ 2 (γ 14 q628245) + 1 - (g629870.toInt : Int).toNat) < n90_629771 + 1 → eO g629870.toInt (γ 2 (γ 14 q628245) : Nat) (fI (F629873 q629871) 0).toInt → (F629873 (γ0 9 3) = F589770 (γ0 9 3)) → mKp (F589770 q589771) (F629873 q589771) → G (gV D I) l (gRm 9 195 (((387 * B + 6000) - rPh γ0 el0 f) / 18) ((387 * B + 6000) - rPh γ0 el0 f)) (gMA (gV D I) (pg_589779_SpillForgeModel_spill D I γ0 el0 f B P589769 F589770 q589771 q589772) gNA (((387 * B + 6000) - rPh γ0 el0 f) / 18) ((387 * B + 6000) - rPh γ0 el0 f)) ky_589779_SpillForgeModel_spill 292 [(0, .ref q589771), (1, .ref q589772), (2, .int g628104), (3, .ref q628245), (4, .int g629870), (5, .ref q629871)] [] (va_pl P629872 F629873) ((rPh γ el f - rPh γ0 el0 f) / 18) (rPh γ el f - rPh γ0 el0 f) := by
                      intro P629872 F629873 γ el g629870 q629871 bg629870 hT629874 hs629875 hph629876 hB629877 ht629878 hf629879 r629880 r629881 ht629882 hf629883 x629884 x629885 x629886 x629887 x629888 x629889 x629890 x629891 x629892 x629893 x629894 x629895 x629896 x629897 x629898 x629899
                      clear bp629831 bp629832 r629840 r629841 r629844 r629845 r629846 r629847 r629848 r629854 r629855 r629856 r629858 r629857
                      have ht629901 : rKd γ q589771 10 := rSk_k hs629875 hzq589771 (by decide) (by decide)
                      have ht629902 : rKd γ q589772 9 := rSk_k hs629875 hzq589772 (by decide) (by decide)
                      have hf629903 : γ 1 q589772 = f := rSk_1 hs629875 hzq589772 (by decide) hf0
                      have pk629904 : rPh γ el f ≤ 387 * B + 6000 := rm_pk (rM_ge hT629874 ht629902 hf629903).1 (rM_bd hB629877)
                      have r629905 : 0 < γ 6 (γ 1 q589772) := by rw [hf629903]; omega
                      have hm629906 : q589771 ∈ P629872 := RS_m hT629874 ht629901 (by decide)
                      refine rk10_e (show rk_10 γ (F629873 q589771) from RS_o hT629874 ht629901) (fun q629908 q629909 p629910 p629911 p629912 p629913 p629914 p629915 p629916 p629917 p629918 p629919 p629920 p629921 p629922 p629923 p629924 he629907 hB629951 ht629925 ht629926 ht629927 ht629928 ht629929 ht629930 ht629931 ht629932 ht629933 ht629934 ht629935 ht629936 ht629937 ht629938 ht629939 ht629940 ht629941 ht629942 ht629943 ht629944 ht629945 ht629946 ht629947 ht629948 hB629952 => ?_)
                      have ac629953 : (fI (F629873 q589771) 11).toInt = p629912.toInt := by rw [he629907]; rfl
                      have bp629912 : gB p629912 0 100 := (hB629951.2.2.1)
                      have ac629954 : (fI (F629873 q589771) 14).toInt = p629915.toInt := by rw [he629907]; rfl
                      have bp629915 : gB p629915 0 2000 := (hB629951.2.2.2.1)
                      have hm629955 : q629871 ∈ P629872 := RS_m hT629874 ht629882 (by decide)
                      obtain ⟨p629957, p629958, p629959, p629960, p629961, p629962, p629963, he629956, bp629957, bp629958, bp629961, bp629962, bp629963, r629964, r629965, r629966, r629967, r629968⟩ := show rk_1 γ q629871 (F629873 q629871) from RS_o hT629874 ht629882
                      have bp629959 := gB_any p629959
                      have bp629960 := gB_any p629960
                      replace r629964 : gH _ := r629964
                      replace r629965 : gH _ := r629965
                      replace r629966 : gH _ := r629966
                      replace r629967 : gH _ := r629967
                      replace r629968 : gH _ := r629968
                      have r629969 : γ 7 (γ 1 q629871) = γ 7 f := by rw [hf629883]
                      refine G_aload 5 dr_cX17_spill_292 rfl ?_
                      refine Gw_callV (As := []) (gV_ok D I) (cp_409898_Row_sets l hl0 D I P629872 F629873 q629871 p629957 p629958 p629959 p629960 p629961 p629962 p629963 hm629955 he629956 bp629957 bp629958 bp629961 bp629962 bp629963) dr_cX17_spill_294 ⟨wr_10_181, wr_1_39, wr_10_184, by decide, rfl, (Nat.le_of_ble_eq_true rfl), (Nat.le_of_ble_eq_true rfl)⟩ wr_10_182 wr_10_183 hm629955 he629956 rfl (rm_zc pk629904) (rm_zs pk629904) (Nat.le_of_ble_eq_true rfl) (fun r629973 w629974 dc629970 ds629971 hp629972 => ?_) (fun _ _ _ _ _ z => z.elim)
                      obtain ⟨o629975, rfl, rfl, hdc, hds, bo629975, x629976, ht629977⟩ := hp629972
                      change G _ _ _ _ _ _ _ (.int o629975 :: _) _ _ _
                      refine G_widen (cs' := ((rPh γ el f - rPh γ0 el0 f) / 18)) (sl' := (rPh γ el f - rPh γ0 el0 f)) (rm_d0 hdc) (rm_d0 hds) ?_
                      refine G_if_eq 419 dr_cX17_spill_297 (by decide +kernel) (fun hc629978 => ?_) (fun hc629978 => ?_)
                      · have r629979 : o629975.toInt = 0 := gj_eq hc629978 (show Int32.toInt 0 = 0 by decide)
                        have bo629975' : gB o629975 0 0 := gB_t0 r629979
                        have rn629981 : rNx (nSp (cB (F589770 (γ0 9 3))) (cB (F624835 (γ0 9 19)))) (F629873 q629871) := rS2_n he629956 he629956 x629893 (fun h => (uS_0 x629976 (by omega) h).elim)
                        have pl629980 := sp_fin x629891 x629892 rn629981 (rfl : (g629870.toInt : Int).toNat + 1 = (g629870.toInt : Int).toNat + 1)
                        obtain ⟨z629982, hz629982⟩ : ∃ z : Int32, z = g629870 + Int32.ofInt 1 := ⟨_, rfl⟩
                        have ez629982 : z629982.toInt = g629870.toInt + 1 := gI_inc hz629982 (by decide) bg629870 (by decide) (by decide)
                        have bz629982 : gB z629982 1 1000002 := ⟨by omega, by omega⟩
                        refine G_iinc (L' := [(4, .int z629982), (0, .ref q589771), (1, .ref q589772), (2, .int g628104), (3, .ref q628245), (5, .ref q629871)]) z629982 4 dr_cX17_spill_419 rfl hz629982.symm (Nat.le_of_ble_eq_true rfl) rfl ?_
                        refine G_goto 90 dr_cX17_spill_422 (by decide +kernel) ?_
                        refine G_lv (L' := [(4, .int z629982), (3, .ref q628245), (2, .int g628104), (0, .ref q589771), (1, .ref q589772)]) [0, 4, 3, 1, 2] rfl ?_
                        have ac629983 : (fI (F629873 q589771) 11).toInt = p629912.toInt := by rw [he629907]; rfl
                        have ac629984 : (fI (F629873 q589771) 14).toInt = p629915.toInt := by rw [he629907]; rfl
                        exact ih90_629771 P629872 F629873 γ el z629982 (gB_w bz629982 (by decide) (by decide)) hT629874 hs629875 hph629876 hB629877 ht629878 hf629879 r629880 r629881 (by omega) (by omega) (by omega) (by omega) (by omega) (by omega) x629890 (by rw [(show (z629982.toInt : Int).toNat = ((g629870.toInt : Int).toNat + 1) from tn_eq1 (by omega) (by omega))]; exact pl629980) (by omega) (by omega) x629898 x629899 (ms_g x629896 (by omega) (by omega) (by omega))
                      · have r629985 : o629975.toInt ≠ 0 := gj_neq hc629978 (show Int32.toInt 0 = 0 by decide)
                        have bo629975' : gB o629975 1 1 := gB_t1 bo629975 r629985
                        refine G_aload 5 dr_cX17_spill_300 rfl ?_
                        refine Gp_get 0 hm629955 he629956 dr_cX17_spill_302 (gk_X15 D I) (Nat.le_of_ble_eq_true rfl) wr_9_177 rfl ?_
                        refine G_bipush 21 dr_cX17_spill_305 (by decide +kernel) ?_
                        refine G_icmp_eq 419 dr_cX17_spill_307 (by decide +kernel) (fun hc629986 => ?_) (fun hc629986 => ?_)
                        · have r629987 : p629957.toInt = 21 := gj_eq hc629986 (show Int32.toInt 21 = 21 by decide)
                          have bp629957' : gB p629957 21 21 := ⟨by omega, by omega⟩
                          have rn629989 : rNx (nSp (cB (F589770 (γ0 9 3))) (cB (F624835 (γ0 9 19)))) (F629873 q629871) := rS2_n he629956 he629956 x629893 (fun _ => Or.inr ⟨rfl, Or.inl (by omega)⟩)
                          have pl629988 := sp_fin x629891 x629892 rn629989 (rfl : (g629870.toInt : Int).toNat + 1 = (g629870.toInt : Int).toNat + 1)
                          obtain ⟨z629990, hz629990⟩ : ∃ z : Int32, z = g629870 + Int32.ofInt 1 := ⟨_, rfl⟩
                          have ez629990 : z629990.toInt = g629870.toInt + 1 := gI_inc hz629990 (by decide) bg629870 (by decide) (by decide)
                          have bz629990 : gB z629990 1 1000002 := ⟨by omega, by omega⟩
                          refine G_iinc (L' := [(4, .int z629990), (0, .ref q589771), (1, .ref q589772), (2, .int g628104), (3, .ref q628245), (5, .ref q629871)]) z629990 4 dr_cX17_spill_419 rfl hz629990.symm (Nat.le_of_ble_eq_true rfl) rfl ?_
                          refine G_goto 90 dr_cX17_spill_422 (by decide +kernel) ?_
                          refine G_lv (L' := [(4, .int z629990), (3, .ref q628245), (2, .int g628104), (0, .ref q589771), (1, .ref q589772)]) [0, 4, 3, 1, 2] rfl ?_
                          have ac629991 : (fI (F629873 q589771) 11).toInt = p629912.toInt := by rw [he629907]; rfl
                          have ac629992 : (fI (F629873 q589771) 14).toInt = p629915.toInt := by rw [he629907]; rfl
                          exact ih90_629771 P629872 F629873 γ el z629990 (gB_w bz629990 (by decide) (by decide)) hT629874 hs629875 hph629876 hB629877 ht629878 hf629879 r629880 r629881 (by omega) (by omega) (by omega) (by omega) (by omega) (by omega) x629890 (by rw [(show (z629990.toInt : Int).toNat = ((g629870.toInt : Int).toNat + 1) from tn_eq1 (by omega) (by omega))]; exact pl629988) (by omega) (by omega) x629898 x629899 (ms_g x629896 (by omega) (by omega) (by omega))
                        · have r629993 : p629957.toInt ≠ 21 := gj_neq hc629986 (show Int32.toInt 21 = 21 by decide)
                          refine G_aload_n 0 dr_cX17_spill_310 rfl ?_
                          refine Gp_get 19 hm629906 he629907 dr_cX17_spill_311 (gk_X17 D I) (Nat.le_of_ble_eq_true rfl) wr_7_93 rfl ?_
                          refine G_aload 5 dr_cX17_spill_314 rfl ?_
                          refine Gp_get 1 hm629955 he629956 dr_cX17_spill_316 (gk_X15 D I) (Nat.le_of_ble_eq_true rfl) wr_9_182 rfl ?_
                          have hm629994 : (γ 9 19) ∈ P629872 := RS_m hT629874 ht629940 (by decide)
                          obtain ⟨f629996, he629995, bf629996⟩ := show rk_21 I (F629873 (γ 9 19)) from RS_o hT629874 ht629940
                          refine Gp_iald 0 hm629994 he629995 dr_cX17_spill_319 rfl (gB_in bp629958 (by decide) (by decide)) (G_nam fun z629997 hz629997 => ?_)
                          have bz629997 : gB z629997 (-1) 1999 := by rw [hz629997]; exact bf629996 _
                          have c9_629998 : cB (F624835 (γ0 9 19)) = f629996 := by rw [← x629890, ← congrFun (rSk_9 hs629875) 19]; exact cB_of he629995
                          have hs629999 : (cB (F624835 (γ0 9 19)) p629958.toInt.toNat).toInt = z629997.toInt := by rw [c9_629998, hz629997]; rfl
                          refine G_if_ge 326 dr_cX17_spill_320 (by decide +kernel) (fun hc630001 => ?_) (fun hc630001 => ?_)
                          · have r630002 : 0 ≤ z629997.toInt := gj_leL hc630001 (show Int32.toInt 0 = 0 by decide)
                            have bz629997' : gB z629997 0 1999 := ⟨by omega, by omega⟩
                            refine G_aload_n 0 dr_cX17_spill_326 rfl ?_
                            refine Gp_get 19 hm629906 he629907 dr_cX17_spill_327 (gk_X17 D I) (Nat.le_of_ble_eq_true rfl) wr_7_93 rfl ?_
                            refine G_aload 5 dr_cX17_spill_330 rfl ?_
                            refine Gp_get 1 hm629955 he629956 dr_cX17_spill_332 (gk_X15 D I) (Nat.le_of_ble_eq_true rfl) wr_9_182 rfl ?_
                            refine Gp_iald 0 hm629994 he629995 dr_cX17_spill_335 rfl (gB_in bp629958 (by decide) (by decide)) (G_eqi (y := z629997) hz629997.symm ?_)
                            have r630003 := (spi624920.2.2.2 p629958.toInt.toNat (tn_lt (by omega) (by omega)) (by omega)).2.2
                            refine G_istore (L' := [(8, .int z629997), (0, .ref q589771), (1, .ref q589772), (2, .int g628104), (3, .ref q628245), (4, .int g629870), (5, .ref q629871)]) dr_cX17_spill_336 (Nat.le_of_ble_eq_true rfl) rfl ?_
                            refine G_aload_n 1 dr_cX17_spill_338 rfl ?_
                            refine Gp_get 14 hm629906 he629907 dr_cX17_spill_339 (gk_X17 D I) (Nat.le_of_ble_eq_true rfl) wr_7_88 rfl ?_
                            refine G_sipush 2000 dr_cX17_spill_342 (by decide +kernel) ?_
                            refine G_icmp_ne 350 dr_cX17_spill_345 (by decide +kernel) (fun hc630004 => ?_) (fun hc630004 => ?_)
                            · have r630005 : p629915.toInt ≠ 2000 := gj_neq hc630004 (show Int32.toInt 2000 = 2000 by decide)
                              have bp629915' : gB p629915 0 1999 := ⟨by omega, by omega⟩
                              have r630006 := eO_r x629897 (by rw [he629956]; rfl) (uS_1 x629976 (by omega))
                              refine G_aload 6 dr_cX17_spill_350 rfl ?_
                              refine G_aload_n 1 dr_cX17_spill_352 rfl ?_
                              refine Gp_get 14 hm629906 he629907 dr_cX17_spill_353 (gk_X17 D I) (Nat.le_of_ble_eq_true rfl) wr_7_88 rfl ?_
                              refine Gp_put 1 hm629955 he629956 dr_cX17_spill_356 (gk_X15 D I) (Nat.le_of_ble_eq_true rfl) wr_9_182 rfl rfl rfl (Nat.le_of_ble_eq_true rfl) (fun F630007 e630008 n630009 => ?_)
                              have r630010 := rk1_at hT629874 ht629882 he629956
                              have he630011 : F630007 q589771 = .inr (22, [.ref (γ 9 0), .ref (γ 9 1), .ref (γ 9 2), .ref (γ 9 3), .ref (γ 9 4), .ref (γ 9 5), .ref (γ 9 6), .ref (γ 9 7), .ref (γ 9 8), .int p629910, .int p629911, .int p629912, .int p629913, .int p629914, .int p629915, .ref (γ 9 15), .ref (γ 9 16), .ref (γ 9 17), .ref (γ 9 18), .ref (γ 9 19), .ref (γ 9 20), .ref (γ 9 21), .ref (γ 9 22), .int p629916, .int p629917, .int p629918, .int p629919, .int p629920, .ref q629908, .ref (γ 9 29), .int p629921, .ref (γ 9 31), .int p629922, .int p629923, .int p629924, .ref q629909]) := (n630009 q589771 (rn_oo he629907 he629956 (by decide))).trans he629907
                              have he630012 : F630007 (γ 9 19) = .inl (I .int, 2000, .inl f629996) := (n630009 (γ 9 19) (rn_ao he629995 he629956)).trans he629995
                              have he630013 : F630007 q629871 = .inr (20, [.int p629957, .int p629915, .int p629959, .int p629960, .int p629961, .int p629962, .int p629963]) := e630008
                              have mk630014 : mKp (F589770 q589771) (F630007 q589771) := mKp_tr x629899 (mKp_eq (n630009 q589771 (rn_ty ht629901 ht629882 (by decide))))
                              have kp630015 : F630007 (γ0 9 3) = F589770 (γ0 9 3) := (n630009 (γ0 9 3) (rn_ty (rSk_k hs629875 k0_3 (by decide) (by decide)) ht629882 (by decide))).trans x629898
                              have kp630016 : F630007 (γ0 9 19) = F624835 (γ0 9 19) := (n630009 (γ0 9 19) (rn_ty (rSk_k hs629875 k0_19 (by decide) (by decide)) ht629882 (by decide))).trans x629890
                              have hT630017 : RS D I P629872 F630007 γ el := RS_set hT629874 n630009 ht629882 (by decide) ⟨p629957, p629915, p629959, p629960, p629961, p629962, p629963, he630013, bp629957, bp629915', bp629961, bp629962, bp629963, (gHe r629964), (gHe r629965), (gHe r629966), r630010.1, r630010.2⟩
                              have hs630019 := rSk_put hs629875 hT630017 n630009 ht629882 (by decide) (by decide) (Or.inr (Or.inl hf629883))
                              have hm630021 : q628245 ∈ P629872 := RS_m hT630017 ht629878 (by decide)
                              obtain ⟨q630023, q630024, p630025, p630026, he630022, ht630033, ht630027, ht630028, ht630029, ht630030, ht630031, bp630025, bp630026, r630032, r630034, r630035⟩ := show rk_2 γ q628245 (F630007 q628245) from RS_o hT630017 ht629878
                              have hf630036 : γ 1 q630023 = f := (show γ 1 q630023 = γ 1 q628245 from ht630028).trans hf629879
                              have hf630037 : γ 1 q630024 = f := (show γ 1 q630024 = γ 1 q628245 from ht630030).trans hf629879
                              have r630038 : γ 6 (γ 1 q628245) = γ 6 f := by rw [hf629879]
                              have r630039 : γ 7 (γ 1 q628245) = γ 7 f := by rw [hf629879]
                              have r630040 : γ 19 (γ 1 q628245) = γ 19 f := by rw [hf629879]
                              have r630041 := r630032.resolve_left (by omega)
                              clear r630032
                              have r630042 : γ 2 (γ 14 q628245) = γ 2 q630023 := by rw [ht630033.1]
                              have pl630020 := sp_put hT629874 ht629902 hf629903 x629891 n630009 x629892 (show (g628104.toInt : Int).toNat < γ 6 f from tn_lt (by omega) (by omega)) (by unfold rwL; rw [r629881]; exact tn_le0 (by omega) (by omega))
                              have rn630044 : rNx (nSp (cB (F589770 (γ0 9 3))) (cB (F624835 (γ0 9 19)))) (F630007 q629871) := rS2_n he629956 he630013 x629893 (fun _ => Or.inl (by omega))
                              have pl630043 := sp_fin pl630020 x629892 rn630044 (rfl : (g629870.toInt : Int).toNat + 1 = (g629870.toInt : Int).toNat + 1)
                              refine G_aload_n 1 dr_cX17_spill_359 rfl ?_
                              refine G_dup dr_cX17_spill_360 rfl ?_
                              refine Gp_get 14 hm629906 he630011 dr_cX17_spill_361 (gk_X17 D I) (Nat.le_of_ble_eq_true rfl) wr_7_88 rfl ?_
                              refine G_iconst 1 dr_cX17_spill_364 (by decide +kernel) ?_
                              refine G_iadd dr_cX17_spill_365 (G_nam fun z630045 hz630045 => ?_)
                              have ez630045 : z630045.toInt = p629915.toInt + 1 := by rw [gI_add hz630045 bp629915' (gBl (show Int32.toInt 1 = 1 by decide)) (by decide) (by decide), show Int32.toInt 1 = 1 from by decide]
                              have bz630045 : gB z630045 1 2000 := gB_add (gI_add hz630045 bp629915' (gBl (show Int32.toInt 1 = 1 by decide)) (by decide) (by decide)) bp629915' (gBl (show Int32.toInt 1 = 1 by decide)) (by decide) (by decide)
                              refine Gp_put 14 hm629906 he630011 dr_cX17_spill_366 (gk_X17 D I) (Nat.le_of_ble_eq_true rfl) wr_7_88 rfl rfl rfl (Nat.le_of_ble_eq_true rfl) (fun F630046 e630047 n630048 => ?_)
                              have he630049 : F630046 q629871 = .inr (20, [.int p629957, .int p629915, .int p629959, .int p629960, .int p629961, .int p629962, .int p629963]) := (n630048 q629871 (rn_oo he630013 he630011 (by decide))).trans he630013
                              have he630050 : F630046 (γ 9 19) = .inl (I .int, 2000, .inl f629996) := (n630048 (γ 9 19) (rn_ao he630012 he630011)).trans he630012
                              have he630051 : F630046 q628245 = .inr (17, [.ref q630023, .ref q630024, .int p630025, .int p630026]) := (n630048 q628245 (rn_oo he630022 he630011 (by decide))).trans he630022
                              have he630052 : F630046 q589771 = .inr (22, [.ref (γ 9 0), .ref (γ 9 1), .ref (γ 9 2), .ref (γ 9 3), .ref (γ 9 4), .ref (γ 9 5), .ref (γ 9 6), .ref (γ 9 7), .ref (γ 9 8), .int p629910, .int p629911, .int p629912, .int p629913, .int p629914, .int z630045, .ref (γ 9 15), .ref (γ 9 16), .ref (γ 9 17), .ref (γ 9 18), .ref (γ 9 19), .ref (γ 9 20), .ref (γ 9 21), .ref (γ 9 22), .int p629916, .int p629917, .int p629918, .int p629919, .int p629920, .ref q629908, .ref (γ 9 29), .int p629921, .ref (γ 9 31), .int p629922, .int p629923, .int p629924, .ref q629909]) := e630047
                              have mk630053 : mKp (F589770 q589771) (F630046 q589771) := mKp_tr mk630014 (by rw [he630011, he630052]; exact ⟨rfl, rfl⟩)
                              have kp630054 : F630046 (γ0 9 3) = F589770 (γ0 9 3) := (n630048 (γ0 9 3) (rn_ty (rSk_k hs630019 k0_3 (by decide) (by decide)) ht629901 (by decide))).trans kp630015
                              have kp630055 : F630046 (γ0 9 19) = F624835 (γ0 9 19) := (n630048 (γ0 9 19) (rn_ty (rSk_k hs630019 k0_19 (by decide) (by decide)) ht629901 (by decide))).trans kp630016
                              have hT630056 : RS D I P629872 F630046 γ el := RS_set hT630017 n630048 ht629901 (by decide) ⟨q629908, q629909, p629910, p629911, p629912, p629913, p629914, z630045, p629916, p629917, p629918, p629919, p629920, p629921, p629922, p629923, p629924, he630052, ⟨(hB629951.1), (hB629951.2.1), bp629912, (gB_w bz630045 (by decide) (by decide)), (hB629951.2.2.2.2.1), (hB629951.2.2.2.2.2.1), (hB629951.2.2.2.2.2.2.1), (hB629951.2.2.2.2.2.2.2.1), (hB629951.2.2.2.2.2.2.2.2)⟩, ht629925, ht629926, ht629927, ht629928, ht629929, ht629930, ht629931, ht629932, ht629933, ht629934, ht629935, ht629936, ht629937, ht629938, ht629939, ht629940, ht629941, ht629942, ht629943, ht629944, ht629945, ht629946, ht629947, ht629948, hB629952⟩
                              have hs630058 := rSk_put hs630019 hT630056 n630048 ht629901 (by decide) (by decide) (Or.inr (Or.inr (by decide)))
                              have pl630059 := rPl_fr hT630017 ht629902 hf629903 pl630043 (fun b hb _ => n630048 b (rn_ty (show rKd γ b 1 from hb) ht629901 (by decide)))
                              have ac630060 : (fI (F630046 q589771) 11).toInt = p629912.toInt := by rw [he630052]; rfl
                              have ac630061 : (fI (F630046 q589771) 14).toInt = z630045.toInt := by rw [he630052]; rfl
                              refine G_aload_n 2 dr_cX17_spill_369 rfl ?_
                              have rg630062 := rM_ge hT630056 ht629902 hf629903
                              have rm630063 := rM_bd hB629877
                              have bd630064 := rBd_c hT630056 ht629902 hf629903 hB629877
                              have rc630065 := rc_at hT630056 ht629902 hf629903
                              obtain ⟨q630072, hl630073⟩ : ∃ z, z = γ 14 q628245 := ⟨_, rfl⟩
                              have hl630074 : γ 0 q630072 = 3 ∨ γ 0 q630072 = 103 := by rw [hl630073, ← r629881]; exact (RS_lst hT630056 rc630065.2.1 r629880).1
                              refine Gt_row (c := q589772) (f := f) hl0 dr_cX17_spill_370 ⟨wr_10_206, wr_1_15, wr_10_82, by decide, rfl, (Nat.le_of_ble_eq_true rfl), (Nat.le_of_ble_eq_true rfl)⟩ wr_10_80 wr_10_81 hT630056 ht629902 hf629903 (Nat.le_trans bd630064.2.2.1 (Nat.le_trans hBk (by decide))) (rm_cs hph629876 rg630062.2.1 rm630063 (by decide)) (rm_sl hph629876 rg630062.2.1 rm630063 rm_s18) (Nat.le_of_ble_eq_true rfl) (fun P630066 F630067 γ el q630068 dc630069 ds630070 hq630071 => ?_)
                              have pl630075 := rPl_row hT630056 ht629902 hf629903 hq630071 pl630059
                              obtain ⟨hk630076, x0630077, x1630078, x22630079, x8630080, h16630081, h18630082, hnu630083, hot630084, h45630085, hf0630086, ⟨hr1630087, hr2630088⟩, hM630089, hBB630090⟩ := hq630071
                              have hk630091 := rSk_of hk630076
                              obtain ⟨nu630092, nu630093, nu630094, nu630095⟩ := hnu630083
                              have hT630096 := hk630091.1
                              have hs630097 := rSk_tr hs630058 hk630091 (by decide) (by decide) (by decide)
                              have kp630098 : F630067 (γ0 9 3) = F589770 (γ0 9 3) := (rSk_F hk630091 (rSk_k hs630058 k0_3 (by decide) (by decide)) (by decide) (by decide)).trans kp630054
                              have kp630099 : F630067 (γ0 9 19) = F624835 (γ0 9 19) := (rSk_F hk630091 (rSk_k hs630058 k0_19 (by decide) (by decide)) (by decide) (by decide)).trans kp630055
                              have r630100 := rSk_F hk630091 ht629901 (by decide) (by decide)
                              have ht630101 : rKd γ q589771 10 := rSk_k hk630091 ht629901 (by decide) (by decide)
                              have ht630102 : rKd γ q589772 9 := rSk_k hk630091 ht629902 (by decide) (by decide)
                              have hf630103 : γ 1 q589772 = f := rSk_1 hk630091 ht629902 (by decide) hf629903
                              have ht630104 : rKd γ q628245 2 := rSk_k hk630091 ht629878 (by decide) (by decide)
                              have hf630105 : γ 1 q628245 = f := rSk_1 hk630091 ht629878 (by decide) hf629879
                              have ht630106 : rKd γ q629871 1 := rSk_k hk630091 ht629882 (by decide) (by decide)
                              have hf630107 : γ 1 q629871 = f := rSk_1 hk630091 ht629882 (by decide) hf629883
                              have ht630108 : rKd γ q630023 3 := rSk_k hk630091 ht630027 (by decide) (by decide)
                              have hf630109 : γ 1 q630023 = f := rSk_1 hk630091 ht630027 (by decide) hf630036
                              have mk630110 : mKp (F589770 q589771) (F630067 q589771) := mKp_tr mk630053 (mKp_eq (rSk_F hk630091 ht629901 (by decide) (by decide)))
                              have r630111 := (rSk_s hk630091 ht629902 (by decide)).2.1
                              have r630112 := hot630084 _ (by rw [rc630065.2.1]; decide) (by rw [rc630065.2.1]; decide)
                              have r630113 : g628104.toInt.toNat < γ 2 (γ 14 q589772) := by rw [r630111, r630112.1]; exact r629880
                              have r630114 : el (γ 14 q589772) g628104.toInt.toNat = q628245 := by rw [r630111, r630112.2]; exact r629881
                              have he630115 : F630067 q629871 = .inr (20, [.int p629957, .int p629915, .int p629959, .int p629960, .int p629961, .int p629962, .int p629963]) := (rSk_F hk630091 ht629882 (by decide) (by decide)).trans he630049
                              have hm630116 : q629871 ∈ P630066 := RS_m hT630096 ht630106 (by decide)
                              clear bp630025 bp630026 r630034 r630035 rg630062 rm630063 bd630064 rc630065
                              have hm630117 : q589771 ∈ P630066 := RS_m hT630096 ht630101 (by decide)
                              refine rk10_e (show rk_10 γ (F630067 q589771) from RS_o hT630096 ht630101) (fun q630119 q630120 p630121 p630122 p630123 p630124 p630125 p630126 p630127 p630128 p630129 p630130 p630131 p630132 p630133 p630134 p630135 he630118 hB630162 ht630136 ht630137 ht630138 ht630139 ht630140 ht630141 ht630142 ht630143 ht630144 ht630145 ht630146 ht630147 ht630148 ht630149 ht630150 ht630151 ht630152 ht630153 ht630154 ht630155 ht630156 ht630157 ht630158 ht630159 hB630163 => ?_)
                              have r630164 : p630123.toInt = p629912.toInt := by have z : p630123 = p629912 := congrArg (fun e => fI e 11) (he630118.symm.trans (r630100.trans he630052)); rw [z]
                              have bp630123 : gB p630123 0 100 := (hB630162.2.2.1)
                              have r630165 : p630126.toInt = z630045.toInt := by have z : p630126 = z630045 := congrArg (fun e => fI e 14) (he630118.symm.trans (r630100.trans he630052)); rw [z]
                              have bp630126 : gB p630126 0 2000 := (hB630162.2.2.2.1)
                              have bp630126' : gB p630126 1 2000 := ⟨by omega, by omega⟩
                              have sz630166 := (rSk_s hk630091 ht629878 (by decide)).2.1
                              have sz630167 := congrArg (γ 2) sz630166
                              have sz630168 := (hot630084 q630072 (by omega) (by omega)).1
                              rw [hl630073] at sz630168
                              clear hl630074
                              have sz630169 := (hot630084 q630023 (rT0 ht630027 (by decide)) (by rw [show _ = 3 from ht630027]; decide)).1
                              have r630170 := hf0630086.2.2
                              have hB630171 : rBd γ el f B := hBB630090 B (by omega) hB629877
                              have ht630172 : rKd γ q630068 101 := x0630077
                              have r630173 : γ 8 q630068 < γ 16 f := rm_x8 x8630080 h16630081 rfl
                              have hph630174 : rPh γ0 el0 f ≤ rPh γ el f := rm_ph hph629876 hr2630088
                              have pk630175 : rPh γ el f ≤ 387 * B + 6000 := rm_pk (rM_ge hT630096 ht630102 hf630103).1 (rM_bd hB630171)
                              have hm630176 : q630068 ∈ P630066 := RS_m hT630096 ht630172 (by decide)
                              obtain ⟨p630178, p630179, p630180, p630181, p630182, p630183, p630184, he630177, bp630178, bp630179, bp630182, bp630183, bp630184, r630185, r630186, r630187⟩ := show rkR (F630067 q630068) from RS_o hT630096 ht630172
                              have bp630180 := gB_any p630180
                              have bp630181 := gB_any p630181
                              replace r630185 : gH _ := r630185
                              replace r630186 : gH _ := r630186
                              replace r630187 : gH _ := r630187
                              have r630188 : γ 7 (γ 1 q630068) = γ 7 f := by rw [x1630078]
                              have r630189 : p630183.toInt = 0 := by have z := hf0630086.1; rw [he630177] at z; exact z
                              have bp630183' : gB p630183 0 0 := gB_t0 r630189
                              have r630190 : p630184.toInt = 0 := by have z := hf0630086.2.1; rw [he630177] at z; exact z
                              have bp630184' : gB p630184 0 0 := gB_t0 r630190
                              refine G_widen (cs' := ((rPh γ el f - rPh γ0 el0 f) / 18)) (sl' := (rPh γ el f - rPh γ0 el0 f)) (rm_wc hph629876 hr1630087) (rm_ws hph629876 hr2630088) ?_
                              refine G_astore (L' := [(9, .ref q630068), (8, .int z629997), (0, .ref q589771), (1, .ref q589772), (2, .int g628104), (3, .ref q628245), (4, .int g629870), (5, .ref q629871)]) dr_cX17_spill_373 (Nat.le_of_ble_eq_true rfl) rfl ?_
                              refine G_aload 0 dr_cX17_spill_375 rfl ?_
                              refine G_bipush 23 dr_cX17_spill_377 (by decide +kernel) ?_
                              refine Gp_put 0 hm630176 he630177 dr_cX17_spill_379 (gk_X15 D I) (Nat.le_of_ble_eq_true rfl) wr_9_177 rfl rfl rfl (Nat.le_of_ble_eq_true rfl) (fun F630191 e630192 n630193 => ?_)
                              have he630194 : F630191 q629871 = .inr (20, [.int p629957, .int p629915, .int p629959, .int p629960, .int p629961, .int p629962, .int p629963]) := (n630193 q629871 (rn_ty ht630106 ht630172 (by decide))).trans he630115
                              have he630195 : F630191 q589771 = .inr (22, [.ref (γ 9 0), .ref (γ 9 1), .ref (γ 9 2), .ref (γ 9 3), .ref (γ 9 4), .ref (γ 9 5), .ref (γ 9 6), .ref (γ 9 7), .ref (γ 9 8), .int p630121, .int p630122, .int p630123, .int p630124, .int p630125, .int p630126, .ref (γ 9 15), .ref (γ 9 16), .ref (γ 9 17), .ref (γ 9 18), .ref (γ 9 19), .ref (γ 9 20), .ref (γ 9 21), .ref (γ 9 22), .int p630127, .int p630128, .int p630129, .int p630130, .int p630131, .ref q630119, .ref (γ 9 29), .int p630132, .ref (γ 9 31), .int p630133, .int p630134, .int p630135, .ref q630120]) := (n630193 q589771 (rn_oo he630118 he630177 (by decide))).trans he630118
                              have he630196 : F630191 q630068 = .inr (20, [.int 23, .int p630179, .int p630180, .int p630181, .int p630182, .int p630183, .int p630184]) := e630192
                              have mk630197 : mKp (F589770 q589771) (F630191 q589771) := mKp_tr mk630110 (mKp_eq (n630193 q589771 (rn_ty ht630101 ht630172 (by decide))))
                              have kp630198 : F630191 (γ0 9 3) = F589770 (γ0 9 3) := (n630193 (γ0 9 3) (rn_ty (rSk_k hs630097 k0_3 (by decide) (by decide)) ht630172 (by decide))).trans kp630098
                              have kp630199 : F630191 (γ0 9 19) = F624835 (γ0 9 19) := (n630193 (γ0 9 19) (rn_ty (rSk_k hs630097 k0_19 (by decide) (by decide)) ht630172 (by decide))).trans kp630099
                              refine G_aload 0 dr_cX17_spill_382 rfl ?_
                              refine G_iload 1 dr_cX17_spill_384 rfl ?_
                              refine Gp_put 4 hm630176 he630196 dr_cX17_spill_386 (gk_X15 D I) (Nat.le_of_ble_eq_true rfl) wr_9_193 rfl rfl rfl (Nat.le_of_ble_eq_true rfl) (fun F630200 e630201 n630202 => ?_)
                              have he630203 : F630200 q629871 = .inr (20, [.int p629957, .int p629915, .int p629959, .int p629960, .int p629961, .int p629962, .int p629963]) := (n630202 q629871 (rn_ty ht630106 ht630172 (by decide))).trans he630194
                              have he630204 : F630200 q589771 = .inr (22, [.ref (γ 9 0), .ref (γ 9 1), .ref (γ 9 2), .ref (γ 9 3), .ref (γ 9 4), .ref (γ 9 5), .ref (γ 9 6), .ref (γ 9 7), .ref (γ 9 8), .int p630121, .int p630122, .int p630123, .int p630124, .int p630125, .int p630126, .ref (γ 9 15), .ref (γ 9 16), .ref (γ 9 17), .ref (γ 9 18), .ref (γ 9 19), .ref (γ 9 20), .ref (γ 9 21), .ref (γ 9 22), .int p630127, .int p630128, .int p630129, .int p630130, .int p630131, .ref q630119, .ref (γ 9 29), .int p630132, .ref (γ 9 31), .int p630133, .int p630134, .int p630135, .ref q630120]) := (n630202 q589771 (rn_oo he630195 he630196 (by decide))).trans he630195
                              have he630205 : F630200 q630068 = .inr (20, [.int 23, .int p630179, .int p630180, .int p630181, .int z629997, .int p630183, .int p630184]) := e630201
                              have mk630206 : mKp (F589770 q589771) (F630200 q589771) := mKp_tr mk630197 (mKp_eq (n630202 q589771 (rn_ty ht630101 ht630172 (by decide))))
                              have n630207 : ∀ b, b ≠ q630068 → F630200 b = F630067 b := fun b hb => (n630202 b hb).trans (n630193 b hb)
                              have kp630208 : F630200 (γ0 9 3) = F589770 (γ0 9 3) := (n630202 (γ0 9 3) (rn_ty (rSk_k hs630097 k0_3 (by decide) (by decide)) ht630172 (by decide))).trans kp630198
                              have kp630209 : F630200 (γ0 9 19) = F624835 (γ0 9 19) := (n630202 (γ0 9 19) (rn_ty (rSk_k hs630097 k0_19 (by decide) (by decide)) ht630172 (by decide))).trans kp630199
                              refine G_aload 0 dr_cX17_spill_389 rfl ?_
                              refine G_aload 7 dr_cX17_spill_391 rfl ?_
                              refine Gp_get 1 hm630116 he630203 dr_cX17_spill_393 (gk_X15 D I) (Nat.le_of_ble_eq_true rfl) wr_9_182 rfl ?_
                              refine Gp_put 2 hm630176 he630205 dr_cX17_spill_396 (gk_X15 D I) (Nat.le_of_ble_eq_true rfl) wr_9_186 rfl rfl rfl (Nat.le_of_ble_eq_true rfl) (fun F630210 e630211 n630212 => ?_)
                              have he630213 : F630210 q629871 = .inr (20, [.int p629957, .int p629915, .int p629959, .int p629960, .int p629961, .int p629962, .int p629963]) := (n630212 q629871 (rn_ty ht630106 ht630172 (by decide))).trans he630203
                              have he630214 : F630210 q589771 = .inr (22, [.ref (γ 9 0), .ref (γ 9 1), .ref (γ 9 2), .ref (γ 9 3), .ref (γ 9 4), .ref (γ 9 5), .ref (γ 9 6), .ref (γ 9 7), .ref (γ 9 8), .int p630121, .int p630122, .int p630123, .int p630124, .int p630125, .int p630126, .ref (γ 9 15), .ref (γ 9 16), .ref (γ 9 17), .ref (γ 9 18), .ref (γ 9 19), .ref (γ 9 20), .ref (γ 9 21), .ref (γ 9 22), .int p630127, .int p630128, .int p630129, .int p630130, .int p630131, .ref q630119, .ref (γ 9 29), .int p630132, .ref (γ 9 31), .int p630133, .int p630134, .int p630135, .ref q630120]) := (n630212 q589771 (rn_oo he630204 he630205 (by decide))).trans he630204
                              have he630215 : F630210 q630068 = .inr (20, [.int 23, .int p630179, .int p629915, .int p630181, .int z629997, .int p630183, .int p630184]) := e630211
                              have mk630216 : mKp (F589770 q589771) (F630210 q589771) := mKp_tr mk630206 (mKp_eq (n630212 q589771 (rn_ty ht630101 ht630172 (by decide))))
                              have n630217 : ∀ b, b ≠ q630068 → F630210 b = F630067 b := fun b hb => (n630212 b hb).trans (n630207 b hb)
                              have kp630218 : F630210 (γ0 9 3) = F589770 (γ0 9 3) := (n630212 (γ0 9 3) (rn_ty (rSk_k hs630097 k0_3 (by decide) (by decide)) ht630172 (by decide))).trans kp630208
                              have kp630219 : F630210 (γ0 9 19) = F624835 (γ0 9 19) := (n630212 (γ0 9 19) (rn_ty (rSk_k hs630097 k0_19 (by decide) (by decide)) ht630172 (by decide))).trans kp630209
                              refine G_aload 0 dr_cX17_spill_399 rfl ?_
                              refine G_iconst 1 dr_cX17_spill_401 (by decide +kernel) ?_
                              refine Gp_put 5 hm630176 he630215 dr_cX17_spill_402 (gk_X15 D I) (Nat.le_of_ble_eq_true rfl) wr_9_197 rfl rfl rfl (Nat.le_of_ble_eq_true rfl) (fun F630220 e630221 n630222 => ?_)
                              have he630223 : F630220 q629871 = .inr (20, [.int p629957, .int p629915, .int p629959, .int p629960, .int p629961, .int p629962, .int p629963]) := (n630222 q629871 (rn_ty ht630106 ht630172 (by decide))).trans he630213
                              have he630224 : F630220 q589771 = .inr (22, [.ref (γ 9 0), .ref (γ 9 1), .ref (γ 9 2), .ref (γ 9 3), .ref (γ 9 4), .ref (γ 9 5), .ref (γ 9 6), .ref (γ 9 7), .ref (γ 9 8), .int p630121, .int p630122, .int p630123, .int p630124, .int p630125, .int p630126, .ref (γ 9 15), .ref (γ 9 16), .ref (γ 9 17), .ref (γ 9 18), .ref (γ 9 19), .ref (γ 9 20), .ref (γ 9 21), .ref (γ 9 22), .int p630127, .int p630128, .int p630129, .int p630130, .int p630131, .ref q630119, .ref (γ 9 29), .int p630132, .ref (γ 9 31), .int p630133, .int p630134, .int p630135, .ref q630120]) := (n630222 q589771 (rn_oo he630214 he630215 (by decide))).trans he630214
                              have he630225 : F630220 q630068 = .inr (20, [.int 23, .int p630179, .int p629915, .int p630181, .int z629997, .int 1, .int p630184]) := e630221
                              have mk630226 : mKp (F589770 q589771) (F630220 q589771) := mKp_tr mk630216 (mKp_eq (n630222 q589771 (rn_ty ht630101 ht630172 (by decide))))
                              have n630227 : ∀ b, b ≠ q630068 → F630220 b = F630067 b := fun b hb => (n630222 b hb).trans (n630217 b hb)
                              have kp630228 : F630220 (γ0 9 3) = F589770 (γ0 9 3) := (n630222 (γ0 9 3) (rn_ty (rSk_k hs630097 k0_3 (by decide) (by decide)) ht630172 (by decide))).trans kp630218
                              have kp630229 : F630220 (γ0 9 19) = F624835 (γ0 9 19) := (n630222 (γ0 9 19) (rn_ty (rSk_k hs630097 k0_19 (by decide) (by decide)) ht630172 (by decide))).trans kp630219
                              obtain ⟨z630230, hz630230⟩ : ∃ z : Int32, z = g629870 + Int32.ofInt 1 := ⟨_, rfl⟩
                              have ez630230 : z630230.toInt = g629870.toInt + 1 := gI_inc hz630230 (by decide) bg629870 (by decide) (by decide)
                              have bz630230 : gB z630230 1 1000002 := ⟨by omega, by omega⟩
                              refine G_iinc (L' := [(4, .int z630230), (9, .ref q630068), (8, .int z629997), (0, .ref q589771), (1, .ref q589772), (2, .int g628104), (3, .ref q628245), (5, .ref q629871)]) z630230 6 dr_cX17_spill_405 rfl hz630230.symm (Nat.le_of_ble_eq_true rfl) rfl ?_
                              refine G_aload_n 6 dr_cX17_spill_408 rfl ?_
                              have hT630231 : RS D I P630066 F630220 γ el := RS_set hT630096 n630227 ht630172 (by decide) ⟨23, p630179, p629915, p630181, z629997, 1, p630184, he630225, (gB_w (gBl (show Int32.toInt 23 = 23 by decide)) (by decide) (by decide)), bp630179, bz629997', (gB_w (gBl (show Int32.toInt 1 = 1 by decide)) (by decide) (by decide)), (gB_w bp630184' (by decide) (by decide)), (Or.inr (by decide)), (Or.inr bp629915'), (gHe r630187)⟩
                              have hs630233 := rSk_put hs630097 hT630231 n630227 ht630172 (by decide) (by decide) (Or.inr (Or.inl x1630078))
                              have hm630234 : q628245 ∈ P630066 := RS_m hT630231 ht630104 (by decide)
                              obtain ⟨q630236, q630237, p630238, p630239, he630235, ht630246, ht630240, ht630241, ht630242, ht630243, ht630244, bp630238, bp630239, r630245, r630247, r630248⟩ := show rk_2 γ q628245 (F630220 q628245) from RS_o hT630231 ht630104
                              have hf630249 : γ 1 q630236 = f := (show γ 1 q630236 = γ 1 q628245 from ht630241).trans hf630105
                              have hf630250 : γ 1 q630237 = f := (show γ 1 q630237 = γ 1 q628245 from ht630243).trans hf630105
                              have r630251 : γ 6 (γ 1 q628245) = γ 6 f := by rw [hf630105]
                              have r630252 : γ 7 (γ 1 q628245) = γ 7 f := by rw [hf630105]
                              have r630253 : γ 19 (γ 1 q628245) = γ 19 f := by rw [hf630105]
                              have r630254 := r630245.resolve_left (by omega)
                              clear r630245
                              have r630255 : γ 2 (γ 14 q628245) = γ 2 q630236 := by rw [ht630246.1]
                              refine Gp_get 0 hm630234 he630235 dr_cX17_spill_409 (gk_X12 D I) (Nat.le_of_ble_eq_true rfl) wr_9_220 rfl ?_
                              refine G_iload 0 dr_cX17_spill_412 rfl ?_
                              refine G_aload 1 dr_cX17_spill_414 rfl ?_
                              have pl630256 := rPl_fr hT630096 ht630102 hf630103 pl630075 (fun b hb _ => n630227 b (rn_ty (show rKd γ b 1 from hb) ht630172 (by decide)))
                              have rg630257 := rM_ge hT630231 ht630102 hf630103
                              have rm630258 := rM_bd hB630171
                              have bd630259 := rBd_c hT630231 ht630102 hf630103 hB630171
                              have rc630260 := rc_at hT630231 ht630102 hf630103
                              have r630262 : γ 14 (el (γ 14 q589772) g628104.toInt.toNat) = q630236 := by rw [r630114]; exact ht630246.1
                              have r630263 := rg630257.2.2 _ r630113
                              rw [r630262] at r630263
                              have r630264 := bd630259.2.2.2 _ r630113
                              rw [r630262] at r630264
                              have r630265 : γ 7 (γ 1 q630068) = γ 7 f := by rw [x1630078]
                              have hx630266 : rk_1 γ q630068 (F630220 q630068) := ⟨23, p630179, p629915, p630181, z629997, 1, p630184, he630225, (gB_w (gBl (show Int32.toInt 23 = 23 by decide)) (by decide) (by decide)), bp630179, bz629997', (gB_w (gBl (show Int32.toInt 1 = 1 by decide)) (by decide) (by decide)), (gB_w bp630184' (by decide) (by decide)), (Or.inr (by decide)), (Or.inr bp629915'), (gHe r630187), (Or.inr (by omega)), (Or.inl x22630079)⟩
                              refine Gt_ins (c := q589772) (f := f) hl0 dr_cX17_spill_416 ⟨wr_10_207, wr_1_18, wr_10_210, by decide, rfl, (Nat.le_of_ble_eq_true rfl), (Nat.le_of_ble_eq_true rfl)⟩ wr_10_208 wr_10_209 hT630231 ht630240 hf630249 ht630172 x1630078 x22630079 r630173 (by omega) ht630102 hf630103 r630113 r630262 hx630266 (by omega) (by omega) (Nat.le_trans r630264 (Nat.le_trans hBk (by decide))) (rm_cs hph630174 r630263 rm630258 (by decide)) (rm_sl hph630174 r630263 rm630258 rm_s11) (Nat.le_of_ble_eq_true rfl) (fun P630267 F630261 γ el dc630268 ds630269 hq630270 => ?_)
                              have pl630271 := sp_ins (j1 := ((g629870.toInt : Int).toNat + 1) + 1) hT630231 ht630102 hf630103 hq630270 r630262 (tn_lt (by omega) (by omega)) (tn_le0 (by omega) (by omega)) (by rw [(show z630230.toInt.toNat = ((g629870.toInt : Int).toNat + 1) from tn_eq1 (by omega) (by omega))]; exact pl630256) (nm_sto he630225 (by decide)).1 (nm_sto he630225 (by decide)).2 (tn_ge (show 100 ≤ p629915.toInt by omega)) (congrArg (fun k => k + 1) (show z630230.toInt.toNat = ((g629870.toInt : Int).toNat + 1) from tn_eq1 (by omega) (by omega)).symm)
                              obtain ⟨hk630272, x0630273, h2630274, hel630275, hot630276, h16630277, h18630278, hnu630279, hFx630280, hr630281, hM630282, hBB630283⟩ := hq630270
                              have hk630284 := rSk_of hk630272
                              have r630285 : (fI (F630261 q589772) 3).toInt = (fI (F630220 q589772) 3).toInt := by rw [rSk_F hk630284 ht630102 (by decide) (by decide)]
                              obtain ⟨nu630286, nu630287, nu630288, nu630289⟩ := hnu630279
                              have hT630290 := hk630284.1
                              have hs630291 := rSk_tr hs630233 hk630284 (by decide) (by decide) (by decide)
                              have kp630292 : F630261 (γ0 9 3) = F589770 (γ0 9 3) := (rSk_F hk630284 (rSk_k hs630233 k0_3 (by decide) (by decide)) (by decide) (by decide)).trans kp630228
                              have kp630293 : F630261 (γ0 9 19) = F624835 (γ0 9 19) := (rSk_F hk630284 (rSk_k hs630233 k0_19 (by decide) (by decide)) (by decide) (by decide)).trans kp630229
                              have r630294 := rSk_F hk630284 ht630101 (by decide) (by decide)
                              have ht630295 : rKd γ q589771 10 := rSk_k hk630284 ht630101 (by decide) (by decide)
                              have ht630296 : rKd γ q589772 9 := rSk_k hk630284 ht630102 (by decide) (by decide)
                              have hf630297 : γ 1 q589772 = f := rSk_1 hk630284 ht630102 (by decide) hf630103
                              have ht630298 : rKd γ q628245 2 := rSk_k hk630284 ht630104 (by decide) (by decide)
                              have hf630299 : γ 1 q628245 = f := rSk_1 hk630284 ht630104 (by decide) hf630105
                              have ht630300 : rKd γ q629871 1 := rSk_k hk630284 ht630106 (by decide) (by decide)
                              have hf630301 : γ 1 q629871 = f := rSk_1 hk630284 ht630106 (by decide) hf630107
                              have ht630302 : rKd γ q630023 3 := rSk_k hk630284 ht630108 (by decide) (by decide)
                              have hf630303 : γ 1 q630023 = f := rSk_1 hk630284 ht630108 (by decide) hf630109
                              have ht630304 : rKd γ q630236 3 := rSk_k hk630284 ht630240 (by decide) (by decide)
                              have hf630305 : γ 1 q630236 = f := rSk_1 hk630284 ht630240 (by decide) hf630249
                              have mk630306 : mKp (F589770 q589771) (F630261 q589771) := mKp_tr mk630226 (mKp_eq (rSk_F hk630284 ht630101 (by decide) (by decide)))
                              have r630307 := (rSk_s hk630284 ht630102 (by decide)).2.1
                              have r630308 := hot630276 _ (by rw [rc630260.2.1]; decide) (fun q => by rw [q, show _ = 3 from ht630240] at rc630260; exact absurd rc630260.2.1 (by decide))
                              have r630309 : g628104.toInt.toNat < γ 2 (γ 14 q589772) := by rw [r630307, r630308.1]; exact r630113
                              have r630310 : el (γ 14 q589772) g628104.toInt.toNat = q628245 := by rw [r630307, r630308.2]; exact r630114
                              have he630311 : F630261 q629871 = .inr (20, [.int p629957, .int p629915, .int p629959, .int p629960, .int p629961, .int p629962, .int p629963]) := (rSk_F hk630284 ht630106 (by decide) (by decide)).trans he630223
                              have hm630312 : q629871 ∈ P630267 := RS_m hT630290 ht630300 (by decide)
                              clear bp630178 bp630179 bp630182 bp630183 bp630184 bp630180 bp630181 bp630238 bp630239 r630247 r630248 rg630257 rm630258 bd630259 rc630260 r630263 r630264
                              clear r630185 r630186 r630187
                              have hm630313 : q589771 ∈ P630267 := RS_m hT630290 ht630295 (by decide)
                              refine rk10_e (show rk_10 γ (F630261 q589771) from RS_o hT630290 ht630295) (fun q630315 q630316 p630317 p630318 p630319 p630320 p630321 p630322 p630323 p630324 p630325 p630326 p630327 p630328 p630329 p630330 p630331 he630314 hB630358 ht630332 ht630333 ht630334 ht630335 ht630336 ht630337 ht630338 ht630339 ht630340 ht630341 ht630342 ht630343 ht630344 ht630345 ht630346 ht630347 ht630348 ht630349 ht630350 ht630351 ht630352 ht630353 ht630354 ht630355 hB630359 => ?_)
                              have r630360 : p630319.toInt = p630123.toInt := by have z : p630319 = p630123 := congrArg (fun e => fI e 11) (he630314.symm.trans (r630294.trans he630224)); rw [z]
                              have bp630319 : gB p630319 0 100 := (hB630358.2.2.1)
                              have r630361 : p630322.toInt = p630126.toInt := by have z : p630322 = p630126 := congrArg (fun e => fI e 14) (he630314.symm.trans (r630294.trans he630224)); rw [z]
                              have bp630322 : gB p630322 0 2000 := (hB630358.2.2.2.1)
                              have bp630322' : gB p630322 1 2000 := ⟨by omega, by omega⟩
                              first | have sz630362 := (hot630276 q630023 (rT0 ht630108 (by decide)) (by assumption)).1 | skip
                              have ht630363 : rKd γ q630068 1 := x0630273
                              have hB630364 : rBd γ el f B := hBB630283 B hB630171
                              have hph630365 : rPh γ0 el0 f ≤ rPh γ el f := rm_ph hph630174 hr630281.2
                              have pk630366 : rPh γ el f ≤ 387 * B + 6000 := rm_pk (rM_ge hT630290 ht630296 hf630297).1 (rM_bd hB630364)
                              refine G_widen (cs' := ((rPh γ el f - rPh γ0 el0 f) / 18)) (sl' := (rPh γ el f - rPh γ0 el0 f)) (rm_wc hph630174 hr630281.1) (rm_ws hph630174 hr630281.2) ?_
                              have r630367 : γ 14 q628245 = q630236 := ((rSk_s (rSk_of hk630272) ht630104 (by decide)).2.1).trans ht630246.1
                              have sz630368 : γ 2 (γ 14 q628245) = γ 2 q630236 := by rw [r630367]
                              obtain ⟨z630369, hz630369⟩ : ∃ z : Int32, z = z630230 + Int32.ofInt 1 := ⟨_, rfl⟩
                              have ez630369 : z630369.toInt = z630230.toInt + 1 := gI_inc hz630369 (by decide) bz630230 (by decide) (by decide)
                              have bz630369 : gB z630369 2 1000003 := ⟨by omega, by omega⟩
                              refine G_iinc (L' := [(4, .int z630369), (9, .ref q630068), (8, .int z629997), (0, .ref q589771), (1, .ref q589772), (2, .int g628104), (3, .ref q628245), (5, .ref q629871)]) z630369 0 dr_cX17_spill_419 rfl hz630369.symm (Nat.le_of_ble_eq_true rfl) rfl ?_
                              refine G_goto 90 dr_cX17_spill_422 (by decide +kernel) ?_
                              refine G_lv (L' := [(4, .int z630369), (3, .ref q628245), (2, .int g628104), (0, .ref q589771), (1, .ref q589772)]) [0, 6, 5, 3, 4] rfl ?_
                              have ac630370 : (fI (F630261 q589771) 11).toInt = p630319.toInt := by rw [he630314]; rfl
                              have ac630371 : (fI (F630261 q589771) 14).toInt = p630322.toInt := by rw [he630314]; rfl
                              exact ih90_629771 P630267 F630261 γ el z630369 (gB_w bz630369 (by decide) (by decide)) hT630290 hs630291 hph630365 hB630364 ht630298 hf630299 r630309 r630310 (by omega) (by omega) (by omega) (by omega) (by omega) (by omega) kp630293 (by rw [(show (z630369.toInt : Int).toNat = (((g629870.toInt : Int).toNat + 1) + 1) from tn_eq2 (by omega) (by omega))]; exact pl630271) (by omega) (by omega) kp630292 mk630306 (ms_g x629896 (by omega) (by omega) (by omega))
                            · have r630372 : p629915.toInt = 2000 := gj_eq hc630004 (show Int32.toInt 2000 = 2000 by decide)
                              have bp629915' : gB p629915 2000 2000 := ⟨by omega, by omega⟩
                              refine G_iconst 0 dr_cX17_spill_348 (by decide +kernel) ?_
                              exact G_zretA FieldType.boolean dr_cX17_spill_349 rfl rfl (rm_zc pk629904) (rm_zs pk629904) ⟨P629872, F629873, γ, el, 0, rfl, rfl, hs629875, (rm_pp hph629876), hB629877, (gB_w (gBl (show Int32.toInt 0 = 0 by decide)) (by decide) (by decide)), (by have qa0 : Int32.toInt 0 = 0 := (by decide); omega), (Or.inl (by decide)), x629898, x629899⟩
                          · have r630373 : z629997.toInt < 0 := gj_nleL hc630001 (show Int32.toInt 0 = 0 by decide)
                            have bz629997' : gB z629997 (-1) (-1) := ⟨by omega, by omega⟩
                            refine G_goto 419 dr_cX17_spill_323 (by decide +kernel) ?_
                            have rn630375 : rNx (nSp (cB (F589770 (γ0 9 3))) (cB (F624835 (γ0 9 19)))) (F629873 q629871) := rS2_n he629956 he629956 x629893 (fun _ => Or.inr ⟨rfl, Or.inr (by omega)⟩)
                            have pl630374 := sp_fin x629891 x629892 rn630375 (rfl : (g629870.toInt : Int).toNat + 1 = (g629870.toInt : Int).toNat + 1)
                            obtain ⟨z630376, hz630376⟩ : ∃ z : Int32, z = g629870 + Int32.ofInt 1 := ⟨_, rfl⟩
                            have ez630376 : z630376.toInt = g629870.toInt + 1 := gI_inc hz630376 (by decide) bg629870 (by decide) (by decide)
                            have bz630376 : gB z630376 1 1000002 := ⟨by omega, by omega⟩
                            refine G_iinc (L' := [(4, .int z630376), (0, .ref q589771), (1, .ref q589772), (2, .int g628104), (3, .ref q628245), (5, .ref q629871)]) z630376 4 dr_cX17_spill_419 rfl hz630376.symm (Nat.le_of_ble_eq_true rfl) rfl ?_
                            refine G_goto 90 dr_cX17_spill_422 (by decide +kernel) ?_
                            refine G_lv (L' := [(4, .int z630376), (3, .ref q628245), (2, .int g628104), (0, .ref q589771), (1, .ref q589772)]) [0, 4, 3, 1, 2] rfl ?_
                            have ac630377 : (fI (F629873 q589771) 11).toInt = p629912.toInt := by rw [he629907]; rfl
                            have ac630378 : (fI (F629873 q589771) 14).toInt = p629915.toInt := by rw [he629907]; rfl
                            exact ih90_629771 P629872 F629873 γ el z630376 (gB_w bz630376 (by decide) (by decide)) hT629874 hs629875 hph629876 hB629877 ht629878 hf629879 r629880 r629881 (by omega) (by omega) (by omega) (by omega) (by omega) (by omega) x629890 (by rw [(show (z630376.toInt : Int).toNat = ((g629870.toInt : Int).toNat + 1) from tn_eq1 (by omega) (by omega))]; exact pl630374) (by omega) (by omega) x629898 x629899 (ms_g x629896 (by omega) (by omega) (by omega))
                    have jn236_630410 : ∀ (P630383 : List Nat) (F630384 : Nat → va_E) (γ el : Nat → Nat → Nat) (g630379 : Int32) (q630380 : Nat) (g630381 : Int32) (g630382 : Int32), gB g630379 0 1000001 → gB g630381 (-1) 1999 → gB g630382 (-1) 1999 → RS D I P630383 F630384 γ el → rSk f [101] ([1, 3, 5, 6, 8, 9, 101] ++ npk) D I P589769 F589770 γ0 el0 P630383 F630384 γ el → rPh γ0 el0 f ≤ rPh γ el f → rBd γ el f B → rKd γ q628245 2 → γ 1 q628245 = f → g628104.toInt.toNat < γ 2 (γ 14 q589772) → el (γ 14 q589772) g628104.toInt.toNat = q628245 → rKd γ q630380 1 → γ 1 q630380 = f → γ 6 f = γ0 6 f → γ 18 f = γ0 18 f → ((γ 7 f : Nat) : Int) = (fI (F630384 q589771) 11).toInt → (fI (F630384 q589771) 11).toInt = (fI (F624835 q589771) 11).toInt → ((γ 16 f : Nat) : Int) + 2001 ≤ (B : Int) + (fI (F630384 q589771) 14).toInt → 100 ≤ (fI (F630384 q589771) 14).toInt → (F630384 (γ0 9 19) = F624835 (γ0 9 19)) → rPl γ el F630384 q589772 (γ 6 f) (spX (cB (F589770 (γ0 9 3))) (cB (F624835 (γ0 9 19))) (g628104.toInt : Int).toNat (g630379.toInt : Int).toNat) → rAt γ el q589772 (g628104.toInt : Int).toNat (g630379.toInt : Int).toNat = q630380 → rS1 (cB (F589770 (γ0 9 3))) (cB (F624835 (γ0 9 19))) (F630384 q630380) g630381.toInt g630382.toInt → (g630379.toInt : Int) ≤ γ 2 (γ 14 q628245) → (g628104.toInt : Int) < γ 6 f → (γ 2 (γ 14 q628245) + 1 - (g630379.toInt : Int).toNat) < n90_629771 + 1 → eO g630379.toInt (γ 2 (γ 14 q628245) : Nat) (fI (F630384 q630380) 0).toInt → (F630384 (γ0 9 3) = F589770 (γ0 9 3)) → mKp (F589770 q589771) (F630384 q589771) → G (gV D I) l (gRm 9 195 (((387 * B + 6000) - rPh γ0 el0 f) / 18) ((387 * B + 6000) - rPh γ0 el0 f)) (gMA (gV D I) (pg_589779_SpillForgeModel_spill D I γ0 el0 f B P589769 F589770 q589771 q589772) gNA (((387 * B + 6000) - rPh γ0 el0 f) / 18) ((387 * B + 6000) - rPh γ0 el0 f)) ky_589779_SpillForgeModel_spill 236 [(0, .ref q589771), (1, .ref q589772), (2, .int g628104), (3, .ref q628245), (4, .int g630379), (5, .ref q630380), (6, .int g630381), (7, .int g630382)] [] (va_pl P630383 F630384) ((rPh γ el f - rPh γ0 el0 f) / 18) (rPh γ el f - rPh γ0 el0 f) := by
                      intro P630383 F630384 γ el g630379 q630380 g630381 g630382 bg630379 bg630381 bg630382 hT630385 hs630386 hph630387 hB630388 ht630389 hf630390 r630391 r630392 ht630393 hf630394 x630395 x630396 x630397 x630398 x630399 x630400 x630401 x630402 x630403 x630404 x630405 x630406 x630407 x630408 x630409 x630410
                      clear bp629831 bp629832 r629840 r629841 r629844 r629845 r629846 r629847 r629848 r629854 r629855 r629856 r629858 r629857
                      have ht630412 : rKd γ q589771 10 := rSk_k hs630386 hzq589771 (by decide) (by decide)
                      have ht630413 : rKd γ q589772 9 := rSk_k hs630386 hzq589772 (by decide) (by decide)
                      have hf630414 : γ 1 q589772 = f := rSk_1 hs630386 hzq589772 (by decide) hf0
                      have pk630415 : rPh γ el f ≤ 387 * B + 6000 := rm_pk (rM_ge hT630385 ht630413 hf630414).1 (rM_bd hB630388)
                      have r630416 : 0 < γ 6 (γ 1 q589772) := by rw [hf630414]; omega
                      have hm630417 : q589771 ∈ P630383 := RS_m hT630385 ht630412 (by decide)
                      refine rk10_e (show rk_10 γ (F630384 q589771) from RS_o hT630385 ht630412) (fun q630419 q630420 p630421 p630422 p630423 p630424 p630425 p630426 p630427 p630428 p630429 p630430 p630431 p630432 p630433 p630434 p630435 he630418 hB630462 ht630436 ht630437 ht630438 ht630439 ht630440 ht630441 ht630442 ht630443 ht630444 ht630445 ht630446 ht630447 ht630448 ht630449 ht630450 ht630451 ht630452 ht630453 ht630454 ht630455 ht630456 ht630457 ht630458 ht630459 hB630463 => ?_)
                      have ac630464 : (fI (F630384 q589771) 11).toInt = p630423.toInt := by rw [he630418]; rfl
                      have bp630423 : gB p630423 0 100 := (hB630462.2.2.1)
                      have ac630465 : (fI (F630384 q589771) 14).toInt = p630426.toInt := by rw [he630418]; rfl
                      have bp630426 : gB p630426 0 2000 := (hB630462.2.2.2.1)
                      have hm630466 : q630380 ∈ P630383 := RS_m hT630385 ht630393 (by decide)
                      obtain ⟨p630468, p630469, p630470, p630471, p630472, p630473, p630474, he630467, bp630468, bp630469, bp630472, bp630473, bp630474, r630475, r630476, r630477, r630478, r630479⟩ := show rk_1 γ q630380 (F630384 q630380) from RS_o hT630385 ht630393
                      have bp630470 := gB_any p630470
                      have bp630471 := gB_any p630471
                      replace r630475 : gH _ := r630475
                      replace r630476 : gH _ := r630476
                      replace r630477 : gH _ := r630477
                      replace r630478 : gH _ := r630478
                      replace r630479 : gH _ := r630479
                      have r630480 : γ 7 (γ 1 q630380) = γ 7 f := by rw [hf630394]
                      refine G_iload 7 dr_cX17_spill_236 rfl ?_
                      refine G_if_lt 292 dr_cX17_spill_238 (by decide +kernel) (fun hc630481 => ?_) (fun hc630481 => ?_)
                      · have r630482 : g630382.toInt < 0 := gj_lt hc630481 (show Int32.toInt 0 = 0 by decide)
                        have bg630382' : gB g630382 (-1) (-1) := ⟨by omega, by omega⟩
                        have ac630483 : (fI (F630384 q589771) 11).toInt = p630423.toInt := by rw [he630418]; rfl
                        have ac630484 : (fI (F630384 q589771) 14).toInt = p630426.toInt := by rw [he630418]; rfl
                        refine G_lv (L' := [(0, .ref q589771), (1, .ref q589772), (2, .int g628104), (3, .ref q628245), (4, .int g630379), (5, .ref q630380)]) [0, 1, 2, 3, 4, 5] rfl ?_
                        exact jn292_629899 P630383 F630384 γ el g630379 q630380 bg630379 hT630385 hs630386 hph630387 hB630388 ht630389 hf630390 r630391 r630392 ht630393 hf630394 (by omega) (by omega) (by omega) (by omega) (by omega) (by omega) x630401 (by exact x630402) (by exact x630403) (rS1_2 x630404 (Or.inl (by omega))) (by omega) (by omega) (ms_j x630407 (by omega) (by omega) (by omega)) (eO_j x630408 (by rw [he630467] <;> rfl) (by rw [he630467] <;> rfl) (by omega)) x630409 x630410
                      · have r630485 : 0 ≤ g630382.toInt := gj_nlt hc630481 (show Int32.toInt 0 = 0 by decide)
                        have bg630382' : gB g630382 0 1999 := ⟨by omega, by omega⟩
                        refine G_iload 7 dr_cX17_spill_241 rfl ?_
                        refine G_iload 6 dr_cX17_spill_243 rfl ?_
                        refine G_icmp_eq 292 dr_cX17_spill_245 (by decide +kernel) (fun hc630486 => ?_) (fun hc630486 => ?_)
                        · have r630487 : g630382.toInt = g630381.toInt := gC_eq hc630486
                          have bg630381' : gB g630381 0 1999 := ⟨by omega, by omega⟩
                          have ac630488 : (fI (F630384 q589771) 11).toInt = p630423.toInt := by rw [he630418]; rfl
                          have ac630489 : (fI (F630384 q589771) 14).toInt = p630426.toInt := by rw [he630418]; rfl
                          refine G_lv (L' := [(0, .ref q589771), (1, .ref q589772), (2, .int g628104), (3, .ref q628245), (4, .int g630379), (5, .ref q630380)]) [0, 1, 2, 3, 4, 5] rfl ?_
                          exact jn292_629899 P630383 F630384 γ el g630379 q630380 bg630379 hT630385 hs630386 hph630387 hB630388 ht630389 hf630390 r630391 r630392 ht630393 hf630394 (by omega) (by omega) (by omega) (by omega) (by omega) (by omega) x630401 (by exact x630402) (by exact x630403) (rS1_2 x630404 (Or.inr (Or.inl (by omega)))) (by omega) (by omega) (ms_j x630407 (by omega) (by omega) (by omega)) (eO_j x630408 (by rw [he630467] <;> rfl) (by rw [he630467] <;> rfl) (by omega)) x630409 x630410
                        · have r630490 : g630382.toInt ≠ g630381.toInt := gC_ne hc630486
                          refine G_aload_n 0 dr_cX17_spill_248 rfl ?_
                          refine Gp_get 19 hm630417 he630418 dr_cX17_spill_249 (gk_X17 D I) (Nat.le_of_ble_eq_true rfl) wr_7_93 rfl ?_
                          refine G_iload 7 dr_cX17_spill_252 rfl ?_
                          have hm630491 : (γ 9 19) ∈ P630383 := RS_m hT630385 ht630451 (by decide)
                          obtain ⟨f630493, he630492, bf630493⟩ := show rk_21 I (F630384 (γ 9 19)) from RS_o hT630385 ht630451
                          refine Gp_iald 0 hm630491 he630492 dr_cX17_spill_254 rfl (gB_in bg630382' (by decide) (by decide)) (G_nam fun z630494 hz630494 => ?_)
                          have bz630494 : gB z630494 (-1) 1999 := by rw [hz630494]; exact bf630493 _
                          have c9_630495 : cB (F624835 (γ0 9 19)) = f630493 := by rw [← x630401, ← congrFun (rSk_9 hs630386) 19]; exact cB_of he630492
                          have hs630496 : (cB (F624835 (γ0 9 19)) g630382.toInt.toNat).toInt = z630494.toInt := by rw [c9_630495, hz630494]; rfl
                          refine G_if_lt 292 dr_cX17_spill_255 (by decide +kernel) (fun hc630498 => ?_) (fun hc630498 => ?_)
                          · have r630499 : z630494.toInt < 0 := gj_lt hc630498 (show Int32.toInt 0 = 0 by decide)
                            have bz630494' : gB z630494 (-1) (-1) := ⟨by omega, by omega⟩
                            have ac630500 : (fI (F630384 q589771) 11).toInt = p630423.toInt := by rw [he630418]; rfl
                            have ac630501 : (fI (F630384 q589771) 14).toInt = p630426.toInt := by rw [he630418]; rfl
                            refine G_lv (L' := [(0, .ref q589771), (1, .ref q589772), (2, .int g628104), (3, .ref q628245), (4, .int g630379), (5, .ref q630380)]) [0, 1, 2, 3, 4, 5] rfl ?_
                            exact jn292_629899 P630383 F630384 γ el g630379 q630380 bg630379 hT630385 hs630386 hph630387 hB630388 ht630389 hf630390 r630391 r630392 ht630393 hf630394 (by omega) (by omega) (by omega) (by omega) (by omega) (by omega) x630401 (by exact x630402) (by exact x630403) (rS1_2 x630404 (Or.inr (Or.inr (by omega)))) (by omega) (by omega) (ms_j x630407 (by omega) (by omega) (by omega)) (eO_j x630408 (by rw [he630467] <;> rfl) (by rw [he630467] <;> rfl) (by omega)) x630409 x630410
                          · have r630502 : 0 ≤ z630494.toInt := gj_nlt hc630498 (show Int32.toInt 0 = 0 by decide)
                            have bz630494' : gB z630494 0 1999 := ⟨by omega, by omega⟩
                            refine G_aload_n 0 dr_cX17_spill_258 rfl ?_
                            refine G_aload_n 1 dr_cX17_spill_259 rfl ?_
                            refine G_aload_n 3 dr_cX17_spill_260 rfl ?_
                            refine G_iload 4 dr_cX17_spill_261 rfl ?_
                            refine G_aload_n 0 dr_cX17_spill_263 rfl ?_
                            refine Gp_get 19 hm630417 he630418 dr_cX17_spill_264 (gk_X17 D I) (Nat.le_of_ble_eq_true rfl) wr_7_93 rfl ?_
                            refine G_iload 7 dr_cX17_spill_267 rfl ?_
                            refine Gp_iald 0 hm630491 he630492 dr_cX17_spill_269 rfl (gB_in bg630382' (by decide) (by decide)) (G_eqi (y := z630494) hz630494.symm ?_)
                            have hm630503 : q628245 ∈ P630383 := RS_m hT630385 ht630389 (by decide)
                            obtain ⟨q630505, q630506, p630507, p630508, he630504, ht630515, ht630509, ht630510, ht630511, ht630512, ht630513, bp630507, bp630508, r630514, r630516, r630517⟩ := show rk_2 γ q628245 (F630384 q628245) from RS_o hT630385 ht630389
                            have hf630518 : γ 1 q630505 = f := (show γ 1 q630505 = γ 1 q628245 from ht630510).trans hf630390
                            have hf630519 : γ 1 q630506 = f := (show γ 1 q630506 = γ 1 q628245 from ht630512).trans hf630390
                            have r630520 : γ 6 (γ 1 q628245) = γ 6 f := by rw [hf630390]
                            have r630521 : γ 7 (γ 1 q628245) = γ 7 f := by rw [hf630390]
                            have r630522 : γ 19 (γ 1 q628245) = γ 19 f := by rw [hf630390]
                            have r630523 := r630514.resolve_left (by omega)
                            clear r630514
                            have r630524 : γ 2 (γ 14 q628245) = γ 2 q630505 := by rw [ht630515.1]
                            have hm630525 : q630505 ∈ P630383 := RS_m hT630385 ht630509 (by decide)
                            obtain ⟨⟨p630527, p630528, q630529, he630526, r630530, r630531, r630532, r630534⟩, r630533⟩ := show rk_3 D I γ el F630384 q630505 from RS_o hT630385 ht630509
                            have bp630527 := gB_any p630527
                            have bp630528 : gB p630528 0 1000000 := ⟨by omega, by omega⟩
                            have r630535 := (spi624920.2.2.2 g630382.toInt.toNat (tn_lt (by omega) (by omega)) (by omega)).2.2
                            have ac630536 : (fI (F630384 q589771) 11).toInt = p630423.toInt := by rw [he630418]; rfl
                            have ac630537 : (fI (F630384 q589771) 14).toInt = p630426.toInt := by rw [he630418]; rfl
                            have rg630538 := rM_ge hT630385 ht630413 hf630414
                            have rm630539 := rM_bd hB630388
                            have bd630540 := rBd_c hT630385 ht630413 hf630414 hB630388
                            have rc630541 := rc_at hT630385 ht630413 hf630414
                            refine Gw_callV (As := [.ref q589772, .ref q628245, .int g630379, .int z630494]) (gV_ok D I) (cg_409491_SpillForgeModel_load l hl0 D I γ el f B P630383 F630384 q589771 q589772 q628245 g630379 z630494 g628104.toInt.toNat hT630385 ht630412 ht630413 ht630389 hf630414 hB630388 hBk r630391 r630392 hf630390 ⟨by omega, by omega⟩ bz630494' (by omega) (by omega) (by omega) (by omega) (by omega)) dr_cX17_spill_270 ⟨wr_11_67, wr_1_14, wr_11_70, by decide, rfl, (Nat.le_of_ble_eq_true rfl), (Nat.le_of_ble_eq_true rfl)⟩ wr_11_69 wr_p_111 hm630417 he630418 rfl (rm_gc hph630387 pk630415) (rm_gs hph630387 pk630415) (Nat.le_of_ble_eq_true rfl) (fun r630545 w630546 dc630542 ds630543 hp630544 => ?_) (fun _ _ _ _ _ z => z.elim)
                            obtain ⟨P630557, F630558, γ, el, o630547, rfl, rfl, hk630559, ⟨hr630560, hr630561⟩, hB630562, bo630547, x630548, x630549, x630550, x630551, x630552, x630553, x630554, x630555, x630556⟩ := hp630544
                            have hT630563 := hk630559.1
                            have hs630564 := rSk_tr hs630386 hk630559 (by decide) (by decide) (by decide)
                            have kp630565 : F630558 (γ0 9 3) = F589770 (γ0 9 3) := (rSk_F hk630559 (rSk_k hs630386 k0_3 (by decide) (by decide)) (by decide) (by decide)).trans x630409
                            have kp630566 : F630558 (γ0 9 19) = F624835 (γ0 9 19) := (rSk_F hk630559 (rSk_k hs630386 k0_19 (by decide) (by decide)) (by decide) (by decide)).trans x630401
                            have ht630567 : rKd γ q589771 10 := rSk_k hk630559 ht630412 (by decide) (by decide)
                            have ht630568 : rKd γ q589772 9 := rSk_k hk630559 ht630413 (by decide) (by decide)
                            have hf630569 : γ 1 q589772 = f := rSk_1 hk630559 ht630413 (by decide) hf630414
                            have ht630570 : rKd γ q628245 2 := rSk_k hk630559 ht630389 (by decide) (by decide)
                            have hf630571 : γ 1 q628245 = f := rSk_1 hk630559 ht630389 (by decide) hf630390
                            have ht630572 : rKd γ q630380 1 := rSk_k hk630559 ht630393 (by decide) (by decide)
                            have hf630573 : γ 1 q630380 = f := rSk_1 hk630559 ht630393 (by decide) hf630394
                            have ht630574 : rKd γ q630505 3 := rSk_k hk630559 ht630509 (by decide) (by decide)
                            have hf630575 : γ 1 q630505 = f := rSk_1 hk630559 ht630509 (by decide) hf630518
                            have he630576 : F630558 q630380 = .inr (20, [.int p630468, .int p630469, .int p630470, .int p630471, .int p630472, .int p630473, .int p630474]) := (rSk_F hk630559 ht630393 (by decide) (by decide)).trans he630467
                            have hm630577 : q630380 ∈ P630557 := RS_m hT630563 ht630572 (by decide)
                            clear bp630507 bp630508 r630516 r630517 rg630538 rm630539 bd630540 rc630541
                            have mk630578 : mKp (F589770 q589771) (F630558 q589771) := mKp_tr x630410 x630556
                            have hph630579 : rPh γ0 el0 f ≤ rPh γ el f := rm_ph hph630387 hr630561
                            have pk630580 : rPh γ el f ≤ 387 * B + 6000 := rm_pk (rM_ge hT630563 ht630568 hf630569).1 (rM_bd hB630562)
                            change G _ _ _ _ _ _ _ (.int o630547 :: _) _ _ _
                            refine G_widen (cs' := ((rPh γ el f - rPh γ0 el0 f) / 18)) (sl' := (rPh γ el f - rPh γ0 el0 f)) (rm_wc hph630387 hr630560) (rm_ws hph630387 hr630561) ?_
                            have sz630581 := x630548
                            have r630582 : 0 < γ 6 (γ 1 q589772) := by rw [hf630569]; omega
                            have hm630583 : q589771 ∈ P630557 := RS_m hT630563 ht630567 (by decide)
                            refine rk10_e (show rk_10 γ (F630558 q589771) from RS_o hT630563 ht630567) (fun q630585 q630586 p630587 p630588 p630589 p630590 p630591 p630592 p630593 p630594 p630595 p630596 p630597 p630598 p630599 p630600 p630601 he630584 hB630628 ht630602 ht630603 ht630604 ht630605 ht630606 ht630607 ht630608 ht630609 ht630610 ht630611 ht630612 ht630613 ht630614 ht630615 ht630616 ht630617 ht630618 ht630619 ht630620 ht630621 ht630622 ht630623 ht630624 ht630625 hB630629 => ?_)
                            have ac630630 : (fI (F630558 q589771) 11).toInt = p630589.toInt := by rw [he630584]; rfl
                            have bp630589 : gB p630589 0 100 := (hB630628.2.2.1)
                            have ac630631 : (fI (F630558 q589771) 14).toInt = p630592.toInt := by rw [he630584]; rfl
                            have bp630592 : gB p630592 0 2000 := (hB630628.2.2.2.1)
                            refine G_istore (L' := [(8, .int o630547), (0, .ref q589771), (1, .ref q589772), (2, .int g628104), (3, .ref q628245), (4, .int g630379), (5, .ref q630380), (6, .int g630381), (7, .int g630382)]) dr_cX17_spill_273 (Nat.le_of_ble_eq_true rfl) rfl ?_
                            refine G_iload 0 dr_cX17_spill_275 rfl ?_
                            refine G_if_ge 282 dr_cX17_spill_277 (by decide +kernel) (fun hc630632 => ?_) (fun hc630632 => ?_)
                            · have r630633 : 0 ≤ o630547.toInt := gj_leL hc630632 (show Int32.toInt 0 = 0 by decide)
                              have bo630547' : gB o630547 0 1999 := ⟨by omega, by omega⟩
                              have pl630635 := sp_ld (x630554.resolve_left (by omega)) x630402 (tn_ge (by omega)) (rfl : ((g630379.toInt : Int).toNat + 1) = (g630379.toInt : Int).toNat + 1)
                              have hp630636 : rAt γ el q589772 (g628104.toInt : Int).toNat ((g630379.toInt : Int).toNat + 1) = q630380 := ((x630555.resolve_left (by omega)) (g630379.toInt : Int).toNat (Nat.le_refl _)).trans x630403
                              have r630637 := x630552.resolve_left (by omega)
                              clear x630552 x630554 x630555
                              obtain ⟨z630638, hz630638⟩ : ∃ z : Int32, z = g630379 + Int32.ofInt 1 := ⟨_, rfl⟩
                              have ez630638 : z630638.toInt = g630379.toInt + 1 := gI_inc hz630638 (by decide) bg630379 (by decide) (by decide)
                              have bz630638 : gB z630638 1 1000002 := ⟨by omega, by omega⟩
                              refine G_iinc (L' := [(4, .int z630638), (8, .int o630547), (0, .ref q589771), (1, .ref q589772), (2, .int g628104), (3, .ref q628245), (5, .ref q630380), (6, .int g630381), (7, .int g630382)]) z630638 5 dr_cX17_spill_282 rfl hz630638.symm (Nat.le_of_ble_eq_true rfl) rfl ?_
                              refine G_aload 6 dr_cX17_spill_285 rfl ?_
                              refine G_iload 1 dr_cX17_spill_287 rfl ?_
                              refine Gp_put 3 hm630577 he630576 dr_cX17_spill_289 (gk_X15 D I) (Nat.le_of_ble_eq_true rfl) wr_9_190 rfl rfl rfl (Nat.le_of_ble_eq_true rfl) (fun F630639 e630640 n630641 => ?_)
                              have r630642 := rk1_at hT630563 ht630572 he630576
                              have he630643 : F630639 q589771 = .inr (22, [.ref (γ 9 0), .ref (γ 9 1), .ref (γ 9 2), .ref (γ 9 3), .ref (γ 9 4), .ref (γ 9 5), .ref (γ 9 6), .ref (γ 9 7), .ref (γ 9 8), .int p630587, .int p630588, .int p630589, .int p630590, .int p630591, .int p630592, .ref (γ 9 15), .ref (γ 9 16), .ref (γ 9 17), .ref (γ 9 18), .ref (γ 9 19), .ref (γ 9 20), .ref (γ 9 21), .ref (γ 9 22), .int p630593, .int p630594, .int p630595, .int p630596, .int p630597, .ref q630585, .ref (γ 9 29), .int p630598, .ref (γ 9 31), .int p630599, .int p630600, .int p630601, .ref q630586]) := (n630641 q589771 (rn_oo he630584 he630576 (by decide))).trans he630584
                              have he630644 : F630639 q630380 = .inr (20, [.int p630468, .int p630469, .int p630470, .int o630547, .int p630472, .int p630473, .int p630474]) := e630640
                              have mk630645 : mKp (F589770 q589771) (F630639 q589771) := mKp_tr mk630578 (mKp_eq (n630641 q589771 (rn_ty ht630567 ht630572 (by decide))))
                              have kp630646 : F630639 (γ0 9 3) = F589770 (γ0 9 3) := (n630641 (γ0 9 3) (rn_ty (rSk_k hs630564 k0_3 (by decide) (by decide)) ht630572 (by decide))).trans kp630565
                              have kp630647 : F630639 (γ0 9 19) = F624835 (γ0 9 19) := (n630641 (γ0 9 19) (rn_ty (rSk_k hs630564 k0_19 (by decide) (by decide)) ht630572 (by decide))).trans kp630566
                              have hT630648 : RS D I P630557 F630639 γ el := RS_set hT630563 n630641 ht630572 (by decide) ⟨p630468, p630469, p630470, o630547, p630472, p630473, p630474, he630644, bp630468, bp630469, bp630472, bp630473, bp630474, (gHe r630475), (gHe r630476), (Or.inr bo630547'), r630642.1, r630642.2⟩
                              have hs630650 := rSk_put hs630564 hT630648 n630641 ht630572 (by decide) (by decide) (Or.inr (Or.inl hf630573))
                              have hm630652 : q628245 ∈ P630557 := RS_m hT630648 ht630570 (by decide)
                              obtain ⟨q630654, q630655, p630656, p630657, he630653, ht630664, ht630658, ht630659, ht630660, ht630661, ht630662, bp630656, bp630657, r630663, r630665, r630666⟩ := show rk_2 γ q628245 (F630639 q628245) from RS_o hT630648 ht630570
                              have hf630667 : γ 1 q630654 = f := (show γ 1 q630654 = γ 1 q628245 from ht630659).trans hf630571
                              have hf630668 : γ 1 q630655 = f := (show γ 1 q630655 = γ 1 q628245 from ht630661).trans hf630571
                              have r630669 : γ 6 (γ 1 q628245) = γ 6 f := by rw [hf630571]
                              have r630670 : γ 7 (γ 1 q628245) = γ 7 f := by rw [hf630571]
                              have r630671 : γ 19 (γ 1 q628245) = γ 19 f := by rw [hf630571]
                              have r630672 := r630663.resolve_left (by omega)
                              clear r630663
                              have r630673 : γ 2 (γ 14 q628245) = γ 2 q630654 := by rw [ht630664.1]
                              have pl630651 := sp_put hT630563 ht630568 hf630569 pl630635 n630641 hp630636 (show (g628104.toInt : Int).toNat < γ 6 f from tn_lt (by omega) (by omega)) (by unfold rwL; rw [x630551.2.2]; exact tn_le1 (by omega) (by omega))
                              have ac630674 : (fI (F630639 q589771) 11).toInt = p630589.toInt := by rw [he630643]; rfl
                              have ac630675 : (fI (F630639 q589771) 14).toInt = p630592.toInt := by rw [he630643]; rfl
                              refine G_lv (L' := [(0, .ref q589771), (1, .ref q589772), (2, .int g628104), (3, .ref q628245), (4, .int z630638), (5, .ref q630380)]) [2, 3, 4, 5, 0, 6] rfl ?_
                              exact jn292_629899 P630557 F630639 γ el z630638 q630380 ⟨by omega, by omega⟩ hT630648 hs630650 hph630579 hB630562 ht630570 hf630571 x630551.2.1 x630551.2.2 ht630572 hf630573 (by omega) (by omega) (by omega) (by omega) (by omega) (by omega) kp630647 (by rw [(show (z630638.toInt : Int).toNat = ((g630379.toInt : Int).toNat + 1) from tn_eq1 (by omega) (by omega))]; exact pl630651) (by rw [(show (z630638.toInt : Int).toNat = ((g630379.toInt : Int).toNat + 1) from tn_eq1 (by omega) (by omega))]; exact hp630636) (rS1_b he630467 he630644 (by omega) x630404) (by omega) (by omega) (ms_j x630407 (by omega) (by omega) (by omega)) (eO_j x630408 (by rw [he630644] <;> rfl) (by rw [he630467] <;> rfl) (by omega)) kp630646 mk630645
                            · have r630676 : o630547.toInt < 0 := gj_nleL hc630632 (show Int32.toInt 0 = 0 by decide)
                              have bo630547' : gB o630547 (-1) (-1) := ⟨by omega, by omega⟩
                              refine G_iconst 0 dr_cX17_spill_280 (by decide +kernel) ?_
                              exact G_zretA FieldType.boolean dr_cX17_spill_281 rfl rfl (rm_zc pk630580) (rm_zs pk630580) ⟨P630557, F630558, γ, el, 0, rfl, rfl, hs630564, (rm_pp hph630579), hB630562, (gB_w (gBl (show Int32.toInt 0 = 0 by decide)) (by decide) (by decide)), (by have qa0 : Int32.toInt 0 = 0 := (by decide); omega), (Or.inl (by decide)), kp630565, mk630578⟩
                    refine G_iload 0 dr_cX17_spill_102 rfl ?_
                    refine G_aload_n 1 dr_cX17_spill_104 rfl ?_
                    refine Gp_get 0 hm629827 he629828 dr_cX17_spill_105 (gk_X12 D I) (Nat.le_of_ble_eq_true rfl) wr_9_220 rfl ?_
                    refine Gw_callV (As := []) (gV_ok D I) (cp_7_ArrayList_size l hl0 D I P629750 F629751 q629829 p629851 q629853 p629852 hm629849 he629850 (gB_w bp629852 (by decide) (by decide))) dr_cX17_spill_108 ⟨wr_10_200, wr_1_18, wr_9_160, by decide, rfl, (Nat.le_of_ble_eq_true rfl), (Nat.le_of_ble_eq_true rfl)⟩ wr_9_158 wr_9_159 hm629849 he629850 rfl (rm_zc pk629776) (rm_zs pk629776) (Nat.le_of_ble_eq_true rfl) (fun r630680 w630681 dc630677 ds630678 hp630679 => ?_) (fun _ _ _ _ _ z => z.elim)
                    obtain ⟨rfl, rfl, hdc, hds⟩ := hp630679
                    change G _ _ _ _ _ _ _ (.int p629852 :: _) _ _ _
                    refine G_widen (cs' := ((rPh γ el f - rPh γ0 el0 f) / 18)) (sl' := (rPh γ el f - rPh γ0 el0 f)) (rm_d0 hdc) (rm_d0 hds) ?_
                    refine G_icmp_ge 129 dr_cX17_spill_111 (by decide +kernel) (fun hc630682 => ?_) (fun hc630682 => ?_)
                    · have r630683 : p629852.toInt ≤ g629749.toInt := gC_le hc630682
                      refine G_aload_n 1 dr_cX17_spill_129 rfl ?_
                      refine Gp_get 1 hm629827 he629828 dr_cX17_spill_130 (gk_X12 D I) (Nat.le_of_ble_eq_true rfl) wr_9_223 rfl ?_
                      have fl630686 : p629852.toInt = γ 2 q629829 := r629854
                      have hp630684 : rAt γ el q589772 (g628104.toInt : Int).toNat (g629749.toInt : Int).toNat = q629830 := (rAt_e r629759 ht629839.1 (by omega)).trans ht629839.2.1
                      have hL630685 : (g629749.toInt : Int).toNat ≤ γ 2 (rwL γ el q589772 (g628104.toInt : Int).toNat) := by unfold rwL; rw [r629759, ht629839.1]; exact tn_le0 (by omega) (by omega)
                      have hm630687 : q629830 ∈ P629750 := RS_m hT629752 ht629835 (by decide)
                      obtain ⟨p630689, p630690, p630691, p630692, p630693, p630694, p630695, he630688, bp630689, bp630690, bp630693, bp630694, bp630695, r630696, r630697, r630698, r630699, r630700⟩ := show rk_1 γ q629830 (F629751 q629830) from RS_o hT629752 ht629835
                      have bp630691 := gB_any p630691
                      have bp630692 := gB_any p630692
                      replace r630696 : gH _ := r630696
                      replace r630697 : gH _ := r630697
                      replace r630698 : gH _ := r630698
                      replace r630699 : gH _ := r630699
                      replace r630700 : gH _ := r630700
                      have r630701 : γ 7 (γ 1 q629830) = γ 7 f := by rw [hf629843]
                      have pl630702 := sp_hd x629767 hp630684 (show (g628104.toInt : Int).toNat < γ 6 f from tn_lt (by omega) (by omega)) hL630685
                      refine G_astore (L' := [(5, .ref q629830), (4, .int g629749), (3, .ref q628245), (2, .int g628104), (0, .ref q589771), (1, .ref q589772)]) dr_cX17_spill_133 (Nat.le_of_ble_eq_true rfl) rfl ?_
                      refine G_aload 0 dr_cX17_spill_135 rfl ?_
                      refine Gw_callV (As := []) (gV_ok D I) (cp_409853_Row_usesA l hl0 D I P629750 F629751 q629830 p630689 p630690 p630691 p630692 p630693 p630694 p630695 hm630687 he630688 bp630689 bp630690 bp630693 bp630694 bp630695) dr_cX17_spill_137 ⟨wr_10_192, wr_1_39, wr_10_195, by decide, rfl, (Nat.le_of_ble_eq_true rfl), (Nat.le_of_ble_eq_true rfl)⟩ wr_10_193 wr_10_194 hm630687 he630688 rfl (rm_zc pk629776) (rm_zs pk629776) (Nat.le_of_ble_eq_true rfl) (fun r630706 w630707 dc630703 ds630704 hp630705 => ?_) (fun _ _ _ _ _ z => z.elim)
                      obtain ⟨o630708, rfl, rfl, hdc, hds, bo630708, x630709, ht630710⟩ := hp630705
                      change G _ _ _ _ _ _ _ (.int o630708 :: _) _ _ _
                      refine G_widen (cs' := ((rPh γ el f - rPh γ0 el0 f) / 18)) (sl' := (rPh γ el f - rPh γ0 el0 f)) (rm_d0 hdc) (rm_d0 hds) ?_
                      refine G_if_eq 151 dr_cX17_spill_140 (by decide +kernel) (fun hc630711 => ?_) (fun hc630711 => ?_)
                      · have r630712 : o630708.toInt = 0 := gj_eq hc630711 (show Int32.toInt 0 = 0 by decide)
                        have bo630708' : gB o630708 0 0 := gB_t0 r630712
                        refine G_iconst (-1) dr_cX17_spill_151 (by decide +kernel) ?_
                        refine G_istore (L' := [(6, .int (-1)), (5, .ref q629830), (4, .int g629749), (3, .ref q628245), (2, .int g628104), (0, .ref q589771), (1, .ref q589772)]) dr_cX17_spill_152 (Nat.le_of_ble_eq_true rfl) rfl ?_
                        refine G_aload 1 dr_cX17_spill_154 rfl ?_
                        refine Gw_callV (As := []) (gV_ok D I) (cp_409877_Row_usesB l hl0 D I P629750 F629751 q629830 p630689 p630690 p630691 p630692 p630693 p630694 p630695 hm630687 he630688 bp630689 bp630690 bp630693 bp630694 bp630695) dr_cX17_spill_156 ⟨wr_10_196, wr_1_39, wr_10_199, by decide, rfl, (Nat.le_of_ble_eq_true rfl), (Nat.le_of_ble_eq_true rfl)⟩ wr_10_197 wr_10_198 hm630687 he630688 rfl (rm_zc pk629776) (rm_zs pk629776) (Nat.le_of_ble_eq_true rfl) (fun r630716 w630717 dc630713 ds630714 hp630715 => ?_) (fun _ _ _ _ _ z => z.elim)
                        obtain ⟨o630718, rfl, rfl, hdc, hds, bo630718, x630719, ht630720⟩ := hp630715
                        change G _ _ _ _ _ _ _ (.int o630718 :: _) _ _ _
                        refine G_widen (cs' := ((rPh γ el f - rPh γ0 el0 f) / 18)) (sl' := (rPh γ el f - rPh γ0 el0 f)) (rm_d0 hdc) (rm_d0 hds) ?_
                        refine G_if_eq 170 dr_cX17_spill_159 (by decide +kernel) (fun hc630721 => ?_) (fun hc630721 => ?_)
                        · have r630722 : o630718.toInt = 0 := gj_eq hc630721 (show Int32.toInt 0 = 0 by decide)
                          have bo630718' : gB o630718 0 0 := gB_t0 r630722
                          refine G_iconst (-1) dr_cX17_spill_170 (by decide +kernel) ?_
                          refine G_istore (L' := [(7, .int (-1)), (6, .int (-1)), (5, .ref q629830), (4, .int g629749), (3, .ref q628245), (2, .int g628104), (0, .ref q589771), (1, .ref q589772)]) dr_cX17_spill_171 (Nat.le_of_ble_eq_true rfl) rfl ?_
                          refine G_iload 1 dr_cX17_spill_173 rfl ?_
                          refine G_if_lt 236 dr_cX17_spill_175 (by decide +kernel) (fun _ => ?_) (fun hc => absurd hc (by decide))
                          have ac630723 : (fI (F629751 q589771) 11).toInt = p629784.toInt := by rw [he629779]; rfl
                          have ac630724 : (fI (F629751 q589771) 14).toInt = p629787.toInt := by rw [he629779]; rfl
                          refine G_lv (L' := [(0, .ref q589771), (1, .ref q589772), (2, .int g628104), (3, .ref q628245), (4, .int g629749), (5, .ref q629830), (6, .int (-1)), (7, .int (-1))]) [6, 7, 5, 4, 3, 2, 1, 0] rfl ?_
                          exact jn236_630410 P629750 F629751 γ el g629749 q629830 (-1) (-1) (gB_w bg629749' (by decide) (by decide)) (gB_w (gBl (show Int32.toInt (-1) = (-1) by decide)) (by decide) (by decide)) (gB_w (gBl (show Int32.toInt (-1) = (-1) by decide)) (by decide) (by decide)) hT629752 hs629753 hph629754 hB629755 ht629756 hf629757 r629758 r629759 ht629835 hf629843 (by have qa0 : Int32.toInt (-1) = (-1) := (by decide); omega) (by have qa0 : Int32.toInt (-1) = (-1) := (by decide); omega) (by have qa0 : Int32.toInt (-1) = (-1) := (by decide); omega) (by have qa0 : Int32.toInt (-1) = (-1) := (by decide); omega) (by have qa0 : Int32.toInt (-1) = (-1) := (by decide); omega) (by have qa0 : Int32.toInt (-1) = (-1) := (by decide); omega) x629766 (by exact pl630702.1) (by exact hp630684) (rS1_of he630688 he630688 pl630702.2 (fun h1 h2 h3 h4 => (uA_0 x630709 (by omega) h1 h2 h3 h4).elim) (fun h1 h2 h3 => (uB_0 x630719 (by omega) h1 h2 h3).elim)) (by have qa0 : Int32.toInt (-1) = (-1) := (by decide); omega) (by have qa0 : Int32.toInt (-1) = (-1) := (by decide); omega) (ms_j hm90_629771 (by omega) (by omega) (by omega)) (eO_c (op := p630689.toInt) (by rw [he630688] <;> rfl) (Or.inr ((gHe r630700).resolve_left (fun z => absurd (ht629837.2.symm.trans z) (by decide))))) x629770 x629771
                        · have r630725 : o630718.toInt ≠ 0 := gj_neq hc630721 (show Int32.toInt 0 = 0 by decide)
                          have bo630718' : gB o630718 1 1 := gB_t1 bo630718 r630725
                          refine G_aload 1 dr_cX17_spill_162 rfl ?_
                          refine Gp_get 3 hm630687 he630688 dr_cX17_spill_164 (gk_X15 D I) (Nat.le_of_ble_eq_true rfl) wr_9_190 rfl ?_
                          have rb630726 : gB p630692 0 1999 := (gHe r630698).resolve_left (by have z := (uB_1 x630719 (by omega)).2.2; omega)
                          refine G_goto 171 dr_cX17_spill_167 (by decide +kernel) ?_
                          refine G_istore (L' := [(7, .int p630692), (6, .int (-1)), (5, .ref q629830), (4, .int g629749), (3, .ref q628245), (2, .int g628104), (0, .ref q589771), (1, .ref q589772)]) dr_cX17_spill_171 (Nat.le_of_ble_eq_true rfl) rfl ?_
                          refine G_iload 1 dr_cX17_spill_173 rfl ?_
                          refine G_if_lt 236 dr_cX17_spill_175 (by decide +kernel) (fun _ => ?_) (fun hc => absurd hc (by decide))
                          have ac630727 : (fI (F629751 q589771) 11).toInt = p629784.toInt := by rw [he629779]; rfl
                          have ac630728 : (fI (F629751 q589771) 14).toInt = p629787.toInt := by rw [he629779]; rfl
                          refine G_lv (L' := [(0, .ref q589771), (1, .ref q589772), (2, .int g628104), (3, .ref q628245), (4, .int g629749), (5, .ref q629830), (6, .int (-1)), (7, .int p630692)]) [6, 7, 5, 4, 3, 2, 1, 0] rfl ?_
                          exact jn236_630410 P629750 F629751 γ el g629749 q629830 (-1) p630692 (gB_w bg629749' (by decide) (by decide)) (gB_w (gBl (show Int32.toInt (-1) = (-1) by decide)) (by decide) (by decide)) (gB_w rb630726 (by decide) (by decide)) hT629752 hs629753 hph629754 hB629755 ht629756 hf629757 r629758 r629759 ht629835 hf629843 (by have qa0 : Int32.toInt (-1) = (-1) := (by decide); omega) (by have qa0 : Int32.toInt (-1) = (-1) := (by decide); omega) (by have qa0 : Int32.toInt (-1) = (-1) := (by decide); omega) (by have qa0 : Int32.toInt (-1) = (-1) := (by decide); omega) (by have qa0 : Int32.toInt (-1) = (-1) := (by decide); omega) (by have qa0 : Int32.toInt (-1) = (-1) := (by decide); omega) x629766 (by exact pl630702.1) (by exact hp630684) (rS1_of he630688 he630688 pl630702.2 (fun h1 h2 h3 h4 => (uA_0 x630709 (by omega) h1 h2 h3 h4).elim) (fun _ _ _ => Or.inr ⟨rfl, rfl, by omega, Or.inl (by have qa : Int32.toInt (-1) = -1 := (by decide); omega)⟩)) (by have qa0 : Int32.toInt (-1) = (-1) := (by decide); omega) (by have qa0 : Int32.toInt (-1) = (-1) := (by decide); omega) (ms_j hm90_629771 (by omega) (by omega) (by omega)) (eO_c (op := p630689.toInt) (by rw [he630688] <;> rfl) (Or.inr ((gHe r630700).resolve_left (fun z => absurd (ht629837.2.symm.trans z) (by decide))))) x629770 x629771
                      · have r630729 : o630708.toInt ≠ 0 := gj_neq hc630711 (show Int32.toInt 0 = 0 by decide)
                        have bo630708' : gB o630708 1 1 := gB_t1 bo630708 r630729
                        refine G_aload 0 dr_cX17_spill_143 rfl ?_
                        refine Gp_get 2 hm630687 he630688 dr_cX17_spill_145 (gk_X15 D I) (Nat.le_of_ble_eq_true rfl) wr_9_186 rfl ?_
                        have rb630730 : gB p630691 0 1999 := (gHe r630697).resolve_left (by have z := (uA_1 x630709 (by omega)).2.2.2; omega)
                        refine G_goto 152 dr_cX17_spill_148 (by decide +kernel) ?_
                        refine G_istore (L' := [(6, .int p630691), (5, .ref q629830), (4, .int g629749), (3, .ref q628245), (2, .int g628104), (0, .ref q589771), (1, .ref q589772)]) dr_cX17_spill_152 (Nat.le_of_ble_eq_true rfl) rfl ?_
                        refine G_aload 1 dr_cX17_spill_154 rfl ?_
                        refine Gw_callV (As := []) (gV_ok D I) (cp_409877_Row_usesB l hl0 D I P629750 F629751 q629830 p630689 p630690 p630691 p630692 p630693 p630694 p630695 hm630687 he630688 bp630689 bp630690 bp630693 bp630694 bp630695) dr_cX17_spill_156 ⟨wr_10_196, wr_1_39, wr_10_199, by decide, rfl, (Nat.le_of_ble_eq_true rfl), (Nat.le_of_ble_eq_true rfl)⟩ wr_10_197 wr_10_198 hm630687 he630688 rfl (rm_zc pk629776) (rm_zs pk629776) (Nat.le_of_ble_eq_true rfl) (fun r630734 w630735 dc630731 ds630732 hp630733 => ?_) (fun _ _ _ _ _ z => z.elim)
                        obtain ⟨o630736, rfl, rfl, hdc, hds, bo630736, x630737, ht630738⟩ := hp630733
                        change G _ _ _ _ _ _ _ (.int o630736 :: _) _ _ _
                        refine G_widen (cs' := ((rPh γ el f - rPh γ0 el0 f) / 18)) (sl' := (rPh γ el f - rPh γ0 el0 f)) (rm_d0 hdc) (rm_d0 hds) ?_
                        refine G_if_eq 170 dr_cX17_spill_159 (by decide +kernel) (fun hc630739 => ?_) (fun hc630739 => ?_)
                        · have r630740 : o630736.toInt = 0 := gj_eq hc630739 (show Int32.toInt 0 = 0 by decide)
                          have bo630736' : gB o630736 0 0 := gB_t0 r630740
                          refine G_iconst (-1) dr_cX17_spill_170 (by decide +kernel) ?_
                          refine G_istore (L' := [(7, .int (-1)), (6, .int p630691), (5, .ref q629830), (4, .int g629749), (3, .ref q628245), (2, .int g628104), (0, .ref q589771), (1, .ref q589772)]) dr_cX17_spill_171 (Nat.le_of_ble_eq_true rfl) rfl ?_
                          refine G_iload 1 dr_cX17_spill_173 rfl ?_
                          refine G_if_lt 236 dr_cX17_spill_175 (by decide +kernel) (fun hc => absurd (show False by have := gj_lt hc (show Int32.toInt 0 = 0 by decide); omega) not_false) (fun _ => ?_)
                          refine G_aload_n 6 dr_cX17_spill_178 rfl ?_
                          refine Gp_get 19 hm629778 he629779 dr_cX17_spill_179 (gk_X17 D I) (Nat.le_of_ble_eq_true rfl) wr_7_93 rfl ?_
                          refine G_iload 1 dr_cX17_spill_182 rfl ?_
                          have hm630741 : (γ 9 19) ∈ P629750 := RS_m hT629752 ht629812 (by decide)
                          obtain ⟨f630743, he630742, bf630743⟩ := show rk_21 I (F629751 (γ 9 19)) from RS_o hT629752 ht629812
                          refine Gp_iald 0 hm630741 he630742 dr_cX17_spill_184 rfl (gB_in rb630730 (by decide) (by decide)) (G_nam fun z630744 hz630744 => ?_)
                          have bz630744 : gB z630744 (-1) 1999 := by rw [hz630744]; exact bf630743 _
                          have c9_630745 : cB (F624835 (γ0 9 19)) = f630743 := by rw [← x629766, ← congrFun (rSk_9 hs629753) 19]; exact cB_of he630742
                          have hs630746 : (cB (F624835 (γ0 9 19)) p630691.toInt.toNat).toInt = z630744.toInt := by rw [c9_630745, hz630744]; rfl
                          refine G_if_lt 236 dr_cX17_spill_185 (by decide +kernel) (fun hc630748 => ?_) (fun hc630748 => ?_)
                          · have r630749 : z630744.toInt < 0 := gj_lt hc630748 (show Int32.toInt 0 = 0 by decide)
                            have bz630744' : gB z630744 (-1) (-1) := ⟨by omega, by omega⟩
                            have ac630750 : (fI (F629751 q589771) 11).toInt = p629784.toInt := by rw [he629779]; rfl
                            have ac630751 : (fI (F629751 q589771) 14).toInt = p629787.toInt := by rw [he629779]; rfl
                            refine G_lv (L' := [(0, .ref q589771), (1, .ref q589772), (2, .int g628104), (3, .ref q628245), (4, .int g629749), (5, .ref q629830), (6, .int p630691), (7, .int (-1))]) [6, 7, 5, 4, 3, 2, 1, 0] rfl ?_
                            exact jn236_630410 P629750 F629751 γ el g629749 q629830 p630691 (-1) (gB_w bg629749' (by decide) (by decide)) (gB_w rb630730 (by decide) (by decide)) (gB_w (gBl (show Int32.toInt (-1) = (-1) by decide)) (by decide) (by decide)) hT629752 hs629753 hph629754 hB629755 ht629756 hf629757 r629758 r629759 ht629835 hf629843 (by have qa0 : Int32.toInt (-1) = (-1) := (by decide); omega) (by have qa0 : Int32.toInt (-1) = (-1) := (by decide); omega) (by have qa0 : Int32.toInt (-1) = (-1) := (by decide); omega) (by have qa0 : Int32.toInt (-1) = (-1) := (by decide); omega) (by have qa0 : Int32.toInt (-1) = (-1) := (by decide); omega) (by have qa0 : Int32.toInt (-1) = (-1) := (by decide); omega) x629766 (by exact pl630702.1) (by exact hp630684) (rS1_of he630688 he630688 pl630702.2 (fun _ _ _ _ => Or.inr ⟨rfl, by omega⟩) (fun h1 h2 h3 => (uB_0 x630737 (by omega) h1 h2 h3).elim)) (by have qa0 : Int32.toInt (-1) = (-1) := (by decide); omega) (by have qa0 : Int32.toInt (-1) = (-1) := (by decide); omega) (ms_j hm90_629771 (by omega) (by omega) (by omega)) (eO_c (op := p630689.toInt) (by rw [he630688] <;> rfl) (Or.inr ((gHe r630700).resolve_left (fun z => absurd (ht629837.2.symm.trans z) (by decide))))) x629770 x629771
                          · have r630752 : 0 ≤ z630744.toInt := gj_nlt hc630748 (show Int32.toInt 0 = 0 by decide)
                            have bz630744' : gB z630744 0 1999 := ⟨by omega, by omega⟩
                            refine G_aload_n 6 dr_cX17_spill_188 rfl ?_
                            refine G_aload_n 7 dr_cX17_spill_189 rfl ?_
                            refine G_aload_n 4 dr_cX17_spill_190 rfl ?_
                            refine G_iload 3 dr_cX17_spill_191 rfl ?_
                            refine G_aload_n 6 dr_cX17_spill_193 rfl ?_
                            refine Gp_get 19 hm629778 he629779 dr_cX17_spill_194 (gk_X17 D I) (Nat.le_of_ble_eq_true rfl) wr_7_93 rfl ?_
                            refine G_iload 1 dr_cX17_spill_197 rfl ?_
                            refine Gp_iald 0 hm630741 he630742 dr_cX17_spill_199 rfl (gB_in rb630730 (by decide) (by decide)) (G_eqi (y := z630744) hz630744.symm ?_)
                            have r630753 := (spi624920.2.2.2 p630691.toInt.toNat (tn_lt (by omega) (by omega)) (by omega)).2.2
                            have ac630754 : (fI (F629751 q589771) 11).toInt = p629784.toInt := by rw [he629779]; rfl
                            have ac630755 : (fI (F629751 q589771) 14).toInt = p629787.toInt := by rw [he629779]; rfl
                            have rg630756 := rM_ge hT629752 ht629774 hf629775
                            have rm630757 := rM_bd hB629755
                            have bd630758 := rBd_c hT629752 ht629774 hf629775 hB629755
                            have rc630759 := rc_at hT629752 ht629774 hf629775
                            refine Gw_callV (As := [.ref q589772, .ref q628245, .int g629749, .int z630744]) (gV_ok D I) (cg_409491_SpillForgeModel_load l hl0 D I γ el f B P629750 F629751 q589771 q589772 q628245 g629749 z630744 g628104.toInt.toNat hT629752 ht629773 ht629774 ht629756 hf629775 hB629755 hBk r629758 r629759 hf629757 bg629749' bz630744' (by have qa0 : Int32.toInt (-1) = (-1) := (by decide); omega) (by have qa0 : Int32.toInt (-1) = (-1) := (by decide); omega) (by have qa0 : Int32.toInt (-1) = (-1) := (by decide); omega) (by have qa0 : Int32.toInt (-1) = (-1) := (by decide); omega) (by have qa0 : Int32.toInt (-1) = (-1) := (by decide); omega)) dr_cX17_spill_200 ⟨wr_11_67, wr_1_14, wr_11_70, by decide, rfl, (Nat.le_of_ble_eq_true rfl), (Nat.le_of_ble_eq_true rfl)⟩ wr_11_69 wr_p_111 hm629778 he629779 rfl (rm_gc hph629754 pk629776) (rm_gs hph629754 pk629776) (Nat.le_of_ble_eq_true rfl) (fun r630763 w630764 dc630760 ds630761 hp630762 => ?_) (fun _ _ _ _ _ z => z.elim)
                            obtain ⟨P630775, F630776, γ, el, o630765, rfl, rfl, hk630777, ⟨hr630778, hr630779⟩, hB630780, bo630765, x630766, x630767, x630768, x630769, x630770, x630771, x630772, x630773, x630774⟩ := hp630762
                            have hT630781 := hk630777.1
                            have hs630782 := rSk_tr hs629753 hk630777 (by decide) (by decide) (by decide)
                            have kp630783 : F630776 (γ0 9 3) = F589770 (γ0 9 3) := (rSk_F hk630777 (rSk_k hs629753 k0_3 (by decide) (by decide)) (by decide) (by decide)).trans x629770
                            have kp630784 : F630776 (γ0 9 19) = F624835 (γ0 9 19) := (rSk_F hk630777 (rSk_k hs629753 k0_19 (by decide) (by decide)) (by decide) (by decide)).trans x629766
                            have ht630785 : rKd γ q589771 10 := rSk_k hk630777 ht629773 (by decide) (by decide)
                            have ht630786 : rKd γ q589772 9 := rSk_k hk630777 ht629774 (by decide) (by decide)
                            have hf630787 : γ 1 q589772 = f := rSk_1 hk630777 ht629774 (by decide) hf629775
                            have ht630788 : rKd γ q628245 2 := rSk_k hk630777 ht629756 (by decide) (by decide)
                            have hf630789 : γ 1 q628245 = f := rSk_1 hk630777 ht629756 (by decide) hf629757
                            have ht630790 : rKd γ q629829 3 := rSk_k hk630777 ht629833 (by decide) (by decide)
                            have hf630791 : γ 1 q629829 = f := rSk_1 hk630777 ht629833 (by decide) hf629842
                            have ht630792 : rKd γ q629830 1 := rSk_k hk630777 ht629835 (by decide) (by decide)
                            have hf630793 : γ 1 q629830 = f := rSk_1 hk630777 ht629835 (by decide) hf629843
                            have he630794 : F630776 q629830 = .inr (20, [.int p630689, .int p630690, .int p630691, .int p630692, .int p630693, .int p630694, .int p630695]) := (rSk_F hk630777 ht629835 (by decide) (by decide)).trans he630688
                            have hm630795 : q629830 ∈ P630775 := RS_m hT630781 ht630792 (by decide)
                            clear bp629831 bp629832 r629840 r629841 rg630756 rm630757 bd630758 rc630759
                            have mk630796 : mKp (F589770 q589771) (F630776 q589771) := mKp_tr x629771 x630774
                            have hph630797 : rPh γ0 el0 f ≤ rPh γ el f := rm_ph hph629754 hr630779
                            have pk630798 : rPh γ el f ≤ 387 * B + 6000 := rm_pk (rM_ge hT630781 ht630786 hf630787).1 (rM_bd hB630780)
                            change G _ _ _ _ _ _ _ (.int o630765 :: _) _ _ _
                            refine G_widen (cs' := ((rPh γ el f - rPh γ0 el0 f) / 18)) (sl' := (rPh γ el f - rPh γ0 el0 f)) (rm_wc hph629754 hr630778) (rm_ws hph629754 hr630779) ?_
                            have sz630799 := x630766
                            have r630800 : 0 < γ 6 (γ 1 q589772) := by rw [hf630787]; omega
                            have hm630801 : q589771 ∈ P630775 := RS_m hT630781 ht630785 (by decide)
                            refine rk10_e (show rk_10 γ (F630776 q589771) from RS_o hT630781 ht630785) (fun q630803 q630804 p630805 p630806 p630807 p630808 p630809 p630810 p630811 p630812 p630813 p630814 p630815 p630816 p630817 p630818 p630819 he630802 hB630846 ht630820 ht630821 ht630822 ht630823 ht630824 ht630825 ht630826 ht630827 ht630828 ht630829 ht630830 ht630831 ht630832 ht630833 ht630834 ht630835 ht630836 ht630837 ht630838 ht630839 ht630840 ht630841 ht630842 ht630843 hB630847 => ?_)
                            have ac630848 : (fI (F630776 q589771) 11).toInt = p630807.toInt := by rw [he630802]; rfl
                            have bp630807 : gB p630807 0 100 := (hB630846.2.2.1)
                            have ac630849 : (fI (F630776 q589771) 14).toInt = p630810.toInt := by rw [he630802]; rfl
                            have bp630810 : gB p630810 0 2000 := (hB630846.2.2.2.1)
                            refine G_istore (L' := [(8, .int o630765), (7, .int (-1)), (6, .int p630691), (5, .ref q629830), (4, .int g629749), (3, .ref q628245), (2, .int g628104), (0, .ref q589771), (1, .ref q589772)]) dr_cX17_spill_203 (Nat.le_of_ble_eq_true rfl) rfl ?_
                            refine G_iload 0 dr_cX17_spill_205 rfl ?_
                            refine G_if_ge 212 dr_cX17_spill_207 (by decide +kernel) (fun hc630850 => ?_) (fun hc630850 => ?_)
                            · have r630851 : 0 ≤ o630765.toInt := gj_leL hc630850 (show Int32.toInt 0 = 0 by decide)
                              have bo630765' : gB o630765 0 1999 := ⟨by omega, by omega⟩
                              have pl630853 := sp_ld (x630772.resolve_left (by omega)) pl630702.1 (tn_ge (by omega)) (rfl : ((g629749.toInt : Int).toNat + 1) = (g629749.toInt : Int).toNat + 1)
                              have hp630854 : rAt γ el q589772 (g628104.toInt : Int).toNat ((g629749.toInt : Int).toNat + 1) = q629830 := ((x630773.resolve_left (by omega)) (g629749.toInt : Int).toNat (Nat.le_refl _)).trans hp630684
                              have r630855 := x630770.resolve_left (by omega)
                              clear x630770 x630772 x630773
                              obtain ⟨z630856, hz630856⟩ : ∃ z : Int32, z = g629749 + Int32.ofInt 1 := ⟨_, rfl⟩
                              have ez630856 : z630856.toInt = g629749.toInt + 1 := gI_inc hz630856 (by decide) bg629749' (by decide) (by decide)
                              have bz630856 : gB z630856 1 1000001 := ⟨by omega, by omega⟩
                              refine G_iinc (L' := [(4, .int z630856), (8, .int o630765), (7, .int (-1)), (6, .int p630691), (5, .ref q629830), (3, .ref q628245), (2, .int g628104), (0, .ref q589771), (1, .ref q589772)]) z630856 4 dr_cX17_spill_212 rfl hz630856.symm (Nat.le_of_ble_eq_true rfl) rfl ?_
                              refine G_aload 4 dr_cX17_spill_215 rfl ?_
                              refine G_iload 1 dr_cX17_spill_217 rfl ?_
                              refine Gp_put 2 hm630795 he630794 dr_cX17_spill_219 (gk_X15 D I) (Nat.le_of_ble_eq_true rfl) wr_9_186 rfl rfl rfl (Nat.le_of_ble_eq_true rfl) (fun F630857 e630858 n630859 => ?_)
                              have r630860 := rk1_at hT630781 ht630792 he630794
                              have he630861 : F630857 q589771 = .inr (22, [.ref (γ 9 0), .ref (γ 9 1), .ref (γ 9 2), .ref (γ 9 3), .ref (γ 9 4), .ref (γ 9 5), .ref (γ 9 6), .ref (γ 9 7), .ref (γ 9 8), .int p630805, .int p630806, .int p630807, .int p630808, .int p630809, .int p630810, .ref (γ 9 15), .ref (γ 9 16), .ref (γ 9 17), .ref (γ 9 18), .ref (γ 9 19), .ref (γ 9 20), .ref (γ 9 21), .ref (γ 9 22), .int p630811, .int p630812, .int p630813, .int p630814, .int p630815, .ref q630803, .ref (γ 9 29), .int p630816, .ref (γ 9 31), .int p630817, .int p630818, .int p630819, .ref q630804]) := (n630859 q589771 (rn_oo he630802 he630794 (by decide))).trans he630802
                              have he630862 : F630857 q629830 = .inr (20, [.int p630689, .int p630690, .int o630765, .int p630692, .int p630693, .int p630694, .int p630695]) := e630858
                              have mk630863 : mKp (F589770 q589771) (F630857 q589771) := mKp_tr mk630796 (mKp_eq (n630859 q589771 (rn_ty ht630785 ht630792 (by decide))))
                              have kp630864 : F630857 (γ0 9 3) = F589770 (γ0 9 3) := (n630859 (γ0 9 3) (rn_ty (rSk_k hs630782 k0_3 (by decide) (by decide)) ht630792 (by decide))).trans kp630783
                              have kp630865 : F630857 (γ0 9 19) = F624835 (γ0 9 19) := (n630859 (γ0 9 19) (rn_ty (rSk_k hs630782 k0_19 (by decide) (by decide)) ht630792 (by decide))).trans kp630784
                              refine G_iload 2 dr_cX17_spill_222 rfl ?_
                              refine G_iload 3 dr_cX17_spill_224 rfl ?_
                              refine G_icmp_ne 236 dr_cX17_spill_226 (by decide +kernel) (fun _ => ?_) (fun hc => absurd (show False by have := gj_eqL hc (show Int32.toInt (-1) = (-1) by decide); omega) not_false)
                              have hT630866 : RS D I P630775 F630857 γ el := RS_set hT630781 n630859 ht630792 (by decide) ⟨p630689, p630690, o630765, p630692, p630693, p630694, p630695, he630862, bp630689, bp630690, bp630693, bp630694, bp630695, (gHe r630696), (Or.inr bo630765'), (gHe r630698), r630860.1, r630860.2⟩
                              have hs630868 := rSk_put hs630782 hT630866 n630859 ht630792 (by decide) (by decide) (Or.inr (Or.inl hf630793))
                              have hm630870 : q628245 ∈ P630775 := RS_m hT630866 ht630788 (by decide)
                              obtain ⟨q630872, q630873, p630874, p630875, he630871, ht630882, ht630876, ht630877, ht630878, ht630879, ht630880, bp630874, bp630875, r630881, r630883, r630884⟩ := show rk_2 γ q628245 (F630857 q628245) from RS_o hT630866 ht630788
                              have hf630885 : γ 1 q630872 = f := (show γ 1 q630872 = γ 1 q628245 from ht630877).trans hf630789
                              have hf630886 : γ 1 q630873 = f := (show γ 1 q630873 = γ 1 q628245 from ht630879).trans hf630789
                              have r630887 : γ 6 (γ 1 q628245) = γ 6 f := by rw [hf630789]
                              have r630888 : γ 7 (γ 1 q628245) = γ 7 f := by rw [hf630789]
                              have r630889 : γ 19 (γ 1 q628245) = γ 19 f := by rw [hf630789]
                              have r630890 := r630881.resolve_left (by omega)
                              clear r630881
                              have r630891 : γ 2 (γ 14 q628245) = γ 2 q630872 := by rw [ht630882.1]
                              have pl630869 := sp_put hT630781 ht630786 hf630787 pl630853 n630859 hp630854 (show (g628104.toInt : Int).toNat < γ 6 f from tn_lt (by omega) (by omega)) (by unfold rwL; rw [x630769.2.2]; exact tn_le1 (by omega) (by omega))
                              have ac630892 : (fI (F630857 q589771) 11).toInt = p630807.toInt := by rw [he630861]; rfl
                              have ac630893 : (fI (F630857 q589771) 14).toInt = p630810.toInt := by rw [he630861]; rfl
                              refine G_lv (L' := [(0, .ref q589771), (1, .ref q589772), (2, .int g628104), (3, .ref q628245), (4, .int z630856), (5, .ref q629830), (6, .int p630691), (7, .int (-1))]) [7, 8, 6, 5, 0, 4, 3, 2] rfl ?_
                              exact jn236_630410 P630775 F630857 γ el z630856 q629830 p630691 (-1) (gB_w bz630856 (by decide) (by decide)) (gB_w rb630730 (by decide) (by decide)) (gB_w (gBl (show Int32.toInt (-1) = (-1) by decide)) (by decide) (by decide)) hT630866 hs630868 hph630797 hB630780 ht630788 hf630789 x630769.2.1 x630769.2.2 ht630792 hf630793 (by have qa0 : Int32.toInt (-1) = (-1) := (by decide); omega) (by have qa0 : Int32.toInt (-1) = (-1) := (by decide); omega) (by have qa0 : Int32.toInt (-1) = (-1) := (by decide); omega) (by have qa0 : Int32.toInt (-1) = (-1) := (by decide); omega) (by have qa0 : Int32.toInt (-1) = (-1) := (by decide); omega) (by have qa0 : Int32.toInt (-1) = (-1) := (by decide); omega) kp630865 (by rw [(show (z630856.toInt : Int).toNat = ((g629749.toInt : Int).toNat + 1) from tn_eq1 (by omega) (by omega))]; exact pl630869) (by rw [(show (z630856.toInt : Int).toNat = ((g629749.toInt : Int).toNat + 1) from tn_eq1 (by omega) (by omega))]; exact hp630854) (rS1_of he630688 he630862 pl630702.2 (fun _ _ _ _ => Or.inl (by omega)) (fun h1 h2 h3 => (uB_0 x630737 (by omega) h1 h2 h3).elim)) (by have qa0 : Int32.toInt (-1) = (-1) := (by decide); omega) (by have qa0 : Int32.toInt (-1) = (-1) := (by decide); omega) (ms_j hm90_629771 (by omega) (by omega) (by omega)) (eO_c (op := p630689.toInt) (by rw [he630862] <;> rfl) (Or.inr ((gHe r630700).resolve_left (fun z => absurd (ht629837.2.symm.trans z) (by decide))))) kp630864 mk630863
                            · have r630894 : o630765.toInt < 0 := gj_nleL hc630850 (show Int32.toInt 0 = 0 by decide)
                              have bo630765' : gB o630765 (-1) (-1) := ⟨by omega, by omega⟩
                              refine G_iconst 0 dr_cX17_spill_210 (by decide +kernel) ?_
                              exact G_zretA FieldType.boolean dr_cX17_spill_211 rfl rfl (rm_zc pk630798) (rm_zs pk630798) ⟨P630775, F630776, γ, el, 0, rfl, rfl, hs630782, (rm_pp hph630797), hB630780, (gB_w (gBl (show Int32.toInt 0 = 0 by decide)) (by decide) (by decide)), (by have qa0 : Int32.toInt (-1) = (-1) := (by decide); have qa1 : Int32.toInt 0 = 0 := (by decide); omega), (Or.inl (by decide)), kp630783, mk630796⟩
                        · have r630895 : o630736.toInt ≠ 0 := gj_neq hc630739 (show Int32.toInt 0 = 0 by decide)
                          have bo630736' : gB o630736 1 1 := gB_t1 bo630736 r630895
                          refine G_aload 1 dr_cX17_spill_162 rfl ?_
                          refine Gp_get 3 hm630687 he630688 dr_cX17_spill_164 (gk_X15 D I) (Nat.le_of_ble_eq_true rfl) wr_9_190 rfl ?_
                          have rb630896 : gB p630692 0 1999 := (gHe r630698).resolve_left (by have z := (uB_1 x630737 (by omega)).2.2; omega)
                          refine G_goto 171 dr_cX17_spill_167 (by decide +kernel) ?_
                          refine G_istore (L' := [(7, .int p630692), (6, .int p630691), (5, .ref q629830), (4, .int g629749), (3, .ref q628245), (2, .int g628104), (0, .ref q589771), (1, .ref q589772)]) dr_cX17_spill_171 (Nat.le_of_ble_eq_true rfl) rfl ?_
                          refine G_iload 1 dr_cX17_spill_173 rfl ?_
                          refine G_if_lt 236 dr_cX17_spill_175 (by decide +kernel) (fun hc => absurd (show False by have := gj_lt hc (show Int32.toInt 0 = 0 by decide); omega) not_false) (fun _ => ?_)
                          refine G_aload_n 6 dr_cX17_spill_178 rfl ?_
                          refine Gp_get 19 hm629778 he629779 dr_cX17_spill_179 (gk_X17 D I) (Nat.le_of_ble_eq_true rfl) wr_7_93 rfl ?_
                          refine G_iload 1 dr_cX17_spill_182 rfl ?_
                          have hm630897 : (γ 9 19) ∈ P629750 := RS_m hT629752 ht629812 (by decide)
                          obtain ⟨f630899, he630898, bf630899⟩ := show rk_21 I (F629751 (γ 9 19)) from RS_o hT629752 ht629812
                          refine Gp_iald 0 hm630897 he630898 dr_cX17_spill_184 rfl (gB_in rb630730 (by decide) (by decide)) (G_nam fun z630900 hz630900 => ?_)
                          have bz630900 : gB z630900 (-1) 1999 := by rw [hz630900]; exact bf630899 _
                          have c9_630901 : cB (F624835 (γ0 9 19)) = f630899 := by rw [← x629766, ← congrFun (rSk_9 hs629753) 19]; exact cB_of he630898
                          have hs630902 : (cB (F624835 (γ0 9 19)) p630691.toInt.toNat).toInt = z630900.toInt := by rw [c9_630901, hz630900]; rfl
                          refine G_if_lt 236 dr_cX17_spill_185 (by decide +kernel) (fun hc630904 => ?_) (fun hc630904 => ?_)
                          · have r630905 : z630900.toInt < 0 := gj_lt hc630904 (show Int32.toInt 0 = 0 by decide)
                            have bz630900' : gB z630900 (-1) (-1) := ⟨by omega, by omega⟩
                            have ac630906 : (fI (F629751 q589771) 11).toInt = p629784.toInt := by rw [he629779]; rfl
                            have ac630907 : (fI (F629751 q589771) 14).toInt = p629787.toInt := by rw [he629779]; rfl
                            refine G_lv (L' := [(0, .ref q589771), (1, .ref q589772), (2, .int g628104), (3, .ref q628245), (4, .int g629749), (5, .ref q629830), (6, .int p630691), (7, .int p630692)]) [6, 7, 5, 4, 3, 2, 1, 0] rfl ?_
                            exact jn236_630410 P629750 F629751 γ el g629749 q629830 p630691 p630692 (gB_w bg629749' (by decide) (by decide)) (gB_w rb630730 (by decide) (by decide)) (gB_w rb630896 (by decide) (by decide)) hT629752 hs629753 hph629754 hB629755 ht629756 hf629757 r629758 r629759 ht629835 hf629843 (by omega) (by omega) (by omega) (by omega) (by omega) (by omega) x629766 (by exact pl630702.1) (by exact hp630684) (rS1_of he630688 he630688 pl630702.2 (fun _ _ _ _ => Or.inr ⟨rfl, by omega⟩) (fun _ _ _ => Or.inr ⟨rfl, rfl, by omega, (Classical.em (p630692.toInt = p630691.toInt)).elim (fun e => Or.inr (by rw [e]; omega)) (fun e => Or.inl e)⟩)) (by omega) (by omega) (ms_j hm90_629771 (by omega) (by omega) (by omega)) (eO_c (op := p630689.toInt) (by rw [he630688] <;> rfl) (Or.inr ((gHe r630700).resolve_left (fun z => absurd (ht629837.2.symm.trans z) (by decide))))) x629770 x629771
                          · have r630908 : 0 ≤ z630900.toInt := gj_nlt hc630904 (show Int32.toInt 0 = 0 by decide)
                            have bz630900' : gB z630900 0 1999 := ⟨by omega, by omega⟩
                            refine G_aload_n 6 dr_cX17_spill_188 rfl ?_
                            refine G_aload_n 7 dr_cX17_spill_189 rfl ?_
                            refine G_aload_n 4 dr_cX17_spill_190 rfl ?_
                            refine G_iload 3 dr_cX17_spill_191 rfl ?_
                            refine G_aload_n 6 dr_cX17_spill_193 rfl ?_
                            refine Gp_get 19 hm629778 he629779 dr_cX17_spill_194 (gk_X17 D I) (Nat.le_of_ble_eq_true rfl) wr_7_93 rfl ?_
                            refine G_iload 1 dr_cX17_spill_197 rfl ?_
                            refine Gp_iald 0 hm630897 he630898 dr_cX17_spill_199 rfl (gB_in rb630730 (by decide) (by decide)) (G_eqi (y := z630900) hz630900.symm ?_)
                            have r630909 := (spi624920.2.2.2 p630691.toInt.toNat (tn_lt (by omega) (by omega)) (by omega)).2.2
                            have ac630910 : (fI (F629751 q589771) 11).toInt = p629784.toInt := by rw [he629779]; rfl
                            have ac630911 : (fI (F629751 q589771) 14).toInt = p629787.toInt := by rw [he629779]; rfl
                            have rg630912 := rM_ge hT629752 ht629774 hf629775
                            have rm630913 := rM_bd hB629755
                            have bd630914 := rBd_c hT629752 ht629774 hf629775 hB629755
                            have rc630915 := rc_at hT629752 ht629774 hf629775
                            refine Gw_callV (As := [.ref q589772, .ref q628245, .int g629749, .int z630900]) (gV_ok D I) (cg_409491_SpillForgeModel_load l hl0 D I γ el f B P629750 F629751 q589771 q589772 q628245 g629749 z630900 g628104.toInt.toNat hT629752 ht629773 ht629774 ht629756 hf629775 hB629755 hBk r629758 r629759 hf629757 bg629749' bz630900' (by omega) (by omega) (by omega) (by omega) (by omega)) dr_cX17_spill_200 ⟨wr_11_67, wr_1_14, wr_11_70, by decide, rfl, (Nat.le_of_ble_eq_true rfl), (Nat.le_of_ble_eq_true rfl)⟩ wr_11_69 wr_p_111 hm629778 he629779 rfl (rm_gc hph629754 pk629776) (rm_gs hph629754 pk629776) (Nat.le_of_ble_eq_true rfl) (fun r630919 w630920 dc630916 ds630917 hp630918 => ?_) (fun _ _ _ _ _ z => z.elim)
                            obtain ⟨P630931, F630932, γ, el, o630921, rfl, rfl, hk630933, ⟨hr630934, hr630935⟩, hB630936, bo630921, x630922, x630923, x630924, x630925, x630926, x630927, x630928, x630929, x630930⟩ := hp630918
                            have hT630937 := hk630933.1
                            have hs630938 := rSk_tr hs629753 hk630933 (by decide) (by decide) (by decide)
                            have kp630939 : F630932 (γ0 9 3) = F589770 (γ0 9 3) := (rSk_F hk630933 (rSk_k hs629753 k0_3 (by decide) (by decide)) (by decide) (by decide)).trans x629770
                            have kp630940 : F630932 (γ0 9 19) = F624835 (γ0 9 19) := (rSk_F hk630933 (rSk_k hs629753 k0_19 (by decide) (by decide)) (by decide) (by decide)).trans x629766
                            have ht630941 : rKd γ q589771 10 := rSk_k hk630933 ht629773 (by decide) (by decide)
                            have ht630942 : rKd γ q589772 9 := rSk_k hk630933 ht629774 (by decide) (by decide)
                            have hf630943 : γ 1 q589772 = f := rSk_1 hk630933 ht629774 (by decide) hf629775
                            have ht630944 : rKd γ q628245 2 := rSk_k hk630933 ht629756 (by decide) (by decide)
                            have hf630945 : γ 1 q628245 = f := rSk_1 hk630933 ht629756 (by decide) hf629757
                            have ht630946 : rKd γ q629829 3 := rSk_k hk630933 ht629833 (by decide) (by decide)
                            have hf630947 : γ 1 q629829 = f := rSk_1 hk630933 ht629833 (by decide) hf629842
                            have ht630948 : rKd γ q629830 1 := rSk_k hk630933 ht629835 (by decide) (by decide)
                            have hf630949 : γ 1 q629830 = f := rSk_1 hk630933 ht629835 (by decide) hf629843
                            have he630950 : F630932 q629830 = .inr (20, [.int p630689, .int p630690, .int p630691, .int p630692, .int p630693, .int p630694, .int p630695]) := (rSk_F hk630933 ht629835 (by decide) (by decide)).trans he630688
                            have hm630951 : q629830 ∈ P630931 := RS_m hT630937 ht630948 (by decide)
                            clear bp629831 bp629832 r629840 r629841 rg630912 rm630913 bd630914 rc630915
                            have mk630952 : mKp (F589770 q589771) (F630932 q589771) := mKp_tr x629771 x630930
                            have hph630953 : rPh γ0 el0 f ≤ rPh γ el f := rm_ph hph629754 hr630935
                            have pk630954 : rPh γ el f ≤ 387 * B + 6000 := rm_pk (rM_ge hT630937 ht630942 hf630943).1 (rM_bd hB630936)
                            change G _ _ _ _ _ _ _ (.int o630921 :: _) _ _ _
                            refine G_widen (cs' := ((rPh γ el f - rPh γ0 el0 f) / 18)) (sl' := (rPh γ el f - rPh γ0 el0 f)) (rm_wc hph629754 hr630934) (rm_ws hph629754 hr630935) ?_
                            have sz630955 := x630922
                            have r630956 : 0 < γ 6 (γ 1 q589772) := by rw [hf630943]; omega
                            have hm630957 : q589771 ∈ P630931 := RS_m hT630937 ht630941 (by decide)
                            refine rk10_e (show rk_10 γ (F630932 q589771) from RS_o hT630937 ht630941) (fun q630959 q630960 p630961 p630962 p630963 p630964 p630965 p630966 p630967 p630968 p630969 p630970 p630971 p630972 p630973 p630974 p630975 he630958 hB631002 ht630976 ht630977 ht630978 ht630979 ht630980 ht630981 ht630982 ht630983 ht630984 ht630985 ht630986 ht630987 ht630988 ht630989 ht630990 ht630991 ht630992 ht630993 ht630994 ht630995 ht630996 ht630997 ht630998 ht630999 hB631003 => ?_)
                            have ac631004 : (fI (F630932 q589771) 11).toInt = p630963.toInt := by rw [he630958]; rfl
                            have bp630963 : gB p630963 0 100 := (hB631002.2.2.1)
                            have ac631005 : (fI (F630932 q589771) 14).toInt = p630966.toInt := by rw [he630958]; rfl
                            have bp630966 : gB p630966 0 2000 := (hB631002.2.2.2.1)
                            refine G_istore (L' := [(8, .int o630921), (7, .int p630692), (6, .int p630691), (5, .ref q629830), (4, .int g629749), (3, .ref q628245), (2, .int g628104), (0, .ref q589771), (1, .ref q589772)]) dr_cX17_spill_203 (Nat.le_of_ble_eq_true rfl) rfl ?_
                            refine G_iload 0 dr_cX17_spill_205 rfl ?_
                            refine G_if_ge 212 dr_cX17_spill_207 (by decide +kernel) (fun hc631006 => ?_) (fun hc631006 => ?_)
                            · have r631007 : 0 ≤ o630921.toInt := gj_leL hc631006 (show Int32.toInt 0 = 0 by decide)
                              have bo630921' : gB o630921 0 1999 := ⟨by omega, by omega⟩
                              have pl631009 := sp_ld (x630928.resolve_left (by omega)) pl630702.1 (tn_ge (by omega)) (rfl : ((g629749.toInt : Int).toNat + 1) = (g629749.toInt : Int).toNat + 1)
                              have hp631010 : rAt γ el q589772 (g628104.toInt : Int).toNat ((g629749.toInt : Int).toNat + 1) = q629830 := ((x630929.resolve_left (by omega)) (g629749.toInt : Int).toNat (Nat.le_refl _)).trans hp630684
                              have r631011 := x630926.resolve_left (by omega)
                              clear x630926 x630928 x630929
                              obtain ⟨z631012, hz631012⟩ : ∃ z : Int32, z = g629749 + Int32.ofInt 1 := ⟨_, rfl⟩
                              have ez631012 : z631012.toInt = g629749.toInt + 1 := gI_inc hz631012 (by decide) bg629749' (by decide) (by decide)
                              have bz631012 : gB z631012 1 1000001 := ⟨by omega, by omega⟩
                              refine G_iinc (L' := [(4, .int z631012), (8, .int o630921), (7, .int p630692), (6, .int p630691), (5, .ref q629830), (3, .ref q628245), (2, .int g628104), (0, .ref q589771), (1, .ref q589772)]) z631012 4 dr_cX17_spill_212 rfl hz631012.symm (Nat.le_of_ble_eq_true rfl) rfl ?_
                              refine G_aload 4 dr_cX17_spill_215 rfl ?_
                              refine G_iload 1 dr_cX17_spill_217 rfl ?_
                              refine Gp_put 2 hm630951 he630950 dr_cX17_spill_219 (gk_X15 D I) (Nat.le_of_ble_eq_true rfl) wr_9_186 rfl rfl rfl (Nat.le_of_ble_eq_true rfl) (fun F631013 e631014 n631015 => ?_)
                              have r631016 := rk1_at hT630937 ht630948 he630950
                              have he631017 : F631013 q589771 = .inr (22, [.ref (γ 9 0), .ref (γ 9 1), .ref (γ 9 2), .ref (γ 9 3), .ref (γ 9 4), .ref (γ 9 5), .ref (γ 9 6), .ref (γ 9 7), .ref (γ 9 8), .int p630961, .int p630962, .int p630963, .int p630964, .int p630965, .int p630966, .ref (γ 9 15), .ref (γ 9 16), .ref (γ 9 17), .ref (γ 9 18), .ref (γ 9 19), .ref (γ 9 20), .ref (γ 9 21), .ref (γ 9 22), .int p630967, .int p630968, .int p630969, .int p630970, .int p630971, .ref q630959, .ref (γ 9 29), .int p630972, .ref (γ 9 31), .int p630973, .int p630974, .int p630975, .ref q630960]) := (n631015 q589771 (rn_oo he630958 he630950 (by decide))).trans he630958
                              have he631018 : F631013 q629830 = .inr (20, [.int p630689, .int p630690, .int o630921, .int p630692, .int p630693, .int p630694, .int p630695]) := e631014
                              have mk631019 : mKp (F589770 q589771) (F631013 q589771) := mKp_tr mk630952 (mKp_eq (n631015 q589771 (rn_ty ht630941 ht630948 (by decide))))
                              have kp631020 : F631013 (γ0 9 3) = F589770 (γ0 9 3) := (n631015 (γ0 9 3) (rn_ty (rSk_k hs630938 k0_3 (by decide) (by decide)) ht630948 (by decide))).trans kp630939
                              have kp631021 : F631013 (γ0 9 19) = F624835 (γ0 9 19) := (n631015 (γ0 9 19) (rn_ty (rSk_k hs630938 k0_19 (by decide) (by decide)) ht630948 (by decide))).trans kp630940
                              refine G_iload 2 dr_cX17_spill_222 rfl ?_
                              refine G_iload 3 dr_cX17_spill_224 rfl ?_
                              refine G_icmp_ne 236 dr_cX17_spill_226 (by decide +kernel) (fun hc631022 => ?_) (fun hc631022 => ?_)
                              · have r631023 : p630692.toInt ≠ p630691.toInt := gC_ne hc631022
                                have hT631024 : RS D I P630931 F631013 γ el := RS_set hT630937 n631015 ht630948 (by decide) ⟨p630689, p630690, o630921, p630692, p630693, p630694, p630695, he631018, bp630689, bp630690, bp630693, bp630694, bp630695, (gHe r630696), (Or.inr bo630921'), (gHe r630698), r631016.1, r631016.2⟩
                                have hs631026 := rSk_put hs630938 hT631024 n631015 ht630948 (by decide) (by decide) (Or.inr (Or.inl hf630949))
                                have hm631028 : q628245 ∈ P630931 := RS_m hT631024 ht630944 (by decide)
                                obtain ⟨q631030, q631031, p631032, p631033, he631029, ht631040, ht631034, ht631035, ht631036, ht631037, ht631038, bp631032, bp631033, r631039, r631041, r631042⟩ := show rk_2 γ q628245 (F631013 q628245) from RS_o hT631024 ht630944
                                have hf631043 : γ 1 q631030 = f := (show γ 1 q631030 = γ 1 q628245 from ht631035).trans hf630945
                                have hf631044 : γ 1 q631031 = f := (show γ 1 q631031 = γ 1 q628245 from ht631037).trans hf630945
                                have r631045 : γ 6 (γ 1 q628245) = γ 6 f := by rw [hf630945]
                                have r631046 : γ 7 (γ 1 q628245) = γ 7 f := by rw [hf630945]
                                have r631047 : γ 19 (γ 1 q628245) = γ 19 f := by rw [hf630945]
                                have r631048 := r631039.resolve_left (by omega)
                                clear r631039
                                have r631049 : γ 2 (γ 14 q628245) = γ 2 q631030 := by rw [ht631040.1]
                                have pl631027 := sp_put hT630937 ht630942 hf630943 pl631009 n631015 hp631010 (show (g628104.toInt : Int).toNat < γ 6 f from tn_lt (by omega) (by omega)) (by unfold rwL; rw [x630925.2.2]; exact tn_le1 (by omega) (by omega))
                                have ac631050 : (fI (F631013 q589771) 11).toInt = p630963.toInt := by rw [he631017]; rfl
                                have ac631051 : (fI (F631013 q589771) 14).toInt = p630966.toInt := by rw [he631017]; rfl
                                refine G_lv (L' := [(0, .ref q589771), (1, .ref q589772), (2, .int g628104), (3, .ref q628245), (4, .int z631012), (5, .ref q629830), (6, .int p630691), (7, .int p630692)]) [7, 8, 6, 5, 0, 4, 3, 2] rfl ?_
                                exact jn236_630410 P630931 F631013 γ el z631012 q629830 p630691 p630692 (gB_w bz631012 (by decide) (by decide)) (gB_w rb630730 (by decide) (by decide)) (gB_w rb630896 (by decide) (by decide)) hT631024 hs631026 hph630953 hB630936 ht630944 hf630945 x630925.2.1 x630925.2.2 ht630948 hf630949 (by omega) (by omega) (by omega) (by omega) (by omega) (by omega) kp631021 (by rw [(show (z631012.toInt : Int).toNat = ((g629749.toInt : Int).toNat + 1) from tn_eq1 (by omega) (by omega))]; exact pl631027) (by rw [(show (z631012.toInt : Int).toNat = ((g629749.toInt : Int).toNat + 1) from tn_eq1 (by omega) (by omega))]; exact hp631010) (rS1_of he630688 he631018 pl630702.2 (fun _ _ _ _ => Or.inl (by omega)) (fun _ _ _ => Or.inr ⟨rfl, rfl, by omega, Or.inl (by omega)⟩)) (by omega) (by omega) (ms_j hm90_629771 (by omega) (by omega) (by omega)) (eO_c (op := p630689.toInt) (by rw [he631018] <;> rfl) (Or.inr ((gHe r630700).resolve_left (fun z => absurd (ht629837.2.symm.trans z) (by decide))))) kp631020 mk631019
                              · have r631052 : p630692.toInt = p630691.toInt := gC_eq hc631022
                                refine G_aload 4 dr_cX17_spill_229 rfl ?_
                                refine G_iload 1 dr_cX17_spill_231 rfl ?_
                                refine Gp_put 3 hm630951 he631018 dr_cX17_spill_233 (gk_X15 D I) (Nat.le_of_ble_eq_true rfl) wr_9_190 rfl rfl rfl (Nat.le_of_ble_eq_true rfl) (fun F631053 e631054 n631055 => ?_)
                                have he631056 : F631053 q589771 = .inr (22, [.ref (γ 9 0), .ref (γ 9 1), .ref (γ 9 2), .ref (γ 9 3), .ref (γ 9 4), .ref (γ 9 5), .ref (γ 9 6), .ref (γ 9 7), .ref (γ 9 8), .int p630961, .int p630962, .int p630963, .int p630964, .int p630965, .int p630966, .ref (γ 9 15), .ref (γ 9 16), .ref (γ 9 17), .ref (γ 9 18), .ref (γ 9 19), .ref (γ 9 20), .ref (γ 9 21), .ref (γ 9 22), .int p630967, .int p630968, .int p630969, .int p630970, .int p630971, .ref q630959, .ref (γ 9 29), .int p630972, .ref (γ 9 31), .int p630973, .int p630974, .int p630975, .ref q630960]) := (n631055 q589771 (rn_oo he631017 he631018 (by decide))).trans he631017
                                have he631057 : F631053 q629830 = .inr (20, [.int p630689, .int p630690, .int o630921, .int o630921, .int p630693, .int p630694, .int p630695]) := e631054
                                have mk631058 : mKp (F589770 q589771) (F631053 q589771) := mKp_tr mk631019 (mKp_eq (n631055 q589771 (rn_ty ht630941 ht630948 (by decide))))
                                have n631059 : ∀ b, b ≠ q629830 → F631053 b = F630932 b := fun b hb => (n631055 b hb).trans (n631015 b hb)
                                have kp631060 : F631053 (γ0 9 3) = F589770 (γ0 9 3) := (n631055 (γ0 9 3) (rn_ty (rSk_k hs630938 k0_3 (by decide) (by decide)) ht630948 (by decide))).trans kp631020
                                have kp631061 : F631053 (γ0 9 19) = F624835 (γ0 9 19) := (n631055 (γ0 9 19) (rn_ty (rSk_k hs630938 k0_19 (by decide) (by decide)) ht630948 (by decide))).trans kp631021
                                have hT631062 : RS D I P630931 F631053 γ el := RS_set hT630937 n631059 ht630948 (by decide) ⟨p630689, p630690, o630921, o630921, p630693, p630694, p630695, he631057, bp630689, bp630690, bp630693, bp630694, bp630695, (gHe r630696), (Or.inr bo630921'), (Or.inr bo630921'), r631016.1, r631016.2⟩
                                have hs631064 := rSk_put hs630938 hT631062 n631059 ht630948 (by decide) (by decide) (Or.inr (Or.inl hf630949))
                                have hm631066 : q628245 ∈ P630931 := RS_m hT631062 ht630944 (by decide)
                                obtain ⟨q631068, q631069, p631070, p631071, he631067, ht631078, ht631072, ht631073, ht631074, ht631075, ht631076, bp631070, bp631071, r631077, r631079, r631080⟩ := show rk_2 γ q628245 (F631053 q628245) from RS_o hT631062 ht630944
                                have hf631081 : γ 1 q631068 = f := (show γ 1 q631068 = γ 1 q628245 from ht631073).trans hf630945
                                have hf631082 : γ 1 q631069 = f := (show γ 1 q631069 = γ 1 q628245 from ht631075).trans hf630945
                                have r631083 : γ 6 (γ 1 q628245) = γ 6 f := by rw [hf630945]
                                have r631084 : γ 7 (γ 1 q628245) = γ 7 f := by rw [hf630945]
                                have r631085 : γ 19 (γ 1 q628245) = γ 19 f := by rw [hf630945]
                                have r631086 := r631077.resolve_left (by omega)
                                clear r631077
                                have r631087 : γ 2 (γ 14 q628245) = γ 2 q631068 := by rw [ht631078.1]
                                have pl631065 := sp_put hT630937 ht630942 hf630943 pl631009 n631059 hp631010 (show (g628104.toInt : Int).toNat < γ 6 f from tn_lt (by omega) (by omega)) (by unfold rwL; rw [x630925.2.2]; exact tn_le1 (by omega) (by omega))
                                have ac631088 : (fI (F631053 q589771) 11).toInt = p630963.toInt := by rw [he631056]; rfl
                                have ac631089 : (fI (F631053 q589771) 14).toInt = p630966.toInt := by rw [he631056]; rfl
                                refine G_lv (L' := [(0, .ref q589771), (1, .ref q589772), (2, .int g628104), (3, .ref q628245), (4, .int z631012), (5, .ref q629830), (6, .int p630691), (7, .int p630692)]) [7, 8, 6, 5, 0, 4, 3, 2] rfl ?_
                                exact jn236_630410 P630931 F631053 γ el z631012 q629830 p630691 p630692 (gB_w bz631012 (by decide) (by decide)) (gB_w rb630730 (by decide) (by decide)) (gB_w rb630896 (by decide) (by decide)) hT631062 hs631064 hph630953 hB630936 ht630944 hf630945 x630925.2.1 x630925.2.2 ht630948 hf630949 (by omega) (by omega) (by omega) (by omega) (by omega) (by omega) kp631061 (by rw [(show (z631012.toInt : Int).toNat = ((g629749.toInt : Int).toNat + 1) from tn_eq1 (by omega) (by omega))]; exact pl631065) (by rw [(show (z631012.toInt : Int).toNat = ((g629749.toInt : Int).toNat + 1) from tn_eq1 (by omega) (by omega))]; exact hp631010) (rS1_of he630688 he631057 pl630702.2 (fun _ _ _ _ => Or.inl (by omega)) (fun _ _ _ => Or.inl (by omega))) (by omega) (by omega) (ms_j hm90_629771 (by omega) (by omega) (by omega)) (eO_c (op := p630689.toInt) (by rw [he631057] <;> rfl) (Or.inr ((gHe r630700).resolve_left (fun z => absurd (ht629837.2.symm.trans z) (by decide))))) kp631060 mk631058
                            · have r631090 : o630921.toInt < 0 := gj_nleL hc631006 (show Int32.toInt 0 = 0 by decide)
                              have bo630921' : gB o630921 (-1) (-1) := ⟨by omega, by omega⟩
                              refine G_iconst 0 dr_cX17_spill_210 (by decide +kernel) ?_
                              exact G_zretA FieldType.boolean dr_cX17_spill_211 rfl rfl (rm_zc pk630954) (rm_zs pk630954) ⟨P630931, F630932, γ, el, 0, rfl, rfl, hs630938, (rm_pp hph630953), hB630936, (gB_w (gBl (show Int32.toInt 0 = 0 by decide)) (by decide) (by decide)), (by have qa0 : Int32.toInt 0 = 0 := (by decide); omega), (Or.inl (by decide)), kp630939, mk630952⟩
                    · have r631091 : g629749.toInt < p629852.toInt := gC_nle hc630682
                      have bg629749'' : gB g629749 0 999999 := ⟨by omega, by omega⟩
                      have bp629852' : gB p629852 1 1000000 := ⟨by omega, by omega⟩
                      refine G_aload_n 1 dr_cX17_spill_114 rfl ?_
                      refine Gp_get 0 hm629827 he629828 dr_cX17_spill_115 (gk_X12 D I) (Nat.le_of_ble_eq_true rfl) wr_9_220 rfl ?_
                      refine G_iload 0 dr_cX17_spill_118 rfl ?_
                      obtain ⟨r631092, r631093, n631100, f631101, r631094, r631095, r631096, r631097, r631098, r631099⟩ := rLC_n r629856 (by omega)
                      have hm631102 : q629853 ∈ P629750 := RS_m hT629752 r631092 (by decide)
                      obtain ⟨q631103, hx631104⟩ : ∃ x, x = el q629829 g629749.toInt.toNat := ⟨_, rfl⟩
                      have hx631105 : f631101 g629749.toNatClampNeg = some q631103 := (r631098 _ (show g629749.toInt.toNat < γ 2 q629829 by first | assumption | omega)).trans (by rw [hx631104])
                      have ht631106 : rKd γ q631103 1 := by rw [hx631104]; exact (r629857 _ (show g629749.toInt.toNat < γ 2 q629829 by first | assumption | omega)).1
                      have ht631107 : rFm γ q631103 q629829 := by rw [hx631104]; exact (r629857 _ (show g629749.toInt.toNat < γ 2 q629829 by first | assumption | omega)).2.1
                      have hf631108 : γ 1 q631103 = f := (show γ 1 q631103 = γ 1 q629829 from ht631107).trans hf629842
                      refine Gw_callV (As := [.int g629749]) (gV_ok D I) (cp_22_ArrayList_get l hl0 D I P629750 F629751 q629829 q629853 g629749 p629851 p629852 f631101 n631100 q631103 hm629849 hm631102 he629850 r631094 (gB_w bg629749'' (by decide) (by decide)) (gB_w bp629852' (by decide) (by decide)) (by omega) (by omega) (by assumption) (by omega)) dr_cX17_spill_120 ⟨wr_10_201, wr_1_18, wr_10_65, by decide, rfl, (Nat.le_of_ble_eq_true rfl), (Nat.le_of_ble_eq_true rfl)⟩ wr_10_63 wr_10_64 hm629849 he629850 rfl (rm_zc pk629776) (rm_zs pk629776) (Nat.le_of_ble_eq_true rfl) (fun r631112 w631113 dc631109 ds631110 hp631111 => ?_) (fun _ _ _ _ _ z => z.elim)
                      obtain ⟨rfl, rfl, hdc, hds, ht631114⟩ := hp631111
                      change G _ _ _ _ _ _ _ (.ref q631103 :: _) _ _ _
                      refine G_widen (cs' := ((rPh γ el f - rPh γ0 el0 f) / 18)) (sl' := (rPh γ el f - rPh γ0 el0 f)) (rm_d0 hdc) (rm_d0 hds) ?_
                      have hm631115 : q631103 ∈ P629750 := RS_m hT629752 ht631106 (by decide)
                      obtain ⟨p631117, p631118, p631119, p631120, p631121, p631122, p631123, he631116, bp631117, bp631118, bp631121, bp631122, bp631123, r631124, r631125, r631126, r631127, r631128⟩ := show rk_1 γ q631103 (F629751 q631103) from RS_o hT629752 ht631106
                      have bp631119 := gB_any p631119
                      have bp631120 := gB_any p631120
                      replace r631124 : gH _ := r631124
                      replace r631125 : gH _ := r631125
                      replace r631126 : gH _ := r631126
                      replace r631127 : gH _ := r631127
                      replace r631128 : gH _ := r631128
                      have r631129 : γ 7 (γ 1 q631103) = γ 7 f := by rw [hf631108]
                      refine Gp_cast hm631115 he631116 rfl dr_cX17_spill_123 wr_10_202 (gr_cast 1 rfl) ?_
                      refine G_goto 133 dr_cX17_spill_126 (by decide +kernel) ?_
                      have fl631132 : p629852.toInt = γ 2 q629829 := r629854
                      have hp631130 : rAt γ el q589772 (g628104.toInt : Int).toNat (g629749.toInt : Int).toNat = q631103 := (rAt_r r629759 ht629839.1 (by omega)).trans (by rw [hx631104])
                      have hL631131 : (g629749.toInt : Int).toNat ≤ γ 2 (rwL γ el q589772 (g628104.toInt : Int).toNat) := by unfold rwL; rw [r629759, ht629839.1]; exact tn_le0 (by omega) (by omega)
                      have pl631133 := sp_hd x629767 hp631130 (show (g628104.toInt : Int).toNat < γ 6 f from tn_lt (by omega) (by omega)) hL631131
                      refine G_astore (L' := [(5, .ref q631103), (4, .int g629749), (3, .ref q628245), (2, .int g628104), (0, .ref q589771), (1, .ref q589772)]) dr_cX17_spill_133 (Nat.le_of_ble_eq_true rfl) rfl ?_
                      refine G_aload 0 dr_cX17_spill_135 rfl ?_
                      refine Gw_callV (As := []) (gV_ok D I) (cp_409853_Row_usesA l hl0 D I P629750 F629751 q631103 p631117 p631118 p631119 p631120 p631121 p631122 p631123 hm631115 he631116 bp631117 bp631118 bp631121 bp631122 bp631123) dr_cX17_spill_137 ⟨wr_10_192, wr_1_39, wr_10_195, by decide, rfl, (Nat.le_of_ble_eq_true rfl), (Nat.le_of_ble_eq_true rfl)⟩ wr_10_193 wr_10_194 hm631115 he631116 rfl (rm_zc pk629776) (rm_zs pk629776) (Nat.le_of_ble_eq_true rfl) (fun r631137 w631138 dc631134 ds631135 hp631136 => ?_) (fun _ _ _ _ _ z => z.elim)
                      obtain ⟨o631139, rfl, rfl, hdc, hds, bo631139, x631140, ht631141⟩ := hp631136
                      change G _ _ _ _ _ _ _ (.int o631139 :: _) _ _ _
                      refine G_widen (cs' := ((rPh γ el f - rPh γ0 el0 f) / 18)) (sl' := (rPh γ el f - rPh γ0 el0 f)) (rm_d0 hdc) (rm_d0 hds) ?_
                      refine G_if_eq 151 dr_cX17_spill_140 (by decide +kernel) (fun hc631142 => ?_) (fun hc631142 => ?_)
                      · have r631143 : o631139.toInt = 0 := gj_eq hc631142 (show Int32.toInt 0 = 0 by decide)
                        have bo631139' : gB o631139 0 0 := gB_t0 r631143
                        refine G_iconst (-1) dr_cX17_spill_151 (by decide +kernel) ?_
                        refine G_istore (L' := [(6, .int (-1)), (5, .ref q631103), (4, .int g629749), (3, .ref q628245), (2, .int g628104), (0, .ref q589771), (1, .ref q589772)]) dr_cX17_spill_152 (Nat.le_of_ble_eq_true rfl) rfl ?_
                        refine G_aload 1 dr_cX17_spill_154 rfl ?_
                        refine Gw_callV (As := []) (gV_ok D I) (cp_409877_Row_usesB l hl0 D I P629750 F629751 q631103 p631117 p631118 p631119 p631120 p631121 p631122 p631123 hm631115 he631116 bp631117 bp631118 bp631121 bp631122 bp631123) dr_cX17_spill_156 ⟨wr_10_196, wr_1_39, wr_10_199, by decide, rfl, (Nat.le_of_ble_eq_true rfl), (Nat.le_of_ble_eq_true rfl)⟩ wr_10_197 wr_10_198 hm631115 he631116 rfl (rm_zc pk629776) (rm_zs pk629776) (Nat.le_of_ble_eq_true rfl) (fun r631147 w631148 dc631144 ds631145 hp631146 => ?_) (fun _ _ _ _ _ z => z.elim)
                        obtain ⟨o631149, rfl, rfl, hdc, hds, bo631149, x631150, ht631151⟩ := hp631146
                        change G _ _ _ _ _ _ _ (.int o631149 :: _) _ _ _
                        refine G_widen (cs' := ((rPh γ el f - rPh γ0 el0 f) / 18)) (sl' := (rPh γ el f - rPh γ0 el0 f)) (rm_d0 hdc) (rm_d0 hds) ?_
                        refine G_if_eq 170 dr_cX17_spill_159 (by decide +kernel) (fun hc631152 => ?_) (fun hc631152 => ?_)
                        · have r631153 : o631149.toInt = 0 := gj_eq hc631152 (show Int32.toInt 0 = 0 by decide)
                          have bo631149' : gB o631149 0 0 := gB_t0 r631153
                          refine G_iconst (-1) dr_cX17_spill_170 (by decide +kernel) ?_
                          refine G_istore (L' := [(7, .int (-1)), (6, .int (-1)), (5, .ref q631103), (4, .int g629749), (3, .ref q628245), (2, .int g628104), (0, .ref q589771), (1, .ref q589772)]) dr_cX17_spill_171 (Nat.le_of_ble_eq_true rfl) rfl ?_
                          refine G_iload 1 dr_cX17_spill_173 rfl ?_
                          refine G_if_lt 236 dr_cX17_spill_175 (by decide +kernel) (fun _ => ?_) (fun hc => absurd hc (by decide))
                          have ac631154 : (fI (F629751 q589771) 11).toInt = p629784.toInt := by rw [he629779]; rfl
                          have ac631155 : (fI (F629751 q589771) 14).toInt = p629787.toInt := by rw [he629779]; rfl
                          refine G_lv (L' := [(0, .ref q589771), (1, .ref q589772), (2, .int g628104), (3, .ref q628245), (4, .int g629749), (5, .ref q631103), (6, .int (-1)), (7, .int (-1))]) [6, 7, 5, 4, 3, 2, 1, 0] rfl ?_
                          exact jn236_630410 P629750 F629751 γ el g629749 q631103 (-1) (-1) (gB_w bg629749'' (by decide) (by decide)) (gB_w (gBl (show Int32.toInt (-1) = (-1) by decide)) (by decide) (by decide)) (gB_w (gBl (show Int32.toInt (-1) = (-1) by decide)) (by decide) (by decide)) hT629752 hs629753 hph629754 hB629755 ht629756 hf629757 r629758 r629759 ht631106 hf631108 (by have qa0 : Int32.toInt (-1) = (-1) := (by decide); omega) (by have qa0 : Int32.toInt (-1) = (-1) := (by decide); omega) (by have qa0 : Int32.toInt (-1) = (-1) := (by decide); omega) (by have qa0 : Int32.toInt (-1) = (-1) := (by decide); omega) (by have qa0 : Int32.toInt (-1) = (-1) := (by decide); omega) (by have qa0 : Int32.toInt (-1) = (-1) := (by decide); omega) x629766 (by exact pl631133.1) (by exact hp631130) (rS1_of he631116 he631116 pl631133.2 (fun h1 h2 h3 h4 => (uA_0 x631140 (by omega) h1 h2 h3 h4).elim) (fun h1 h2 h3 => (uB_0 x631150 (by omega) h1 h2 h3).elim)) (by have qa0 : Int32.toInt (-1) = (-1) := (by decide); omega) (by have qa0 : Int32.toInt (-1) = (-1) := (by decide); omega) (ms_j hm90_629771 (by omega) (by omega) (by omega)) (eO_l (by omega)) x629770 x629771
                        · have r631156 : o631149.toInt ≠ 0 := gj_neq hc631152 (show Int32.toInt 0 = 0 by decide)
                          have bo631149' : gB o631149 1 1 := gB_t1 bo631149 r631156
                          refine G_aload 1 dr_cX17_spill_162 rfl ?_
                          refine Gp_get 3 hm631115 he631116 dr_cX17_spill_164 (gk_X15 D I) (Nat.le_of_ble_eq_true rfl) wr_9_190 rfl ?_
                          have rb631157 : gB p631120 0 1999 := (gHe r631126).resolve_left (by have z := (uB_1 x631150 (by omega)).2.2; omega)
                          refine G_goto 171 dr_cX17_spill_167 (by decide +kernel) ?_
                          refine G_istore (L' := [(7, .int p631120), (6, .int (-1)), (5, .ref q631103), (4, .int g629749), (3, .ref q628245), (2, .int g628104), (0, .ref q589771), (1, .ref q589772)]) dr_cX17_spill_171 (Nat.le_of_ble_eq_true rfl) rfl ?_
                          refine G_iload 1 dr_cX17_spill_173 rfl ?_
                          refine G_if_lt 236 dr_cX17_spill_175 (by decide +kernel) (fun _ => ?_) (fun hc => absurd hc (by decide))
                          have ac631158 : (fI (F629751 q589771) 11).toInt = p629784.toInt := by rw [he629779]; rfl
                          have ac631159 : (fI (F629751 q589771) 14).toInt = p629787.toInt := by rw [he629779]; rfl
                          refine G_lv (L' := [(0, .ref q589771), (1, .ref q589772), (2, .int g628104), (3, .ref q628245), (4, .int g629749), (5, .ref q631103), (6, .int (-1)), (7, .int p631120)]) [6, 7, 5, 4, 3, 2, 1, 0] rfl ?_
                          exact jn236_630410 P629750 F629751 γ el g629749 q631103 (-1) p631120 (gB_w bg629749'' (by decide) (by decide)) (gB_w (gBl (show Int32.toInt (-1) = (-1) by decide)) (by decide) (by decide)) (gB_w rb631157 (by decide) (by decide)) hT629752 hs629753 hph629754 hB629755 ht629756 hf629757 r629758 r629759 ht631106 hf631108 (by have qa0 : Int32.toInt (-1) = (-1) := (by decide); omega) (by have qa0 : Int32.toInt (-1) = (-1) := (by decide); omega) (by have qa0 : Int32.toInt (-1) = (-1) := (by decide); omega) (by have qa0 : Int32.toInt (-1) = (-1) := (by decide); omega) (by have qa0 : Int32.toInt (-1) = (-1) := (by decide); omega) (by have qa0 : Int32.toInt (-1) = (-1) := (by decide); omega) x629766 (by exact pl631133.1) (by exact hp631130) (rS1_of he631116 he631116 pl631133.2 (fun h1 h2 h3 h4 => (uA_0 x631140 (by omega) h1 h2 h3 h4).elim) (fun _ _ _ => Or.inr ⟨rfl, rfl, by omega, Or.inl (by have qa : Int32.toInt (-1) = -1 := (by decide); omega)⟩)) (by have qa0 : Int32.toInt (-1) = (-1) := (by decide); omega) (by have qa0 : Int32.toInt (-1) = (-1) := (by decide); omega) (ms_j hm90_629771 (by omega) (by omega) (by omega)) (eO_l (by omega)) x629770 x629771
                      · have r631160 : o631139.toInt ≠ 0 := gj_neq hc631142 (show Int32.toInt 0 = 0 by decide)
                        have bo631139' : gB o631139 1 1 := gB_t1 bo631139 r631160
                        refine G_aload 0 dr_cX17_spill_143 rfl ?_
                        refine Gp_get 2 hm631115 he631116 dr_cX17_spill_145 (gk_X15 D I) (Nat.le_of_ble_eq_true rfl) wr_9_186 rfl ?_
                        have rb631161 : gB p631119 0 1999 := (gHe r631125).resolve_left (by have z := (uA_1 x631140 (by omega)).2.2.2; omega)
                        refine G_goto 152 dr_cX17_spill_148 (by decide +kernel) ?_
                        refine G_istore (L' := [(6, .int p631119), (5, .ref q631103), (4, .int g629749), (3, .ref q628245), (2, .int g628104), (0, .ref q589771), (1, .ref q589772)]) dr_cX17_spill_152 (Nat.le_of_ble_eq_true rfl) rfl ?_
                        refine G_aload 1 dr_cX17_spill_154 rfl ?_
                        refine Gw_callV (As := []) (gV_ok D I) (cp_409877_Row_usesB l hl0 D I P629750 F629751 q631103 p631117 p631118 p631119 p631120 p631121 p631122 p631123 hm631115 he631116 bp631117 bp631118 bp631121 bp631122 bp631123) dr_cX17_spill_156 ⟨wr_10_196, wr_1_39, wr_10_199, by decide, rfl, (Nat.le_of_ble_eq_true rfl), (Nat.le_of_ble_eq_true rfl)⟩ wr_10_197 wr_10_198 hm631115 he631116 rfl (rm_zc pk629776) (rm_zs pk629776) (Nat.le_of_ble_eq_true rfl) (fun r631165 w631166 dc631162 ds631163 hp631164 => ?_) (fun _ _ _ _ _ z => z.elim)
                        obtain ⟨o631167, rfl, rfl, hdc, hds, bo631167, x631168, ht631169⟩ := hp631164
                        change G _ _ _ _ _ _ _ (.int o631167 :: _) _ _ _
                        refine G_widen (cs' := ((rPh γ el f - rPh γ0 el0 f) / 18)) (sl' := (rPh γ el f - rPh γ0 el0 f)) (rm_d0 hdc) (rm_d0 hds) ?_
                        refine G_if_eq 170 dr_cX17_spill_159 (by decide +kernel) (fun hc631170 => ?_) (fun hc631170 => ?_)
                        · have r631171 : o631167.toInt = 0 := gj_eq hc631170 (show Int32.toInt 0 = 0 by decide)
                          have bo631167' : gB o631167 0 0 := gB_t0 r631171
                          refine G_iconst (-1) dr_cX17_spill_170 (by decide +kernel) ?_
                          refine G_istore (L' := [(7, .int (-1)), (6, .int p631119), (5, .ref q631103), (4, .int g629749), (3, .ref q628245), (2, .int g628104), (0, .ref q589771), (1, .ref q589772)]) dr_cX17_spill_171 (Nat.le_of_ble_eq_true rfl) rfl ?_
                          refine G_iload 1 dr_cX17_spill_173 rfl ?_
                          refine G_if_lt 236 dr_cX17_spill_175 (by decide +kernel) (fun hc => absurd (show False by have := gj_lt hc (show Int32.toInt 0 = 0 by decide); omega) not_false) (fun _ => ?_)
                          refine G_aload_n 6 dr_cX17_spill_178 rfl ?_
                          refine Gp_get 19 hm629778 he629779 dr_cX17_spill_179 (gk_X17 D I) (Nat.le_of_ble_eq_true rfl) wr_7_93 rfl ?_
                          refine G_iload 1 dr_cX17_spill_182 rfl ?_
                          have hm631172 : (γ 9 19) ∈ P629750 := RS_m hT629752 ht629812 (by decide)
                          obtain ⟨f631174, he631173, bf631174⟩ := show rk_21 I (F629751 (γ 9 19)) from RS_o hT629752 ht629812
                          refine Gp_iald 0 hm631172 he631173 dr_cX17_spill_184 rfl (gB_in rb631161 (by decide) (by decide)) (G_nam fun z631175 hz631175 => ?_)
                          have bz631175 : gB z631175 (-1) 1999 := by rw [hz631175]; exact bf631174 _
                          have c9_631176 : cB (F624835 (γ0 9 19)) = f631174 := by rw [← x629766, ← congrFun (rSk_9 hs629753) 19]; exact cB_of he631173
                          have hs631177 : (cB (F624835 (γ0 9 19)) p631119.toInt.toNat).toInt = z631175.toInt := by rw [c9_631176, hz631175]; rfl
                          refine G_if_lt 236 dr_cX17_spill_185 (by decide +kernel) (fun hc631179 => ?_) (fun hc631179 => ?_)
                          · have r631180 : z631175.toInt < 0 := gj_lt hc631179 (show Int32.toInt 0 = 0 by decide)
                            have bz631175' : gB z631175 (-1) (-1) := ⟨by omega, by omega⟩
                            have ac631181 : (fI (F629751 q589771) 11).toInt = p629784.toInt := by rw [he629779]; rfl
                            have ac631182 : (fI (F629751 q589771) 14).toInt = p629787.toInt := by rw [he629779]; rfl
                            refine G_lv (L' := [(0, .ref q589771), (1, .ref q589772), (2, .int g628104), (3, .ref q628245), (4, .int g629749), (5, .ref q631103), (6, .int p631119), (7, .int (-1))]) [6, 7, 5, 4, 3, 2, 1, 0] rfl ?_
                            exact jn236_630410 P629750 F629751 γ el g629749 q631103 p631119 (-1) (gB_w bg629749'' (by decide) (by decide)) (gB_w rb631161 (by decide) (by decide)) (gB_w (gBl (show Int32.toInt (-1) = (-1) by decide)) (by decide) (by decide)) hT629752 hs629753 hph629754 hB629755 ht629756 hf629757 r629758 r629759 ht631106 hf631108 (by have qa0 : Int32.toInt (-1) = (-1) := (by decide); omega) (by have qa0 : Int32.toInt (-1) = (-1) := (by decide); omega) (by have qa0 : Int32.toInt (-1) = (-1) := (by decide); omega) (by have qa0 : Int32.toInt (-1) = (-1) := (by decide); omega) (by have qa0 : Int32.toInt (-1) = (-1) := (by decide); omega) (by have qa0 : Int32.toInt (-1) = (-1) := (by decide); omega) x629766 (by exact pl631133.1) (by exact hp631130) (rS1_of he631116 he631116 pl631133.2 (fun _ _ _ _ => Or.inr ⟨rfl, by omega⟩) (fun h1 h2 h3 => (uB_0 x631168 (by omega) h1 h2 h3).elim)) (by have qa0 : Int32.toInt (-1) = (-1) := (by decide); omega) (by have qa0 : Int32.toInt (-1) = (-1) := (by decide); omega) (ms_j hm90_629771 (by omega) (by omega) (by omega)) (eO_l (by omega)) x629770 x629771
                          · have r631183 : 0 ≤ z631175.toInt := gj_nlt hc631179 (show Int32.toInt 0 = 0 by decide)
                            have bz631175' : gB z631175 0 1999 := ⟨by omega, by omega⟩
                            refine G_aload_n 6 dr_cX17_spill_188 rfl ?_
                            refine G_aload_n 7 dr_cX17_spill_189 rfl ?_
                            refine G_aload_n 4 dr_cX17_spill_190 rfl ?_
                            refine G_iload 3 dr_cX17_spill_191 rfl ?_
                            refine G_aload_n 6 dr_cX17_spill_193 rfl ?_
                            refine Gp_get 19 hm629778 he629779 dr_cX17_spill_194 (gk_X17 D I) (Nat.le_of_ble_eq_true rfl) wr_7_93 rfl ?_
                            refine G_iload 1 dr_cX17_spill_197 rfl ?_
                            refine Gp_iald 0 hm631172 he631173 dr_cX17_spill_199 rfl (gB_in rb631161 (by decide) (by decide)) (G_eqi (y := z631175) hz631175.symm ?_)
                            have r631184 := (spi624920.2.2.2 p631119.toInt.toNat (tn_lt (by omega) (by omega)) (by omega)).2.2
                            have ac631185 : (fI (F629751 q589771) 11).toInt = p629784.toInt := by rw [he629779]; rfl
                            have ac631186 : (fI (F629751 q589771) 14).toInt = p629787.toInt := by rw [he629779]; rfl
                            have rg631187 := rM_ge hT629752 ht629774 hf629775
                            have rm631188 := rM_bd hB629755
                            have bd631189 := rBd_c hT629752 ht629774 hf629775 hB629755
                            have rc631190 := rc_at hT629752 ht629774 hf629775
                            refine Gw_callV (As := [.ref q589772, .ref q628245, .int g629749, .int z631175]) (gV_ok D I) (cg_409491_SpillForgeModel_load l hl0 D I γ el f B P629750 F629751 q589771 q589772 q628245 g629749 z631175 g628104.toInt.toNat hT629752 ht629773 ht629774 ht629756 hf629775 hB629755 hBk r629758 r629759 hf629757 (gB_w bg629749'' (by decide) (by decide)) bz631175' (by have qa0 : Int32.toInt (-1) = (-1) := (by decide); omega) (by have qa0 : Int32.toInt (-1) = (-1) := (by decide); omega) (by have qa0 : Int32.toInt (-1) = (-1) := (by decide); omega) (by have qa0 : Int32.toInt (-1) = (-1) := (by decide); omega) (by have qa0 : Int32.toInt (-1) = (-1) := (by decide); omega)) dr_cX17_spill_200 ⟨wr_11_67, wr_1_14, wr_11_70, by decide, rfl, (Nat.le_of_ble_eq_true rfl), (Nat.le_of_ble_eq_true rfl)⟩ wr_11_69 wr_p_111 hm629778 he629779 rfl (rm_gc hph629754 pk629776) (rm_gs hph629754 pk629776) (Nat.le_of_ble_eq_true rfl) (fun r631194 w631195 dc631191 ds631192 hp631193 => ?_) (fun _ _ _ _ _ z => z.elim)
                            obtain ⟨P631206, F631207, γ, el, o631196, rfl, rfl, hk631208, ⟨hr631209, hr631210⟩, hB631211, bo631196, x631197, x631198, x631199, x631200, x631201, x631202, x631203, x631204, x631205⟩ := hp631193
                            have hT631212 := hk631208.1
                            have hs631213 := rSk_tr hs629753 hk631208 (by decide) (by decide) (by decide)
                            have kp631214 : F631207 (γ0 9 3) = F589770 (γ0 9 3) := (rSk_F hk631208 (rSk_k hs629753 k0_3 (by decide) (by decide)) (by decide) (by decide)).trans x629770
                            have kp631215 : F631207 (γ0 9 19) = F624835 (γ0 9 19) := (rSk_F hk631208 (rSk_k hs629753 k0_19 (by decide) (by decide)) (by decide) (by decide)).trans x629766
                            have ht631216 : rKd γ q589771 10 := rSk_k hk631208 ht629773 (by decide) (by decide)
                            have ht631217 : rKd γ q589772 9 := rSk_k hk631208 ht629774 (by decide) (by decide)
                            have hf631218 : γ 1 q589772 = f := rSk_1 hk631208 ht629774 (by decide) hf629775
                            have ht631219 : rKd γ q628245 2 := rSk_k hk631208 ht629756 (by decide) (by decide)
                            have hf631220 : γ 1 q628245 = f := rSk_1 hk631208 ht629756 (by decide) hf629757
                            have ht631221 : rKd γ q629829 3 := rSk_k hk631208 ht629833 (by decide) (by decide)
                            have hf631222 : γ 1 q629829 = f := rSk_1 hk631208 ht629833 (by decide) hf629842
                            have ht631223 : rKd γ q631103 1 := rSk_k hk631208 ht631106 (by decide) (by decide)
                            have hf631224 : γ 1 q631103 = f := rSk_1 hk631208 ht631106 (by decide) hf631108
                            have he631225 : F631207 q631103 = .inr (20, [.int p631117, .int p631118, .int p631119, .int p631120, .int p631121, .int p631122, .int p631123]) := (rSk_F hk631208 ht631106 (by decide) (by decide)).trans he631116
                            have hm631226 : q631103 ∈ P631206 := RS_m hT631212 ht631223 (by decide)
                            clear bp629831 bp629832 r629840 r629841 rg631187 rm631188 bd631189 rc631190
                            have mk631227 : mKp (F589770 q589771) (F631207 q589771) := mKp_tr x629771 x631205
                            have hph631228 : rPh γ0 el0 f ≤ rPh γ el f := rm_ph hph629754 hr631210
                            have pk631229 : rPh γ el f ≤ 387 * B + 6000 := rm_pk (rM_ge hT631212 ht631217 hf631218).1 (rM_bd hB631211)
                            change G _ _ _ _ _ _ _ (.int o631196 :: _) _ _ _
                            refine G_widen (cs' := ((rPh γ el f - rPh γ0 el0 f) / 18)) (sl' := (rPh γ el f - rPh γ0 el0 f)) (rm_wc hph629754 hr631209) (rm_ws hph629754 hr631210) ?_
                            have sz631230 := x631197
                            have r631231 : 0 < γ 6 (γ 1 q589772) := by rw [hf631218]; omega
                            have hm631232 : q589771 ∈ P631206 := RS_m hT631212 ht631216 (by decide)
                            refine rk10_e (show rk_10 γ (F631207 q589771) from RS_o hT631212 ht631216) (fun q631234 q631235 p631236 p631237 p631238 p631239 p631240 p631241 p631242 p631243 p631244 p631245 p631246 p631247 p631248 p631249 p631250 he631233 hB631277 ht631251 ht631252 ht631253 ht631254 ht631255 ht631256 ht631257 ht631258 ht631259 ht631260 ht631261 ht631262 ht631263 ht631264 ht631265 ht631266 ht631267 ht631268 ht631269 ht631270 ht631271 ht631272 ht631273 ht631274 hB631278 => ?_)
                            have ac631279 : (fI (F631207 q589771) 11).toInt = p631238.toInt := by rw [he631233]; rfl
                            have bp631238 : gB p631238 0 100 := (hB631277.2.2.1)
                            have ac631280 : (fI (F631207 q589771) 14).toInt = p631241.toInt := by rw [he631233]; rfl
                            have bp631241 : gB p631241 0 2000 := (hB631277.2.2.2.1)
                            refine G_istore (L' := [(8, .int o631196), (7, .int (-1)), (6, .int p631119), (5, .ref q631103), (4, .int g629749), (3, .ref q628245), (2, .int g628104), (0, .ref q589771), (1, .ref q589772)]) dr_cX17_spill_203 (Nat.le_of_ble_eq_true rfl) rfl ?_
                            refine G_iload 0 dr_cX17_spill_205 rfl ?_
                            refine G_if_ge 212 dr_cX17_spill_207 (by decide +kernel) (fun hc631281 => ?_) (fun hc631281 => ?_)
                            · have r631282 : 0 ≤ o631196.toInt := gj_leL hc631281 (show Int32.toInt 0 = 0 by decide)
                              have bo631196' : gB o631196 0 1999 := ⟨by omega, by omega⟩
                              have pl631284 := sp_ld (x631203.resolve_left (by omega)) pl631133.1 (tn_ge (by omega)) (rfl : ((g629749.toInt : Int).toNat + 1) = (g629749.toInt : Int).toNat + 1)
                              have hp631285 : rAt γ el q589772 (g628104.toInt : Int).toNat ((g629749.toInt : Int).toNat + 1) = q631103 := ((x631204.resolve_left (by omega)) (g629749.toInt : Int).toNat (Nat.le_refl _)).trans hp631130
                              have r631286 := x631201.resolve_left (by omega)
                              clear x631201 x631203 x631204
                              obtain ⟨z631287, hz631287⟩ : ∃ z : Int32, z = g629749 + Int32.ofInt 1 := ⟨_, rfl⟩
                              have ez631287 : z631287.toInt = g629749.toInt + 1 := gI_inc hz631287 (by decide) bg629749'' (by decide) (by decide)
                              have bz631287 : gB z631287 1 1000000 := ⟨by omega, by omega⟩
                              refine G_iinc (L' := [(4, .int z631287), (8, .int o631196), (7, .int (-1)), (6, .int p631119), (5, .ref q631103), (3, .ref q628245), (2, .int g628104), (0, .ref q589771), (1, .ref q589772)]) z631287 4 dr_cX17_spill_212 rfl hz631287.symm (Nat.le_of_ble_eq_true rfl) rfl ?_
                              refine G_aload 4 dr_cX17_spill_215 rfl ?_
                              refine G_iload 1 dr_cX17_spill_217 rfl ?_
                              refine Gp_put 2 hm631226 he631225 dr_cX17_spill_219 (gk_X15 D I) (Nat.le_of_ble_eq_true rfl) wr_9_186 rfl rfl rfl (Nat.le_of_ble_eq_true rfl) (fun F631288 e631289 n631290 => ?_)
                              have r631291 := rk1_at hT631212 ht631223 he631225
                              have he631292 : F631288 q589771 = .inr (22, [.ref (γ 9 0), .ref (γ 9 1), .ref (γ 9 2), .ref (γ 9 3), .ref (γ 9 4), .ref (γ 9 5), .ref (γ 9 6), .ref (γ 9 7), .ref (γ 9 8), .int p631236, .int p631237, .int p631238, .int p631239, .int p631240, .int p631241, .ref (γ 9 15), .ref (γ 9 16), .ref (γ 9 17), .ref (γ 9 18), .ref (γ 9 19), .ref (γ 9 20), .ref (γ 9 21), .ref (γ 9 22), .int p631242, .int p631243, .int p631244, .int p631245, .int p631246, .ref q631234, .ref (γ 9 29), .int p631247, .ref (γ 9 31), .int p631248, .int p631249, .int p631250, .ref q631235]) := (n631290 q589771 (rn_oo he631233 he631225 (by decide))).trans he631233
                              have he631293 : F631288 q631103 = .inr (20, [.int p631117, .int p631118, .int o631196, .int p631120, .int p631121, .int p631122, .int p631123]) := e631289
                              have mk631294 : mKp (F589770 q589771) (F631288 q589771) := mKp_tr mk631227 (mKp_eq (n631290 q589771 (rn_ty ht631216 ht631223 (by decide))))
                              have kp631295 : F631288 (γ0 9 3) = F589770 (γ0 9 3) := (n631290 (γ0 9 3) (rn_ty (rSk_k hs631213 k0_3 (by decide) (by decide)) ht631223 (by decide))).trans kp631214
                              have kp631296 : F631288 (γ0 9 19) = F624835 (γ0 9 19) := (n631290 (γ0 9 19) (rn_ty (rSk_k hs631213 k0_19 (by decide) (by decide)) ht631223 (by decide))).trans kp631215
                              refine G_iload 2 dr_cX17_spill_222 rfl ?_
                              refine G_iload 3 dr_cX17_spill_224 rfl ?_
                              refine G_icmp_ne 236 dr_cX17_spill_226 (by decide +kernel) (fun _ => ?_) (fun hc => absurd (show False by have := gj_eqL hc (show Int32.toInt (-1) = (-1) by decide); omega) not_false)
                              have hT631297 : RS D I P631206 F631288 γ el := RS_set hT631212 n631290 ht631223 (by decide) ⟨p631117, p631118, o631196, p631120, p631121, p631122, p631123, he631293, bp631117, bp631118, bp631121, bp631122, bp631123, (gHe r631124), (Or.inr bo631196'), (gHe r631126), r631291.1, r631291.2⟩
                              have hs631299 := rSk_put hs631213 hT631297 n631290 ht631223 (by decide) (by decide) (Or.inr (Or.inl hf631224))
                              have hm631301 : q628245 ∈ P631206 := RS_m hT631297 ht631219 (by decide)
                              obtain ⟨q631303, q631304, p631305, p631306, he631302, ht631313, ht631307, ht631308, ht631309, ht631310, ht631311, bp631305, bp631306, r631312, r631314, r631315⟩ := show rk_2 γ q628245 (F631288 q628245) from RS_o hT631297 ht631219
                              have hf631316 : γ 1 q631303 = f := (show γ 1 q631303 = γ 1 q628245 from ht631308).trans hf631220
                              have hf631317 : γ 1 q631304 = f := (show γ 1 q631304 = γ 1 q628245 from ht631310).trans hf631220
                              have r631318 : γ 6 (γ 1 q628245) = γ 6 f := by rw [hf631220]
                              have r631319 : γ 7 (γ 1 q628245) = γ 7 f := by rw [hf631220]
                              have r631320 : γ 19 (γ 1 q628245) = γ 19 f := by rw [hf631220]
                              have r631321 := r631312.resolve_left (by omega)
                              clear r631312
                              have r631322 : γ 2 (γ 14 q628245) = γ 2 q631303 := by rw [ht631313.1]
                              have pl631300 := sp_put hT631212 ht631217 hf631218 pl631284 n631290 hp631285 (show (g628104.toInt : Int).toNat < γ 6 f from tn_lt (by omega) (by omega)) (by unfold rwL; rw [x631200.2.2]; exact tn_le1 (by omega) (by omega))
                              have ac631323 : (fI (F631288 q589771) 11).toInt = p631238.toInt := by rw [he631292]; rfl
                              have ac631324 : (fI (F631288 q589771) 14).toInt = p631241.toInt := by rw [he631292]; rfl
                              refine G_lv (L' := [(0, .ref q589771), (1, .ref q589772), (2, .int g628104), (3, .ref q628245), (4, .int z631287), (5, .ref q631103), (6, .int p631119), (7, .int (-1))]) [7, 8, 6, 5, 0, 4, 3, 2] rfl ?_
                              exact jn236_630410 P631206 F631288 γ el z631287 q631103 p631119 (-1) (gB_w bz631287 (by decide) (by decide)) (gB_w rb631161 (by decide) (by decide)) (gB_w (gBl (show Int32.toInt (-1) = (-1) by decide)) (by decide) (by decide)) hT631297 hs631299 hph631228 hB631211 ht631219 hf631220 x631200.2.1 x631200.2.2 ht631223 hf631224 (by have qa0 : Int32.toInt (-1) = (-1) := (by decide); omega) (by have qa0 : Int32.toInt (-1) = (-1) := (by decide); omega) (by have qa0 : Int32.toInt (-1) = (-1) := (by decide); omega) (by have qa0 : Int32.toInt (-1) = (-1) := (by decide); omega) (by have qa0 : Int32.toInt (-1) = (-1) := (by decide); omega) (by have qa0 : Int32.toInt (-1) = (-1) := (by decide); omega) kp631296 (by rw [(show (z631287.toInt : Int).toNat = ((g629749.toInt : Int).toNat + 1) from tn_eq1 (by omega) (by omega))]; exact pl631300) (by rw [(show (z631287.toInt : Int).toNat = ((g629749.toInt : Int).toNat + 1) from tn_eq1 (by omega) (by omega))]; exact hp631285) (rS1_of he631116 he631293 pl631133.2 (fun _ _ _ _ => Or.inl (by omega)) (fun h1 h2 h3 => (uB_0 x631168 (by omega) h1 h2 h3).elim)) (by have qa0 : Int32.toInt (-1) = (-1) := (by decide); omega) (by have qa0 : Int32.toInt (-1) = (-1) := (by decide); omega) (ms_j hm90_629771 (by omega) (by omega) (by omega)) (eO_l (by omega)) kp631295 mk631294
                            · have r631325 : o631196.toInt < 0 := gj_nleL hc631281 (show Int32.toInt 0 = 0 by decide)
                              have bo631196' : gB o631196 (-1) (-1) := ⟨by omega, by omega⟩
                              refine G_iconst 0 dr_cX17_spill_210 (by decide +kernel) ?_
                              exact G_zretA FieldType.boolean dr_cX17_spill_211 rfl rfl (rm_zc pk631229) (rm_zs pk631229) ⟨P631206, F631207, γ, el, 0, rfl, rfl, hs631213, (rm_pp hph631228), hB631211, (gB_w (gBl (show Int32.toInt 0 = 0 by decide)) (by decide) (by decide)), (by have qa0 : Int32.toInt (-1) = (-1) := (by decide); have qa1 : Int32.toInt 0 = 0 := (by decide); omega), (Or.inl (by decide)), kp631214, mk631227⟩
                        · have r631326 : o631167.toInt ≠ 0 := gj_neq hc631170 (show Int32.toInt 0 = 0 by decide)
                          have bo631167' : gB o631167 1 1 := gB_t1 bo631167 r631326
                          refine G_aload 1 dr_cX17_spill_162 rfl ?_
                          refine Gp_get 3 hm631115 he631116 dr_cX17_spill_164 (gk_X15 D I) (Nat.le_of_ble_eq_true rfl) wr_9_190 rfl ?_
                          have rb631327 : gB p631120 0 1999 := (gHe r631126).resolve_left (by have z := (uB_1 x631168 (by omega)).2.2; omega)
                          refine G_goto 171 dr_cX17_spill_167 (by decide +kernel) ?_
                          refine G_istore (L' := [(7, .int p631120), (6, .int p631119), (5, .ref q631103), (4, .int g629749), (3, .ref q628245), (2, .int g628104), (0, .ref q589771), (1, .ref q589772)]) dr_cX17_spill_171 (Nat.le_of_ble_eq_true rfl) rfl ?_
                          refine G_iload 1 dr_cX17_spill_173 rfl ?_
                          refine G_if_lt 236 dr_cX17_spill_175 (by decide +kernel) (fun hc => absurd (show False by have := gj_lt hc (show Int32.toInt 0 = 0 by decide); omega) not_false) (fun _ => ?_)
                          refine G_aload_n 6 dr_cX17_spill_178 rfl ?_
                          refine Gp_get 19 hm629778 he629779 dr_cX17_spill_179 (gk_X17 D I) (Nat.le_of_ble_eq_true rfl) wr_7_93 rfl ?_
                          refine G_iload 1 dr_cX17_spill_182 rfl ?_
                          have hm631328 : (γ 9 19) ∈ P629750 := RS_m hT629752 ht629812 (by decide)
                          obtain ⟨f631330, he631329, bf631330⟩ := show rk_21 I (F629751 (γ 9 19)) from RS_o hT629752 ht629812
                          refine Gp_iald 0 hm631328 he631329 dr_cX17_spill_184 rfl (gB_in rb631161 (by decide) (by decide)) (G_nam fun z631331 hz631331 => ?_)
                          have bz631331 : gB z631331 (-1) 1999 := by rw [hz631331]; exact bf631330 _
                          have c9_631332 : cB (F624835 (γ0 9 19)) = f631330 := by rw [← x629766, ← congrFun (rSk_9 hs629753) 19]; exact cB_of he631329
                          have hs631333 : (cB (F624835 (γ0 9 19)) p631119.toInt.toNat).toInt = z631331.toInt := by rw [c9_631332, hz631331]; rfl
                          refine G_if_lt 236 dr_cX17_spill_185 (by decide +kernel) (fun hc631335 => ?_) (fun hc631335 => ?_)
                          · have r631336 : z631331.toInt < 0 := gj_lt hc631335 (show Int32.toInt 0 = 0 by decide)
                            have bz631331' : gB z631331 (-1) (-1) := ⟨by omega, by omega⟩
                            have ac631337 : (fI (F629751 q589771) 11).toInt = p629784.toInt := by rw [he629779]; rfl
                            have ac631338 : (fI (F629751 q589771) 14).toInt = p629787.toInt := by rw [he629779]; rfl
                            refine G_lv (L' := [(0, .ref q589771), (1, .ref q589772), (2, .int g628104), (3, .ref q628245), (4, .int g629749), (5, .ref q631103), (6, .int p631119), (7, .int p631120)]) [6, 7, 5, 4, 3, 2, 1, 0] rfl ?_
                            exact jn236_630410 P629750 F629751 γ el g629749 q631103 p631119 p631120 (gB_w bg629749'' (by decide) (by decide)) (gB_w rb631161 (by decide) (by decide)) (gB_w rb631327 (by decide) (by decide)) hT629752 hs629753 hph629754 hB629755 ht629756 hf629757 r629758 r629759 ht631106 hf631108 (by omega) (by omega) (by omega) (by omega) (by omega) (by omega) x629766 (by exact pl631133.1) (by exact hp631130) (rS1_of he631116 he631116 pl631133.2 (fun _ _ _ _ => Or.inr ⟨rfl, by omega⟩) (fun _ _ _ => Or.inr ⟨rfl, rfl, by omega, (Classical.em (p631120.toInt = p631119.toInt)).elim (fun e => Or.inr (by rw [e]; omega)) (fun e => Or.inl e)⟩)) (by omega) (by omega) (ms_j hm90_629771 (by omega) (by omega) (by omega)) (eO_l (by omega)) x629770 x629771
                          · have r631339 : 0 ≤ z631331.toInt := gj_nlt hc631335 (show Int32.toInt 0 = 0 by decide)
                            have bz631331' : gB z631331 0 1999 := ⟨by omega, by omega⟩
                            refine G_aload_n 6 dr_cX17_spill_188 rfl ?_
                            refine G_aload_n 7 dr_cX17_spill_189 rfl ?_
                            refine G_aload_n 4 dr_cX17_spill_190 rfl ?_
                            refine G_iload 3 dr_cX17_spill_191 rfl ?_
                            refine G_aload_n 6 dr_cX17_spill_193 rfl ?_
                            refine Gp_get 19 hm629778 he629779 dr_cX17_spill_194 (gk_X17 D I) (Nat.le_of_ble_eq_true rfl) wr_7_93 rfl ?_
                            refine G_iload 1 dr_cX17_spill_197 rfl ?_
                            refine Gp_iald 0 hm631328 he631329 dr_cX17_spill_199 rfl (gB_in rb631161 (by decide) (by decide)) (G_eqi (y := z631331) hz631331.symm ?_)
                            have r631340 := (spi624920.2.2.2 p631119.toInt.toNat (tn_lt (by omega) (by omega)) (by omega)).2.2
                            have ac631341 : (fI (F629751 q589771) 11).toInt = p629784.toInt := by rw [he629779]; rfl
                            have ac631342 : (fI (F629751 q589771) 14).toInt = p629787.toInt := by rw [he629779]; rfl
                            have rg631343 := rM_ge hT629752 ht629774 hf629775
                            have rm631344 := rM_bd hB629755
                            have bd631345 := rBd_c hT629752 ht629774 hf629775 hB629755
                            have rc631346 := rc_at hT629752 ht629774 hf629775
                            refine Gw_callV (As := [.ref q589772, .ref q628245, .int g629749, .int z631331]) (gV_ok D I) (cg_409491_SpillForgeModel_load l hl0 D I γ el f B P629750 F629751 q589771 q589772 q628245 g629749 z631331 g628104.toInt.toNat hT629752 ht629773 ht629774 ht629756 hf629775 hB629755 hBk r629758 r629759 hf629757 (gB_w bg629749'' (by decide) (by decide)) bz631331' (by omega) (by omega) (by omega) (by omega) (by omega)) dr_cX17_spill_200 ⟨wr_11_67, wr_1_14, wr_11_70, by decide, rfl, (Nat.le_of_ble_eq_true rfl), (Nat.le_of_ble_eq_true rfl)⟩ wr_11_69 wr_p_111 hm629778 he629779 rfl (rm_gc hph629754 pk629776) (rm_gs hph629754 pk629776) (Nat.le_of_ble_eq_true rfl) (fun r631350 w631351 dc631347 ds631348 hp631349 => ?_) (fun _ _ _ _ _ z => z.elim)
                            obtain ⟨P631362, F631363, γ, el, o631352, rfl, rfl, hk631364, ⟨hr631365, hr631366⟩, hB631367, bo631352, x631353, x631354, x631355, x631356, x631357, x631358, x631359, x631360, x631361⟩ := hp631349
                            have hT631368 := hk631364.1
                            have hs631369 := rSk_tr hs629753 hk631364 (by decide) (by decide) (by decide)
                            have kp631370 : F631363 (γ0 9 3) = F589770 (γ0 9 3) := (rSk_F hk631364 (rSk_k hs629753 k0_3 (by decide) (by decide)) (by decide) (by decide)).trans x629770
                            have kp631371 : F631363 (γ0 9 19) = F624835 (γ0 9 19) := (rSk_F hk631364 (rSk_k hs629753 k0_19 (by decide) (by decide)) (by decide) (by decide)).trans x629766
                            have ht631372 : rKd γ q589771 10 := rSk_k hk631364 ht629773 (by decide) (by decide)
                            have ht631373 : rKd γ q589772 9 := rSk_k hk631364 ht629774 (by decide) (by decide)
                            have hf631374 : γ 1 q589772 = f := rSk_1 hk631364 ht629774 (by decide) hf629775
                            have ht631375 : rKd γ q628245 2 := rSk_k hk631364 ht629756 (by decide) (by decide)
                            have hf631376 : γ 1 q628245 = f := rSk_1 hk631364 ht629756 (by decide) hf629757
                            have ht631377 : rKd γ q629829 3 := rSk_k hk631364 ht629833 (by decide) (by decide)
                            have hf631378 : γ 1 q629829 = f := rSk_1 hk631364 ht629833 (by decide) hf629842
                            have ht631379 : rKd γ q631103 1 := rSk_k hk631364 ht631106 (by decide) (by decide)
                            have hf631380 : γ 1 q631103 = f := rSk_1 hk631364 ht631106 (by decide) hf631108
                            have he631381 : F631363 q631103 = .inr (20, [.int p631117, .int p631118, .int p631119, .int p631120, .int p631121, .int p631122, .int p631123]) := (rSk_F hk631364 ht631106 (by decide) (by decide)).trans he631116
                            have hm631382 : q631103 ∈ P631362 := RS_m hT631368 ht631379 (by decide)
                            clear bp629831 bp629832 r629840 r629841 rg631343 rm631344 bd631345 rc631346
                            have mk631383 : mKp (F589770 q589771) (F631363 q589771) := mKp_tr x629771 x631361
                            have hph631384 : rPh γ0 el0 f ≤ rPh γ el f := rm_ph hph629754 hr631366
                            have pk631385 : rPh γ el f ≤ 387 * B + 6000 := rm_pk (rM_ge hT631368 ht631373 hf631374).1 (rM_bd hB631367)
                            change G _ _ _ _ _ _ _ (.int o631352 :: _) _ _ _
                            refine G_widen (cs' := ((rPh γ el f - rPh γ0 el0 f) / 18)) (sl' := (rPh γ el f - rPh γ0 el0 f)) (rm_wc hph629754 hr631365) (rm_ws hph629754 hr631366) ?_
                            have sz631386 := x631353
                            have r631387 : 0 < γ 6 (γ 1 q589772) := by rw [hf631374]; omega
                            have hm631388 : q589771 ∈ P631362 := RS_m hT631368 ht631372 (by decide)
                            refine rk10_e (show rk_10 γ (F631363 q589771) from RS_o hT631368 ht631372) (fun q631390 q631391 p631392 p631393 p631394 p631395 p631396 p631397 p631398 p631399 p631400 p631401 p631402 p631403 p631404 p631405 p631406 he631389 hB631433 ht631407 ht631408 ht631409 ht631410 ht631411 ht631412 ht631413 ht631414 ht631415 ht631416 ht631417 ht631418 ht631419 ht631420 ht631421 ht631422 ht631423 ht631424 ht631425 ht631426 ht631427 ht631428 ht631429 ht631430 hB631434 => ?_)
                            have ac631435 : (fI (F631363 q589771) 11).toInt = p631394.toInt := by rw [he631389]; rfl
                            have bp631394 : gB p631394 0 100 := (hB631433.2.2.1)
                            have ac631436 : (fI (F631363 q589771) 14).toInt = p631397.toInt := by rw [he631389]; rfl
                            have bp631397 : gB p631397 0 2000 := (hB631433.2.2.2.1)
                            refine G_istore (L' := [(8, .int o631352), (7, .int p631120), (6, .int p631119), (5, .ref q631103), (4, .int g629749), (3, .ref q628245), (2, .int g628104), (0, .ref q589771), (1, .ref q589772)]) dr_cX17_spill_203 (Nat.le_of_ble_eq_true rfl) rfl ?_
                            refine G_iload 0 dr_cX17_spill_205 rfl ?_
                            refine G_if_ge 212 dr_cX17_spill_207 (by decide +kernel) (fun hc631437 => ?_) (fun hc631437 => ?_)
                            · have r631438 : 0 ≤ o631352.toInt := gj_leL hc631437 (show Int32.toInt 0 = 0 by decide)
                              have bo631352' : gB o631352 0 1999 := ⟨by omega, by omega⟩
                              have pl631440 := sp_ld (x631359.resolve_left (by omega)) pl631133.1 (tn_ge (by omega)) (rfl : ((g629749.toInt : Int).toNat + 1) = (g629749.toInt : Int).toNat + 1)
                              have hp631441 : rAt γ el q589772 (g628104.toInt : Int).toNat ((g629749.toInt : Int).toNat + 1) = q631103 := ((x631360.resolve_left (by omega)) (g629749.toInt : Int).toNat (Nat.le_refl _)).trans hp631130
                              have r631442 := x631357.resolve_left (by omega)
                              clear x631357 x631359 x631360
                              obtain ⟨z631443, hz631443⟩ : ∃ z : Int32, z = g629749 + Int32.ofInt 1 := ⟨_, rfl⟩
                              have ez631443 : z631443.toInt = g629749.toInt + 1 := gI_inc hz631443 (by decide) bg629749'' (by decide) (by decide)
                              have bz631443 : gB z631443 1 1000000 := ⟨by omega, by omega⟩
                              refine G_iinc (L' := [(4, .int z631443), (8, .int o631352), (7, .int p631120), (6, .int p631119), (5, .ref q631103), (3, .ref q628245), (2, .int g628104), (0, .ref q589771), (1, .ref q589772)]) z631443 4 dr_cX17_spill_212 rfl hz631443.symm (Nat.le_of_ble_eq_true rfl) rfl ?_
                              refine G_aload 4 dr_cX17_spill_215 rfl ?_
                              refine G_iload 1 dr_cX17_spill_217 rfl ?_
                              refine Gp_put 2 hm631382 he631381 dr_cX17_spill_219 (gk_X15 D I) (Nat.le_of_ble_eq_true rfl) wr_9_186 rfl rfl rfl (Nat.le_of_ble_eq_true rfl) (fun F631444 e631445 n631446 => ?_)
                              have r631447 := rk1_at hT631368 ht631379 he631381
                              have he631448 : F631444 q589771 = .inr (22, [.ref (γ 9 0), .ref (γ 9 1), .ref (γ 9 2), .ref (γ 9 3), .ref (γ 9 4), .ref (γ 9 5), .ref (γ 9 6), .ref (γ 9 7), .ref (γ 9 8), .int p631392, .int p631393, .int p631394, .int p631395, .int p631396, .int p631397, .ref (γ 9 15), .ref (γ 9 16), .ref (γ 9 17), .ref (γ 9 18), .ref (γ 9 19), .ref (γ 9 20), .ref (γ 9 21), .ref (γ 9 22), .int p631398, .int p631399, .int p631400, .int p631401, .int p631402, .ref q631390, .ref (γ 9 29), .int p631403, .ref (γ 9 31), .int p631404, .int p631405, .int p631406, .ref q631391]) := (n631446 q589771 (rn_oo he631389 he631381 (by decide))).trans he631389
                              have he631449 : F631444 q631103 = .inr (20, [.int p631117, .int p631118, .int o631352, .int p631120, .int p631121, .int p631122, .int p631123]) := e631445
                              have mk631450 : mKp (F589770 q589771) (F631444 q589771) := mKp_tr mk631383 (mKp_eq (n631446 q589771 (rn_ty ht631372 ht631379 (by decide))))
                              have kp631451 : F631444 (γ0 9 3) = F589770 (γ0 9 3) := (n631446 (γ0 9 3) (rn_ty (rSk_k hs631369 k0_3 (by decide) (by decide)) ht631379 (by decide))).trans kp631370
                              have kp631452 : F631444 (γ0 9 19) = F624835 (γ0 9 19) := (n631446 (γ0 9 19) (rn_ty (rSk_k hs631369 k0_19 (by decide) (by decide)) ht631379 (by decide))).trans kp631371
                              refine G_iload 2 dr_cX17_spill_222 rfl ?_
                              refine G_iload 3 dr_cX17_spill_224 rfl ?_
                              refine G_icmp_ne 236 dr_cX17_spill_226 (by decide +kernel) (fun hc631453 => ?_) (fun hc631453 => ?_)
                              · have r631454 : p631120.toInt ≠ p631119.toInt := gC_ne hc631453
                                have hT631455 : RS D I P631362 F631444 γ el := RS_set hT631368 n631446 ht631379 (by decide) ⟨p631117, p631118, o631352, p631120, p631121, p631122, p631123, he631449, bp631117, bp631118, bp631121, bp631122, bp631123, (gHe r631124), (Or.inr bo631352'), (gHe r631126), r631447.1, r631447.2⟩
                                have hs631457 := rSk_put hs631369 hT631455 n631446 ht631379 (by decide) (by decide) (Or.inr (Or.inl hf631380))
                                have hm631459 : q628245 ∈ P631362 := RS_m hT631455 ht631375 (by decide)
                                obtain ⟨q631461, q631462, p631463, p631464, he631460, ht631471, ht631465, ht631466, ht631467, ht631468, ht631469, bp631463, bp631464, r631470, r631472, r631473⟩ := show rk_2 γ q628245 (F631444 q628245) from RS_o hT631455 ht631375
                                have hf631474 : γ 1 q631461 = f := (show γ 1 q631461 = γ 1 q628245 from ht631466).trans hf631376
                                have hf631475 : γ 1 q631462 = f := (show γ 1 q631462 = γ 1 q628245 from ht631468).trans hf631376
                                have r631476 : γ 6 (γ 1 q628245) = γ 6 f := by rw [hf631376]
                                have r631477 : γ 7 (γ 1 q628245) = γ 7 f := by rw [hf631376]
                                have r631478 : γ 19 (γ 1 q628245) = γ 19 f := by rw [hf631376]
                                have r631479 := r631470.resolve_left (by omega)
                                clear r631470
                                have r631480 : γ 2 (γ 14 q628245) = γ 2 q631461 := by rw [ht631471.1]
                                have pl631458 := sp_put hT631368 ht631373 hf631374 pl631440 n631446 hp631441 (show (g628104.toInt : Int).toNat < γ 6 f from tn_lt (by omega) (by omega)) (by unfold rwL; rw [x631356.2.2]; exact tn_le1 (by omega) (by omega))
                                have ac631481 : (fI (F631444 q589771) 11).toInt = p631394.toInt := by rw [he631448]; rfl
                                have ac631482 : (fI (F631444 q589771) 14).toInt = p631397.toInt := by rw [he631448]; rfl
                                refine G_lv (L' := [(0, .ref q589771), (1, .ref q589772), (2, .int g628104), (3, .ref q628245), (4, .int z631443), (5, .ref q631103), (6, .int p631119), (7, .int p631120)]) [7, 8, 6, 5, 0, 4, 3, 2] rfl ?_
                                exact jn236_630410 P631362 F631444 γ el z631443 q631103 p631119 p631120 (gB_w bz631443 (by decide) (by decide)) (gB_w rb631161 (by decide) (by decide)) (gB_w rb631327 (by decide) (by decide)) hT631455 hs631457 hph631384 hB631367 ht631375 hf631376 x631356.2.1 x631356.2.2 ht631379 hf631380 (by omega) (by omega) (by omega) (by omega) (by omega) (by omega) kp631452 (by rw [(show (z631443.toInt : Int).toNat = ((g629749.toInt : Int).toNat + 1) from tn_eq1 (by omega) (by omega))]; exact pl631458) (by rw [(show (z631443.toInt : Int).toNat = ((g629749.toInt : Int).toNat + 1) from tn_eq1 (by omega) (by omega))]; exact hp631441) (rS1_of he631116 he631449 pl631133.2 (fun _ _ _ _ => Or.inl (by omega)) (fun _ _ _ => Or.inr ⟨rfl, rfl, by omega, Or.inl (by omega)⟩)) (by omega) (by omega) (ms_j hm90_629771 (by omega) (by omega) (by omega)) (eO_l (by omega)) kp631451 mk631450
                              · have r631483 : p631120.toInt = p631119.toInt := gC_eq hc631453
                                refine G_aload 4 dr_cX17_spill_229 rfl ?_
                                refine G_iload 1 dr_cX17_spill_231 rfl ?_
                                refine Gp_put 3 hm631382 he631449 dr_cX17_spill_233 (gk_X15 D I) (Nat.le_of_ble_eq_true rfl) wr_9_190 rfl rfl rfl (Nat.le_of_ble_eq_true rfl) (fun F631484 e631485 n631486 => ?_)
                                have he631487 : F631484 q589771 = .inr (22, [.ref (γ 9 0), .ref (γ 9 1), .ref (γ 9 2), .ref (γ 9 3), .ref (γ 9 4), .ref (γ 9 5), .ref (γ 9 6), .ref (γ 9 7), .ref (γ 9 8), .int p631392, .int p631393, .int p631394, .int p631395, .int p631396, .int p631397, .ref (γ 9 15), .ref (γ 9 16), .ref (γ 9 17), .ref (γ 9 18), .ref (γ 9 19), .ref (γ 9 20), .ref (γ 9 21), .ref (γ 9 22), .int p631398, .int p631399, .int p631400, .int p631401, .int p631402, .ref q631390, .ref (γ 9 29), .int p631403, .ref (γ 9 31), .int p631404, .int p631405, .int p631406, .ref q631391]) := (n631486 q589771 (rn_oo he631448 he631449 (by decide))).trans he631448
                                have he631488 : F631484 q631103 = .inr (20, [.int p631117, .int p631118, .int o631352, .int o631352, .int p631121, .int p631122, .int p631123]) := e631485
                                have mk631489 : mKp (F589770 q589771) (F631484 q589771) := mKp_tr mk631450 (mKp_eq (n631486 q589771 (rn_ty ht631372 ht631379 (by decide))))
                                have n631490 : ∀ b, b ≠ q631103 → F631484 b = F631363 b := fun b hb => (n631486 b hb).trans (n631446 b hb)
                                have kp631491 : F631484 (γ0 9 3) = F589770 (γ0 9 3) := (n631486 (γ0 9 3) (rn_ty (rSk_k hs631369 k0_3 (by decide) (by decide)) ht631379 (by decide))).trans kp631451
                                have kp631492 : F631484 (γ0 9 19) = F624835 (γ0 9 19) := (n631486 (γ0 9 19) (rn_ty (rSk_k hs631369 k0_19 (by decide) (by decide)) ht631379 (by decide))).trans kp631452
                                have hT631493 : RS D I P631362 F631484 γ el := RS_set hT631368 n631490 ht631379 (by decide) ⟨p631117, p631118, o631352, o631352, p631121, p631122, p631123, he631488, bp631117, bp631118, bp631121, bp631122, bp631123, (gHe r631124), (Or.inr bo631352'), (Or.inr bo631352'), r631447.1, r631447.2⟩
                                have hs631495 := rSk_put hs631369 hT631493 n631490 ht631379 (by decide) (by decide) (Or.inr (Or.inl hf631380))
                                have hm631497 : q628245 ∈ P631362 := RS_m hT631493 ht631375 (by decide)
                                obtain ⟨q631499, q631500, p631501, p631502, he631498, ht631509, ht631503, ht631504, ht631505, ht631506, ht631507, bp631501, bp631502, r631508, r631510, r631511⟩ := show rk_2 γ q628245 (F631484 q628245) from RS_o hT631493 ht631375
                                have hf631512 : γ 1 q631499 = f := (show γ 1 q631499 = γ 1 q628245 from ht631504).trans hf631376
                                have hf631513 : γ 1 q631500 = f := (show γ 1 q631500 = γ 1 q628245 from ht631506).trans hf631376
                                have r631514 : γ 6 (γ 1 q628245) = γ 6 f := by rw [hf631376]
                                have r631515 : γ 7 (γ 1 q628245) = γ 7 f := by rw [hf631376]
                                have r631516 : γ 19 (γ 1 q628245) = γ 19 f := by rw [hf631376]
                                have r631517 := r631508.resolve_left (by omega)
                                clear r631508
                                have r631518 : γ 2 (γ 14 q628245) = γ 2 q631499 := by rw [ht631509.1]
                                have pl631496 := sp_put hT631368 ht631373 hf631374 pl631440 n631490 hp631441 (show (g628104.toInt : Int).toNat < γ 6 f from tn_lt (by omega) (by omega)) (by unfold rwL; rw [x631356.2.2]; exact tn_le1 (by omega) (by omega))
                                have ac631519 : (fI (F631484 q589771) 11).toInt = p631394.toInt := by rw [he631487]; rfl
                                have ac631520 : (fI (F631484 q589771) 14).toInt = p631397.toInt := by rw [he631487]; rfl
                                refine G_lv (L' := [(0, .ref q589771), (1, .ref q589772), (2, .int g628104), (3, .ref q628245), (4, .int z631443), (5, .ref q631103), (6, .int p631119), (7, .int p631120)]) [7, 8, 6, 5, 0, 4, 3, 2] rfl ?_
                                exact jn236_630410 P631362 F631484 γ el z631443 q631103 p631119 p631120 (gB_w bz631443 (by decide) (by decide)) (gB_w rb631161 (by decide) (by decide)) (gB_w rb631327 (by decide) (by decide)) hT631493 hs631495 hph631384 hB631367 ht631375 hf631376 x631356.2.1 x631356.2.2 ht631379 hf631380 (by omega) (by omega) (by omega) (by omega) (by omega) (by omega) kp631492 (by rw [(show (z631443.toInt : Int).toNat = ((g629749.toInt : Int).toNat + 1) from tn_eq1 (by omega) (by omega))]; exact pl631496) (by rw [(show (z631443.toInt : Int).toNat = ((g629749.toInt : Int).toNat + 1) from tn_eq1 (by omega) (by omega))]; exact hp631441) (rS1_of he631116 he631488 pl631133.2 (fun _ _ _ _ => Or.inl (by omega)) (fun _ _ _ => Or.inl (by omega))) (by omega) (by omega) (ms_j hm90_629771 (by omega) (by omega) (by omega)) (eO_l (by omega)) kp631491 mk631489
                            · have r631521 : o631352.toInt < 0 := gj_nleL hc631437 (show Int32.toInt 0 = 0 by decide)
                              have bo631352' : gB o631352 (-1) (-1) := ⟨by omega, by omega⟩
                              refine G_iconst 0 dr_cX17_spill_210 (by decide +kernel) ?_
                              exact G_zretA FieldType.boolean dr_cX17_spill_211 rfl rfl (rm_zc pk631385) (rm_zs pk631385) ⟨P631362, F631363, γ, el, 0, rfl, rfl, hs631369, (rm_pp hph631384), hB631367, (gB_w (gBl (show Int32.toInt 0 = 0 by decide)) (by decide) (by decide)), (by have qa0 : Int32.toInt 0 = 0 := (by decide); omega), (Or.inl (by decide)), kp631370, mk631383⟩
              have ac631522 : (fI (F628106 q589771) 11).toInt = p628133.toInt := by rw [he628128]; rfl
              have ac631523 : (fI (F628106 q589771) 14).toInt = p628136.toInt := by rw [he628128]; rfl
              exact hlp90_629771 ((γ 2 (γ 14 q628245) + 1 - (0 : Int).toNat) + 1) P628105 F628106 γ el 0 (gB_w (gBl (show Int32.toInt 0 = 0 by decide)) (by decide) (by decide)) hT628107 hs628108 hph628109 hB628110 ht628250 hf628273 r628281 r628282 (by have qa0 : Int32.toInt 0 = 0 := (by decide); omega) (by have qa0 : Int32.toInt 0 = 0 := (by decide); omega) (by have qa0 : Int32.toInt 0 = 0 := (by decide); omega) (by have qa0 : Int32.toInt 0 = 0 := (by decide); omega) (by have qa0 : Int32.toInt 0 = 0 := (by decide); omega) (by have qa0 : Int32.toInt 0 = 0 := (by decide); omega) x628117 (by have qa : Int32.toInt 0 = 0 := (by decide); rw [qa]; exact x628118) (by have qa0 : Int32.toInt 0 = 0 := (by decide); omega) (by have qa0 : Int32.toInt 0 = 0 := (by decide); omega) x628119 x628120 (Nat.lt_succ_self _)
        have ac631524 : (fI (F624835 q589771) 11).toInt = p624941.toInt := by rw [he624936]; rfl
        have ac631525 : (fI (F624835 q589771) 14).toInt = p624944.toInt := by rw [he624936]; rfl
        exact hlp73_628120 (((1000001 : Int) - 0).toNat + 1) P624834 F624835 γ el 0 (gB_w (gBl (show Int32.toInt 0 = 0 by decide)) (by decide) (by decide)) hT624926 hs624927 hph624985 hB624984 (by have qa0 : Int32.toInt 0 = 0 := (by decide); omega) (by have qa0 : Int32.toInt 0 = 0 := (by decide); omega) (by have qa0 : Int32.toInt 0 = 0 := (by decide); omega) (by have qa0 : Int32.toInt 0 = 0 := (by decide); omega) (by have qa0 : Int32.toInt 0 = 0 := (by decide); omega) (by have qa0 : Int32.toInt 0 = 0 := (by decide); omega) kp624929 (by have qa : Int32.toInt 0 = 0 := (by decide); rw [qa]; exact pl624988) kp624928 mk624934 (Nat.lt_succ_self _)
      · have r631526 : g624833.toInt < 2000 := gj_nleL hc624916 (show Int32.toInt 2000 = 2000 by decide)
        have bg624833' : gB g624833 0 1999 := ⟨by omega, by omega⟩
        refine G_aload_n 1 dr_cX17_spill_9 rfl ?_
        refine Gp_get 19 hm624854 he624855 dr_cX17_spill_10 (gk_X17 D I) (Nat.le_of_ble_eq_true rfl) wr_7_93 rfl ?_
        refine G_iload_n 0 dr_cX17_spill_13 rfl ?_
        refine G_iconst (-1) dr_cX17_spill_14 (by decide +kernel) ?_
        refine Gp_iast 0 hm624908 he624909 dr_cX17_spill_15 rfl (gB_in bg624833' (by decide) (by decide)) (fun F631527 e631528 n631529 => ?_)
        obtain ⟨f631530, hf631530⟩ : ∃ z, z = upd f624910 g624833.toNatClampNeg (-1) := ⟨_, rfl⟩
        rw [← hf631530] at e631528
        have he631531 : F631527 q589771 = .inr (22, [.ref (γ 9 0), .ref (γ 9 1), .ref (γ 9 2), .ref (γ 9 3), .ref (γ 9 4), .ref (γ 9 5), .ref (γ 9 6), .ref (γ 9 7), .ref (γ 9 8), .int p624858, .int p624859, .int p624860, .int p624861, .int p624862, .int p624863, .ref (γ 9 15), .ref (γ 9 16), .ref (γ 9 17), .ref (γ 9 18), .ref (γ 9 19), .ref (γ 9 20), .ref (γ 9 21), .ref (γ 9 22), .int p624864, .int p624865, .int p624866, .int p624867, .int p624868, .ref q624856, .ref (γ 9 29), .int p624869, .ref (γ 9 31), .int p624870, .int p624871, .int p624872, .ref q624857]) := (n631529 q589771 (rn_oa he624855 he624909)).trans he624855
        have he631532 : F631527 (γ 9 3) = .inl (I .boolean, 2000, .inl f624906) := (n631529 (γ 9 3) (rn_ty ht624878 ht624888 (by decide))).trans he624905
        have he631533 : F631527 (γ 9 17) = .inl (I .int, 2000, .inl f624914) := (n631529 (γ 9 17) (rn_ty ht624886 ht624888 (by decide))).trans he624913
        have he631534 : F631527 (γ 9 19) = .inl (I .int, 2000, .inl f631530) := e631528
        have mk631535 : mKp (F589770 q589771) (F631527 q589771) := mKp_tr x624848 (mKp_eq (n631529 q589771 (rn_ty ht624850 ht624888 (by decide))))
        have kp631536 : F631527 (γ0 9 3) = F589770 (γ0 9 3) := (n631529 (γ0 9 3) (rn_ty (rSk_k hs624837 k0_3 (by decide) (by decide)) ht624888 (by decide))).trans x624847
        have bf631530 : gF f631530 (-1) 1999 := gF_upd hf631530 bf624910 (gB_w (gBl (show Int32.toInt (-1) = (-1) by decide)) (by decide) (by decide))
        have hT631537 : RS D I P624834 F631527 γ el := RS_set hT624836 n631529 ht624888 (by decide) ⟨f631530, he631534, bf631530⟩
        have hs631539 := rSk_put hs624837 hT631537 n631529 ht624888 (by decide) (by decide) (Or.inr (Or.inr (by decide)))
        have pl631540 := rPl_fr hT624836 ht624851 hf624852 x624846 (fun b hb _ => n631529 b (rn_ty (show rKd γ b 1 from hb) ht624888 (by decide)))
        refine G_aload_n 1 dr_cX17_spill_16 rfl ?_
        refine Gp_get 3 hm624854 he631531 dr_cX17_spill_17 (gk_X17 D I) (Nat.le_of_ble_eq_true rfl) wr_7_77 rfl ?_
        refine G_iload_n 0 dr_cX17_spill_20 rfl ?_
        refine Gp_zald 3 hm624904 he631532 dr_cX17_spill_21 rfl (gB_in bg624833' (by decide) (by decide)) (G_nam fun z631541 hz631541 => ?_)
        have bz631541 : gB z631541 0 1 := by rw [hz631541]; exact bf624906 _
        refine G_if_eq 65 dr_cX17_spill_22 (by decide +kernel) (fun hc631542 => ?_) (fun hc631542 => ?_)
        · have r631543 : z631541.toInt = 0 := gj_eq hc631542 (show Int32.toInt 0 = 0 by decide)
          have bz631541' : gB z631541 0 0 := gB_t0 r631543
          obtain ⟨z631544, hz631544⟩ : ∃ z : Int32, z = g624833 + Int32.ofInt 1 := ⟨_, rfl⟩
          have ez631544 : z631544.toInt = g624833.toInt + 1 := gI_inc hz631544 (by decide) bg624833' (by decide) (by decide)
          have bz631544 : gB z631544 1 2000 := ⟨by omega, by omega⟩
          refine G_iinc (L' := [(2, .int z631544), (0, .ref q589771), (1, .ref q589772)]) z631544 0 dr_cX17_spill_65 rfl hz631544.symm (Nat.le_of_ble_eq_true rfl) rfl ?_
          refine G_goto 2 dr_cX17_spill_68 (by decide +kernel) ?_
          have ac631545 : (fI (F631527 q589771) 11).toInt = p624860.toInt := by rw [he631531]; rfl
          have ac631546 : (fI (F631527 q589771) 14).toInt = p624863.toInt := by rw [he631531]; rfl
          have c9_631547 : cB (F589770 (γ0 9 3)) = f624906 := by rw [← kp631536, ← congrFun (rSk_9 hs631539) 3]; exact cB_of he631532
          have c9_631548 : cB (F631527 (γ0 9 19)) = f631530 := by rw [← congrFun (rSk_9 hs631539) 19]; exact cB_of he631534
          exact ih2_624848 P624834 F631527 γ el z631544 (gB_w bz631544 (by decide) (by decide)) hT631537 hs631539 hph624838 hB624839 (by omega) (by omega) (by omega) (by omega) (by omega) (by rw [c9_631547, c9_631548, ac631545]; exact spI_n (h2 := fun _ => 0) hf631530 (by decide) (by omega) ez631544 cq624915) pl631540 kp631536 mk631535 (by omega)
        · have r631549 : z631541.toInt ≠ 0 := gj_neq hc631542 (show Int32.toInt 0 = 0 by decide)
          have bz631541' : gB z631541 1 1 := gB_t1 bz631541 r631549
          refine G_aload_n 1 dr_cX17_spill_25 rfl ?_
          refine Gp_get 17 hm624854 he631531 dr_cX17_spill_26 (gk_X17 D I) (Nat.le_of_ble_eq_true rfl) wr_7_91 rfl ?_
          refine G_iload_n 0 dr_cX17_spill_29 rfl ?_
          refine Gp_iald 0 hm624912 he631533 dr_cX17_spill_30 rfl (gB_in bg624833' (by decide) (by decide)) (G_nam fun z631550 hz631550 => ?_)
          have bz631550 : gB z631550 (-1) 31 := by rw [hz631550]; exact bf624914 _
          refine G_if_lt 37 dr_cX17_spill_31 (by decide +kernel) (fun hc631551 => ?_) (fun hc631551 => ?_)
          · have r631552 : z631550.toInt < 0 := gj_lt hc631551 (show Int32.toInt 0 = 0 by decide)
            have bz631550' : gB z631550 (-1) (-1) := ⟨by omega, by omega⟩
            refine G_iload_n 0 dr_cX17_spill_37 rfl ?_
            refine G_bipush 100 dr_cX17_spill_38 (by decide +kernel) ?_
            refine G_icmp_lt 45 dr_cX17_spill_40 (by decide +kernel) (fun hc631553 => ?_) (fun hc631553 => ?_)
            · have r631554 : g624833.toInt < 100 := gj_lt hc631553 (show Int32.toInt 100 = 100 by decide)
              have bg624833'' : gB g624833 0 99 := ⟨by omega, by omega⟩
              refine G_aload_n 1 dr_cX17_spill_45 rfl ?_
              refine Gp_get 19 hm624854 he631531 dr_cX17_spill_46 (gk_X17 D I) (Nat.le_of_ble_eq_true rfl) wr_7_93 rfl ?_
              refine G_iload_n 0 dr_cX17_spill_49 rfl ?_
              refine G_aload_n 1 dr_cX17_spill_50 rfl ?_
              refine Gp_get 11 hm624854 he631531 dr_cX17_spill_51 (gk_X17 D I) (Nat.le_of_ble_eq_true rfl) wr_7_85 rfl ?_
              refine Gp_iast 0 hm624908 he631534 dr_cX17_spill_54 rfl (gB_in bg624833'' (by decide) (by decide)) (fun F631555 e631556 n631557 => ?_)
              obtain ⟨f631558, hf631558⟩ : ∃ z, z = upd f631530 g624833.toNatClampNeg p624860 := ⟨_, rfl⟩
              rw [← hf631558] at e631556
              have he631559 : F631555 q589771 = .inr (22, [.ref (γ 9 0), .ref (γ 9 1), .ref (γ 9 2), .ref (γ 9 3), .ref (γ 9 4), .ref (γ 9 5), .ref (γ 9 6), .ref (γ 9 7), .ref (γ 9 8), .int p624858, .int p624859, .int p624860, .int p624861, .int p624862, .int p624863, .ref (γ 9 15), .ref (γ 9 16), .ref (γ 9 17), .ref (γ 9 18), .ref (γ 9 19), .ref (γ 9 20), .ref (γ 9 21), .ref (γ 9 22), .int p624864, .int p624865, .int p624866, .int p624867, .int p624868, .ref q624856, .ref (γ 9 29), .int p624869, .ref (γ 9 31), .int p624870, .int p624871, .int p624872, .ref q624857]) := (n631557 q589771 (rn_oa he631531 he631534)).trans he631531
              have he631560 : F631555 (γ 9 3) = .inl (I .boolean, 2000, .inl f624906) := (n631557 (γ 9 3) (rn_ty ht624878 ht624888 (by decide))).trans he631532
              have he631561 : F631555 (γ 9 17) = .inl (I .int, 2000, .inl f624914) := (n631557 (γ 9 17) (rn_ty ht624886 ht624888 (by decide))).trans he631533
              have he631562 : F631555 (γ 9 19) = .inl (I .int, 2000, .inl f631558) := e631556
              have mk631563 : mKp (F589770 q589771) (F631555 q589771) := mKp_tr mk631535 (mKp_eq (n631557 q589771 (rn_ty ht624850 ht624888 (by decide))))
              have kp631564 : F631555 (γ0 9 3) = F589770 (γ0 9 3) := (n631557 (γ0 9 3) (rn_ty (rSk_k hs631539 k0_3 (by decide) (by decide)) ht624888 (by decide))).trans kp631536
              have bf631558 : gF f631558 (-1) 1999 := gF_upd hf631558 bf631530 (gB_w bp624860 (by decide) (by decide))
              have hT631565 : RS D I P624834 F631555 γ el := RS_set hT631537 n631557 ht624888 (by decide) ⟨f631558, he631562, bf631558⟩
              have of631566 : ∀ b, b ≠ (γ 9 19) → F631555 b = F624835 b := fun b hb => (n631557 b hb).trans (n631529 b hb)
              have hs631567 := rSk_put hs631539 hT631565 n631557 ht624888 (by decide) (by decide) (Or.inr (Or.inr (by decide)))
              have pl631568 := rPl_fr hT631537 ht624851 hf624852 pl631540 (fun b hb _ => n631557 b (rn_ty (show rKd γ b 1 from hb) ht624888 (by decide)))
              have cq631569 := spI_s (r1 := g624833.toInt + 1) (s1 := p624860.toInt + 1) hf631530 hf631558 rfl (by omega) (by omega) rfl (by omega) (sd_of hz631541 (by omega) (by omega) (by omega)) rfl cq624915
              have r631570 := cq631569.2
              have r631571 := cq624915.1
              have r631572 := x589776
              rw [c9_624907] at r631572
              have bp624860' : gB p624860 0 99 := ⟨by omega, by omega⟩
              refine G_aload_n 1 dr_cX17_spill_55 rfl ?_
              refine G_dup dr_cX17_spill_56 rfl ?_
              refine Gp_get 11 hm624854 he631559 dr_cX17_spill_57 (gk_X17 D I) (Nat.le_of_ble_eq_true rfl) wr_7_85 rfl ?_
              refine G_iconst 1 dr_cX17_spill_60 (by decide +kernel) ?_
              refine G_iadd dr_cX17_spill_61 (G_nam fun z631573 hz631573 => ?_)
              have ez631573 : z631573.toInt = p624860.toInt + 1 := by rw [gI_add hz631573 bp624860' (gBl (show Int32.toInt 1 = 1 by decide)) (by decide) (by decide), show Int32.toInt 1 = 1 from by decide]
              have bz631573 : gB z631573 1 100 := gB_add (gI_add hz631573 bp624860' (gBl (show Int32.toInt 1 = 1 by decide)) (by decide) (by decide)) bp624860' (gBl (show Int32.toInt 1 = 1 by decide)) (by decide) (by decide)
              refine Gp_put 11 hm624854 he631559 dr_cX17_spill_62 (gk_X17 D I) (Nat.le_of_ble_eq_true rfl) wr_7_85 rfl rfl rfl (Nat.le_of_ble_eq_true rfl) (fun F631574 e631575 n631576 => ?_)
              have he631577 : F631574 (γ 9 3) = .inl (I .boolean, 2000, .inl f624906) := (n631576 (γ 9 3) (rn_ao he631560 he631559)).trans he631560
              have he631578 : F631574 (γ 9 19) = .inl (I .int, 2000, .inl f631558) := (n631576 (γ 9 19) (rn_ao he631562 he631559)).trans he631562
              have he631579 : F631574 (γ 9 17) = .inl (I .int, 2000, .inl f624914) := (n631576 (γ 9 17) (rn_ao he631561 he631559)).trans he631561
              have he631580 : F631574 q589771 = .inr (22, [.ref (γ 9 0), .ref (γ 9 1), .ref (γ 9 2), .ref (γ 9 3), .ref (γ 9 4), .ref (γ 9 5), .ref (γ 9 6), .ref (γ 9 7), .ref (γ 9 8), .int p624858, .int p624859, .int z631573, .int p624861, .int p624862, .int p624863, .ref (γ 9 15), .ref (γ 9 16), .ref (γ 9 17), .ref (γ 9 18), .ref (γ 9 19), .ref (γ 9 20), .ref (γ 9 21), .ref (γ 9 22), .int p624864, .int p624865, .int p624866, .int p624867, .int p624868, .ref q624856, .ref (γ 9 29), .int p624869, .ref (γ 9 31), .int p624870, .int p624871, .int p624872, .ref q624857]) := e631575
              have mk631581 : mKp (F589770 q589771) (F631574 q589771) := mKp_tr mk631563 (by rw [he631559, he631580]; exact ⟨rfl, rfl⟩)
              have kp631582 : F631574 (γ0 9 3) = F589770 (γ0 9 3) := (n631576 (γ0 9 3) (rn_ty (rSk_k hs631567 k0_3 (by decide) (by decide)) ht624850 (by decide))).trans kp631564
              have kp631583 : F631574 (γ0 9 19) = F631555 (γ0 9 19) := n631576 (γ0 9 19) (rn_ty (rSk_k hs631567 k0_19 (by decide) (by decide)) ht624850 (by decide))
              have hT631584 : RS D I P624834 F631574 γ el := RS_set hT631565 n631576 ht624850 (by decide) ⟨q624856, q624857, p624858, p624859, z631573, p624861, p624862, p624863, p624864, p624865, p624866, p624867, p624868, p624869, p624870, p624871, p624872, he631580, ⟨(hB624899.1), (hB624899.2.1), (gB_w bz631573 (by decide) (by decide)), bp624863, (hB624899.2.2.2.2.1), (hB624899.2.2.2.2.2.1), (hB624899.2.2.2.2.2.2.1), (hB624899.2.2.2.2.2.2.2.1), (hB624899.2.2.2.2.2.2.2.2)⟩, ht624873, ht624874, ht624875, ht624876, ht624877, ht624878, ht624879, ht624880, ht624881, ht624882, ht624883, ht624884, ht624885, ht624886, ht624887, ht624888, ht624889, ht624890, ht624891, ht624892, ht624893, ht624894, ht624895, ht624896, hB624900⟩
              have hs631586 := rSk_put hs631567 hT631584 n631576 ht624850 (by decide) (by decide) (Or.inr (Or.inr (by decide)))
              have pl631587 := rPl_fr hT631565 ht624851 hf624852 pl631568 (fun b hb _ => n631576 b (rn_ty (show rKd γ b 1 from hb) ht624850 (by decide)))
              obtain ⟨z631588, hz631588⟩ : ∃ z : Int32, z = g624833 + Int32.ofInt 1 := ⟨_, rfl⟩
              have ez631588 : z631588.toInt = g624833.toInt + 1 := gI_inc hz631588 (by decide) bg624833'' (by decide) (by decide)
              have bz631588 : gB z631588 1 100 := ⟨by omega, by omega⟩
              refine G_iinc (L' := [(2, .int z631588), (0, .ref q589771), (1, .ref q589772)]) z631588 0 dr_cX17_spill_65 rfl hz631588.symm (Nat.le_of_ble_eq_true rfl) rfl ?_
              refine G_goto 2 dr_cX17_spill_68 (by decide +kernel) ?_
              have ac631589 : (fI (F631574 q589771) 11).toInt = z631573.toInt := by rw [he631580]; rfl
              have ac631590 : (fI (F631574 q589771) 14).toInt = p624863.toInt := by rw [he631580]; rfl
              have c9_631591 : cB (F589770 (γ0 9 3)) = f624906 := by rw [← kp631582, ← congrFun (rSk_9 hs631586) 3]; exact cB_of he631577
              have c9_631592 : cB (F631574 (γ0 9 19)) = f631558 := by rw [← congrFun (rSk_9 hs631586) 19]; exact cB_of he631578
              exact ih2_624848 P624834 F631574 γ el z631588 (gB_w bz631588 (by decide) (by decide)) hT631584 hs631586 hph624838 hB624839 (by omega) (by omega) (by omega) (by omega) (by omega) (by rw [c9_631591, c9_631592, ac631589, ez631588, ez631573]; exact cq631569.1) pl631587 kp631582 mk631581 (by omega)
            · have r631593 : 100 ≤ g624833.toInt := gj_nlt hc631553 (show Int32.toInt 100 = 100 by decide)
              have bg624833'' : gB g624833 100 1999 := ⟨by omega, by omega⟩
              refine G_iconst 0 dr_cX17_spill_43 (by decide +kernel) ?_
              exact G_zretA FieldType.boolean dr_cX17_spill_44 rfl rfl (rm_zc pk624853) (rm_zs pk624853) ⟨P624834, F631527, γ, el, 0, rfl, rfl, hs631539, (rm_pp hph624838), hB624839, (gB_w (gBl (show Int32.toInt 0 = 0 by decide)) (by decide) (by decide)), (by have qa0 : Int32.toInt 0 = 0 := (by decide); omega), (Or.inl (by decide)), kp631536, mk631535⟩
          · have r631594 : 0 ≤ z631550.toInt := gj_nlt hc631551 (show Int32.toInt 0 = 0 by decide)
            have bz631550' : gB z631550 0 31 := ⟨by omega, by omega⟩
            refine G_goto 65 dr_cX17_spill_34 (by decide +kernel) ?_
            obtain ⟨z631595, hz631595⟩ : ∃ z : Int32, z = g624833 + Int32.ofInt 1 := ⟨_, rfl⟩
            have ez631595 : z631595.toInt = g624833.toInt + 1 := gI_inc hz631595 (by decide) bg624833' (by decide) (by decide)
            have bz631595 : gB z631595 1 2000 := ⟨by omega, by omega⟩
            refine G_iinc (L' := [(2, .int z631595), (0, .ref q589771), (1, .ref q589772)]) z631595 0 dr_cX17_spill_65 rfl hz631595.symm (Nat.le_of_ble_eq_true rfl) rfl ?_
            refine G_goto 2 dr_cX17_spill_68 (by decide +kernel) ?_
            have ac631596 : (fI (F631527 q589771) 11).toInt = p624860.toInt := by rw [he631531]; rfl
            have ac631597 : (fI (F631527 q589771) 14).toInt = p624863.toInt := by rw [he631531]; rfl
            have c9_631598 : cB (F589770 (γ0 9 3)) = f624906 := by rw [← kp631536, ← congrFun (rSk_9 hs631539) 3]; exact cB_of he631532
            have c9_631599 : cB (F631527 (γ0 9 19)) = f631530 := by rw [← congrFun (rSk_9 hs631539) 19]; exact cB_of he631534
            exact ih2_624848 P624834 F631527 γ el z631595 (gB_w bz631595 (by decide) (by decide)) hT631537 hs631539 hph624838 hB624839 (by omega) (by omega) (by omega) (by omega) (by omega) (by rw [c9_631598, c9_631599, ac631596]; exact spI_n (h2 := fun _ => 0) hf631530 (by decide) (by omega) ez631595 cq624915) pl631540 kp631536 mk631535 (by omega)
  exact hlp2_624848 (((2001 : Int) - 0).toNat + 1) P589769 F589770 γ el 0 (gB_w (gBl (show Int32.toInt 0 = 0 by decide)) (by decide) (by decide)) hT hst hph hB (by have qa0 : Int32.toInt 0 = 0 := (by decide); omega) (by have qa0 : Int32.toInt 0 = 0 := (by decide); omega) (by have qa0 : Int32.toInt 0 = 0 := (by decide); omega) (by have qa0 : Int32.toInt 0 = 0 := (by decide); omega) (by have qa0 : Int32.toInt 0 = 0 := (by decide); omega) (by have qa : Int32.toInt 0 = 0 := (by decide); rw [qa]; exact spI_0) (by rw [hγ0, hel0]; exact x589777) rfl mKp_rf (Nat.lt_succ_self _)
